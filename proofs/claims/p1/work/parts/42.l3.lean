set_option maxHeartbeats 4000000 in
set_option maxRecDepth 100000 in
theorem law_12 {p : Program} {l : Launch} {e : Env} {s : State} {m : MethodId} {below : List Frame} {meth : Method} {c : Code} {D : va_G} {E : Nat → Nat} {b : Nat} {xs : Nat → Int32} {qx : Nat} {ax : Nat → Nat} {bx : Nat → Nat → Nat} {fw : Nat → Int32} {qm : Nat} {cm : Nat → Nat} {fm : Nat → Int32} {H : Heap} {locs : List Loc} {ls : Array Slot} (hx : p.tables.exec = Jvm.exec) (hb : c.code = code) (hr : meth.sig.returnType = ret) (hml : c.maxLocals = 4) (hown : s.vm.findClass R_law = some m.cls) (htb : ∀ w ∈ tb, w.before #[Value.ref b] s = true) (hK : KX D E s) (hX : va_X b 6 xs s s.heap) (hbl : b < s.heap.size) (hlocks : meth.locks = false) (hP : va_P D vwCl (LW E qx ax bx fw qm cm fm) H) (hD : va_D (fun q : Nat => s.heap.size ≤ q) (LW E qx ax bx fw qm cm fm)) (hS : va_S (fun q : Nat => s.heap.size ≤ q) s.heap H locs) (hl : lv_has ls 4 [(3, .int 0), (2, .ref qm), (1, .ref qx), (0, .ref b)]) : W p l e room_1 s m #[Value.ref b] below meth c H locs 123 44666 (lw_Z below #[Value.ref b] s) (F0 m 598 ls []) := by
  have hA : ∀ q : Nat, s.heap.size ≤ q → (fun q : Nat => s.heap.size ≤ q) q := fun _ h => h
  have hbA : ¬ (fun q : Nat => s.heap.size ≤ q) b := Nat.not_le.mpr hbl
  refine lv_aload_n hx hb dL_law_598 rfl (lv_at hl 2 rfl) ?_
  refine lv_aload_n hx hb dL_law_599 rfl (lv_at hl 3 rfl) ?_
  refine lv_iload_n hx hb dL_law_600 rfl (lv_at hl 0 rfl) ?_
  refine lv_iconst (v := 1) hx hb dL_law_601 (by decide) ?_
  refine lv_iadd hx hb dL_law_602 ?_
  refine W_top (y := .int 1) (by decide) ?_
  refine va_sld hx hb hX hbl hbA hS (g_in t_1 (by decide) (by decide)) dL_law_603 ?_
  refine W_top (y := .int (xs 1)) (congrArg (fun n => Value.int (xs n)) (by decide : (1 : Int32).toNatClampNeg = 1)) ?_
  refine lv_aload_n hx hb dL_law_604 rfl (lv_at hl 3 rfl) ?_
  refine lv_iload_n hx hb dL_law_605 rfl (lv_at hl 0 rfl) ?_
  refine lv_iconst (v := 2) hx hb dL_law_606 (by decide) ?_
  refine lv_iadd hx hb dL_law_607 ?_
  refine W_top (y := .int 2) (by decide) ?_
  refine va_sld hx hb hX hbl hbA hS (g_in t_2 (by decide) (by decide)) dL_law_608 ?_
  refine W_top (y := .int (xs 2)) (congrArg (fun n => Value.int (xs n)) (by decide : (2 : Int32).toNatClampNeg = 2)) ?_
  refine lv_aload_n hx hb dL_law_609 rfl (lv_at hl 3 rfl) ?_
  refine lv_iload_n hx hb dL_law_610 rfl (lv_at hl 0 rfl) ?_
  refine lv_iconst (v := 3) hx hb dL_law_611 (by decide) ?_
  refine lv_iadd hx hb dL_law_612 ?_
  refine W_top (y := .int 3) (by decide) ?_
  refine va_sld hx hb hX hbl hbA hS (g_in t_3 (by decide) (by decide)) dL_law_613 ?_
  refine W_top (y := .int (xs 3)) (congrArg (fun n => Value.int (xs n)) (by decide : (3 : Int32).toNatClampNeg = 3)) ?_
  refine lv_aload_n hx hb dL_law_614 rfl (lv_at hl 3 rfl) ?_
  refine lv_iload_n hx hb dL_law_615 rfl (lv_at hl 0 rfl) ?_
  refine lv_iconst (v := 4) hx hb dL_law_616 (by decide) ?_
  refine lv_iadd hx hb dL_law_617 ?_
  refine W_top (y := .int 4) (by decide) ?_
  refine va_sld hx hb hX hbl hbA hS (g_in t_4 (by decide) (by decide)) dL_law_618 ?_
  refine W_top (y := .int (xs 4)) (congrArg (fun n => Value.int (xs n)) (by decide : (4 : Int32).toNatClampNeg = 4)) ?_
  have hPc := hP.sub (ws' := [(qx, .inr (8, xF ax 0)), ((ax 6), .inr (2, [.ref (ax 18), .ref (ax 19), .ref (ax 20), .ref (ax 21), .ref (ax 22), .int 0])), ((ax 18), .inl (E 0, 60, .inl (fun _ => 0))), ((ax 19), .inl (E 0, 60, .inl (fun _ => 0))), ((ax 20), .inl (E 0, 60, .inl (fun _ => 0))), ((ax 21), .inl (E 0, 60, .inl (fun _ => 0))), ((ax 22), .inl (E 0, 60, .inl (fun _ => 0)))]) [0, 11, 12, 13, 14, 15, 16] rfl
  have hDc := hD.sub (ws' := [(qx, .inr (8, xF ax 0)), ((ax 6), .inr (2, [.ref (ax 18), .ref (ax 19), .ref (ax 20), .ref (ax 21), .ref (ax 22), .int 0])), ((ax 18), .inl (E 0, 60, .inl (fun _ => 0))), ((ax 19), .inl (E 0, 60, .inl (fun _ => 0))), ((ax 20), .inl (E 0, 60, .inl (fun _ => 0))), ((ax 21), .inl (E 0, 60, .inl (fun _ => 0))), ((ax 22), .inl (E 0, 60, .inl (fun _ => 0)))]) [0, 11, 12, 13, 14, 15, 16] (by decide) rfl
  refine aft_i (runMV (rest := []) (As := [.int (xs 1), .int (xs 2), .int (xs 3), .int (xs 4)]) hx hb hml hown htb hK (c_X8_off l D E qx ax (xs 1) (xs 2) (xs 3) (xs 4) _ ) ok_X8_off k_467 k_468 k_469 k_1 k_470 ⟨(Nat.le_of_ble_eq_true rfl), (Nat.le_of_ble_eq_true rfl)⟩ ⟨(Nat.le_of_ble_eq_true rfl), (Nat.le_of_ble_eq_true rfl)⟩ hl.1 (Nat.le_of_ble_eq_true rfl) rfl rfl dL_law_619 hPc hDc rfl rfl 0 rfl) hP hD hS hA [0, 11, 12, 13, 14, 15, 16] [1, 2, 3, 4, 5, 6, 7, 8, 9, 10, 17, 18, 19, 20, 21, 22, 23, 24, 25, 26, 27, 28, 29, 30, 31, 32, 33, 34, 35, 36, 37, 38, 39] (wr := [((ax 0), .inl (E 0, 400, .inl fw)), ((ax 1), .inl (E 0, 16, .inl (fun _ => -5))), ((ax 2), .inl (E 0, 16, .inl (fun _ => 0))), ((ax 3), .inl (E 3, 16, .inr (.inr (.inr (.inr (fun _ => none)))))), ((ax 4), .inl (E 4, 5, .inr (.inr (.inr (.inr (fun j => some (ax (13 + j)))))))), ((ax 13), .inr (5, sF (bx 0))), ((ax 14), .inr (5, sF (bx 1))), ((ax 15), .inr (5, sF (bx 2))), ((ax 16), .inr (5, sF (bx 3))), ((ax 17), .inr (5, sF (bx 4))), ((ax 9), .inr (6, [.ref (ax 23), .int 0, .ref (ax 24), .ref (E 5), .int 0, .int 0, .int 0, .int 0])), ((ax 23), .inl (E 0, 120, .inl (fun _ => 0))), ((ax 24), .inr (4, [.ref (ax 25), .ref (ax 26), .ref (ax 27), .int 0])), ((ax 10), .inr (0, [.ref (ax 28), .ref (ax 29), .ref (ax 30), .ref (ax 31), .ref (ax 32), .int 0, .int 0, .int 0, .int 0])), ((ax 28), .inl (E 0, 9, .inl (fun _ => 0))), (qm, .inr (9, mF cm 0 0 0 0 0 0 0 0 0)), ((cm 2), .inl (E 0, 400, .inl fm)), ((cm 3), .inl (E 0, 16, .inl (fun _ => -5))), ((cm 4), .inl (E 0, 16, .inl (fun _ => 0))), ((cm 5), .inl (E 1, 6400, .inl (fun _ => 0))), ((cm 8), .inl (E 1, 6400, .inl (fun _ => 0))), ((cm 9), .inl (E 1, 6400, .inl (fun _ => 0))), ((cm 10), .inl (E 0, 6400, .inl (fun _ => 0))), ((cm 12), .inl (E 0, 60, .inl (fun _ => 0))), ((cm 13), .inl (E 0, 60, .inl (fun _ => 0))), ((cm 14), .inl (E 0, 60, .inl (fun _ => 0))), ((cm 15), .inl (E 0, 60, .inl (fun _ => 0))), ((cm 16), .inl (E 0, 60, .inl (fun _ => 0))), ((cm 32), .inl (E 2, 120, .inl (fun _ => 0))), ((cm 47), .inl (E 0, 5, .inl (fun _ => 0))), ((cm 55), .inl (E 0, 5, .inl (fun _ => 0))), ((cm 58), .inl (E 0, 3, .inl (fun _ => 0))), ((cm 62), .inl (E 0, 9, .inl (fun _ => 0)))]) rfl rfl (by decide) (by decide) (fun r_3 u_1 H locs hw_2 hP hD hS => ?_)
  clear hPc hDc
  have hP : va_P D vwCl [((ax 0), .inl (E 0, 400, .inl fw)), ((ax 1), .inl (E 0, 16, .inl (fun _ => -5))), ((ax 2), .inl (E 0, 16, .inl (fun _ => 0))), ((ax 3), .inl (E 3, 16, .inr (.inr (.inr (.inr (fun _ => none)))))), ((ax 4), .inl (E 4, 5, .inr (.inr (.inr (.inr (fun j => some (ax (13 + j)))))))), ((ax 13), .inr (5, sF (bx 0))), ((ax 14), .inr (5, sF (bx 1))), ((ax 15), .inr (5, sF (bx 2))), ((ax 16), .inr (5, sF (bx 3))), ((ax 17), .inr (5, sF (bx 4))), ((ax 9), .inr (6, [.ref (ax 23), .int 0, .ref (ax 24), .ref (E 5), .int 0, .int 0, .int 0, .int 0])), ((ax 23), .inl (E 0, 120, .inl (fun _ => 0))), ((ax 24), .inr (4, [.ref (ax 25), .ref (ax 26), .ref (ax 27), .int 0])), ((ax 10), .inr (0, [.ref (ax 28), .ref (ax 29), .ref (ax 30), .ref (ax 31), .ref (ax 32), .int 0, .int 0, .int 0, .int 0])), ((ax 28), .inl (E 0, 9, .inl (fun _ => 0))), (qm, .inr (9, mF cm 0 0 0 0 0 0 0 0 0)), ((cm 2), .inl (E 0, 400, .inl fm)), ((cm 3), .inl (E 0, 16, .inl (fun _ => -5))), ((cm 4), .inl (E 0, 16, .inl (fun _ => 0))), ((cm 5), .inl (E 1, 6400, .inl (fun _ => 0))), ((cm 8), .inl (E 1, 6400, .inl (fun _ => 0))), ((cm 9), .inl (E 1, 6400, .inl (fun _ => 0))), ((cm 10), .inl (E 0, 6400, .inl (fun _ => 0))), ((cm 12), .inl (E 0, 60, .inl (fun _ => 0))), ((cm 13), .inl (E 0, 60, .inl (fun _ => 0))), ((cm 14), .inl (E 0, 60, .inl (fun _ => 0))), ((cm 15), .inl (E 0, 60, .inl (fun _ => 0))), ((cm 16), .inl (E 0, 60, .inl (fun _ => 0))), ((cm 32), .inl (E 2, 120, .inl (fun _ => 0))), ((cm 47), .inl (E 0, 5, .inl (fun _ => 0))), ((cm 55), .inl (E 0, 5, .inl (fun _ => 0))), ((cm 58), .inl (E 0, 3, .inl (fun _ => 0))), ((cm 62), .inl (E 0, 9, .inl (fun _ => 0)))] H := hP
  have hD : va_D (fun q : Nat => s.heap.size ≤ q) [((ax 0), .inl (E 0, 400, .inl fw)), ((ax 1), .inl (E 0, 16, .inl (fun _ => -5))), ((ax 2), .inl (E 0, 16, .inl (fun _ => 0))), ((ax 3), .inl (E 3, 16, .inr (.inr (.inr (.inr (fun _ => none)))))), ((ax 4), .inl (E 4, 5, .inr (.inr (.inr (.inr (fun j => some (ax (13 + j)))))))), ((ax 13), .inr (5, sF (bx 0))), ((ax 14), .inr (5, sF (bx 1))), ((ax 15), .inr (5, sF (bx 2))), ((ax 16), .inr (5, sF (bx 3))), ((ax 17), .inr (5, sF (bx 4))), ((ax 9), .inr (6, [.ref (ax 23), .int 0, .ref (ax 24), .ref (E 5), .int 0, .int 0, .int 0, .int 0])), ((ax 23), .inl (E 0, 120, .inl (fun _ => 0))), ((ax 24), .inr (4, [.ref (ax 25), .ref (ax 26), .ref (ax 27), .int 0])), ((ax 10), .inr (0, [.ref (ax 28), .ref (ax 29), .ref (ax 30), .ref (ax 31), .ref (ax 32), .int 0, .int 0, .int 0, .int 0])), ((ax 28), .inl (E 0, 9, .inl (fun _ => 0))), (qm, .inr (9, mF cm 0 0 0 0 0 0 0 0 0)), ((cm 2), .inl (E 0, 400, .inl fm)), ((cm 3), .inl (E 0, 16, .inl (fun _ => -5))), ((cm 4), .inl (E 0, 16, .inl (fun _ => 0))), ((cm 5), .inl (E 1, 6400, .inl (fun _ => 0))), ((cm 8), .inl (E 1, 6400, .inl (fun _ => 0))), ((cm 9), .inl (E 1, 6400, .inl (fun _ => 0))), ((cm 10), .inl (E 0, 6400, .inl (fun _ => 0))), ((cm 12), .inl (E 0, 60, .inl (fun _ => 0))), ((cm 13), .inl (E 0, 60, .inl (fun _ => 0))), ((cm 14), .inl (E 0, 60, .inl (fun _ => 0))), ((cm 15), .inl (E 0, 60, .inl (fun _ => 0))), ((cm 16), .inl (E 0, 60, .inl (fun _ => 0))), ((cm 32), .inl (E 2, 120, .inl (fun _ => 0))), ((cm 47), .inl (E 0, 5, .inl (fun _ => 0))), ((cm 55), .inl (E 0, 5, .inl (fun _ => 0))), ((cm 58), .inl (E 0, 3, .inl (fun _ => 0))), ((cm 62), .inl (E 0, 9, .inl (fun _ => 0)))] := hD
  rcases hw_2 with ⟨hr_3, hw_2⟩ | ⟨hr_3, hw_2⟩
  ·
    refine W_top (y := .int 1) (by rw [hr_3]) ?_
    refine lv_aload_n hx hb dL_law_622 rfl (lv_at hl 1 rfl) ?_
    refine lv_aload_n hx hb dL_law_623 rfl (lv_at hl 3 rfl) ?_
    refine lv_iload_n hx hb dL_law_624 rfl (lv_at hl 0 rfl) ?_
    refine lv_iconst (v := 1) hx hb dL_law_625 (by decide) ?_
    refine lv_iadd hx hb dL_law_626 ?_
    refine W_top (y := .int 1) (by decide) ?_
    refine va_sld hx hb hX hbl hbA hS (g_in t_1 (by decide) (by decide)) dL_law_627 ?_
    refine W_top (y := .int (xs 1)) (congrArg (fun n => Value.int (xs n)) (by decide : (1 : Int32).toNatClampNeg = 1)) ?_
    refine lv_aload_n hx hb dL_law_628 rfl (lv_at hl 3 rfl) ?_
    refine lv_iload_n hx hb dL_law_629 rfl (lv_at hl 0 rfl) ?_
    refine lv_iconst (v := 2) hx hb dL_law_630 (by decide) ?_
    refine lv_iadd hx hb dL_law_631 ?_
    refine W_top (y := .int 2) (by decide) ?_
    refine va_sld hx hb hX hbl hbA hS (g_in t_2 (by decide) (by decide)) dL_law_632 ?_
    refine W_top (y := .int (xs 2)) (congrArg (fun n => Value.int (xs n)) (by decide : (2 : Int32).toNatClampNeg = 2)) ?_
    refine lv_aload_n hx hb dL_law_633 rfl (lv_at hl 3 rfl) ?_
    refine lv_iload_n hx hb dL_law_634 rfl (lv_at hl 0 rfl) ?_
    refine lv_iconst (v := 3) hx hb dL_law_635 (by decide) ?_
    refine lv_iadd hx hb dL_law_636 ?_
    refine W_top (y := .int 3) (by decide) ?_
    refine va_sld hx hb hX hbl hbA hS (g_in t_3 (by decide) (by decide)) dL_law_637 ?_
    refine W_top (y := .int (xs 3)) (congrArg (fun n => Value.int (xs n)) (by decide : (3 : Int32).toNatClampNeg = 3)) ?_
    refine lv_aload_n hx hb dL_law_638 rfl (lv_at hl 3 rfl) ?_
    refine lv_iload_n hx hb dL_law_639 rfl (lv_at hl 0 rfl) ?_
    refine lv_iconst (v := 4) hx hb dL_law_640 (by decide) ?_
    refine lv_iadd hx hb dL_law_641 ?_
    refine W_top (y := .int 4) (by decide) ?_
    refine va_sld hx hb hX hbl hbA hS (g_in t_4 (by decide) (by decide)) dL_law_642 ?_
    refine W_top (y := .int (xs 4)) (congrArg (fun n => Value.int (xs n)) (by decide : (4 : Int32).toNatClampNeg = 4)) ?_
    have hPc := hP.sub (ws' := [(qm, .inr (9, mF cm 0 0 0 0 0 0 0 0 0)), ((cm 12), .inl (E 0, 60, .inl (fun _ => 0))), ((cm 13), .inl (E 0, 60, .inl (fun _ => 0))), ((cm 14), .inl (E 0, 60, .inl (fun _ => 0))), ((cm 15), .inl (E 0, 60, .inl (fun _ => 0))), ((cm 16), .inl (E 0, 60, .inl (fun _ => 0)))]) [15, 23, 24, 25, 26, 27] rfl
    have hDc := hD.sub (ws' := [(qm, .inr (9, mF cm 0 0 0 0 0 0 0 0 0)), ((cm 12), .inl (E 0, 60, .inl (fun _ => 0))), ((cm 13), .inl (E 0, 60, .inl (fun _ => 0))), ((cm 14), .inl (E 0, 60, .inl (fun _ => 0))), ((cm 15), .inl (E 0, 60, .inl (fun _ => 0))), ((cm 16), .inl (E 0, 60, .inl (fun _ => 0)))]) [15, 23, 24, 25, 26, 27] (by decide) rfl
    refine aft_i (runMV (rest := [.int 1]) (As := [.int (xs 1), .int (xs 2), .int (xs 3), .int (xs 4)]) hx hb hml hown htb hK (c_X9_off l D E qm cm (xs 1) (xs 2) (xs 3) (xs 4) _ ) ok_X9_off k_1254 k_1255 k_1256 k_9 k_1257 ⟨(Nat.le_of_ble_eq_true rfl), (Nat.le_of_ble_eq_true rfl)⟩ ⟨(Nat.le_of_ble_eq_true rfl), (Nat.le_of_ble_eq_true rfl)⟩ hl.1 (Nat.le_of_ble_eq_true rfl) rfl rfl dL_law_643 hPc hDc rfl rfl 0 rfl) hP hD hS hA [15, 23, 24, 25, 26, 27] [0, 1, 2, 3, 4, 5, 6, 7, 8, 9, 10, 11, 12, 13, 14, 16, 17, 18, 19, 20, 21, 22, 28, 29, 30, 31, 32] (wr := [((ax 0), .inl (E 0, 400, .inl fw)), ((ax 1), .inl (E 0, 16, .inl (fun _ => -5))), ((ax 2), .inl (E 0, 16, .inl (fun _ => 0))), ((ax 3), .inl (E 3, 16, .inr (.inr (.inr (.inr (fun _ => none)))))), ((ax 4), .inl (E 4, 5, .inr (.inr (.inr (.inr (fun j => some (ax (13 + j)))))))), ((ax 13), .inr (5, sF (bx 0))), ((ax 14), .inr (5, sF (bx 1))), ((ax 15), .inr (5, sF (bx 2))), ((ax 16), .inr (5, sF (bx 3))), ((ax 17), .inr (5, sF (bx 4))), ((ax 9), .inr (6, [.ref (ax 23), .int 0, .ref (ax 24), .ref (E 5), .int 0, .int 0, .int 0, .int 0])), ((ax 23), .inl (E 0, 120, .inl (fun _ => 0))), ((ax 24), .inr (4, [.ref (ax 25), .ref (ax 26), .ref (ax 27), .int 0])), ((ax 10), .inr (0, [.ref (ax 28), .ref (ax 29), .ref (ax 30), .ref (ax 31), .ref (ax 32), .int 0, .int 0, .int 0, .int 0])), ((ax 28), .inl (E 0, 9, .inl (fun _ => 0))), ((cm 2), .inl (E 0, 400, .inl fm)), ((cm 3), .inl (E 0, 16, .inl (fun _ => -5))), ((cm 4), .inl (E 0, 16, .inl (fun _ => 0))), ((cm 5), .inl (E 1, 6400, .inl (fun _ => 0))), ((cm 8), .inl (E 1, 6400, .inl (fun _ => 0))), ((cm 9), .inl (E 1, 6400, .inl (fun _ => 0))), ((cm 10), .inl (E 0, 6400, .inl (fun _ => 0))), ((cm 32), .inl (E 2, 120, .inl (fun _ => 0))), ((cm 47), .inl (E 0, 5, .inl (fun _ => 0))), ((cm 55), .inl (E 0, 5, .inl (fun _ => 0))), ((cm 58), .inl (E 0, 3, .inl (fun _ => 0))), ((cm 62), .inl (E 0, 9, .inl (fun _ => 0)))]) rfl rfl (by decide) (by decide) (fun r_6 u_4 H locs hw_5 hP hD hS => ?_)
    clear hPc hDc
    have hP : va_P D vwCl [((ax 0), .inl (E 0, 400, .inl fw)), ((ax 1), .inl (E 0, 16, .inl (fun _ => -5))), ((ax 2), .inl (E 0, 16, .inl (fun _ => 0))), ((ax 3), .inl (E 3, 16, .inr (.inr (.inr (.inr (fun _ => none)))))), ((ax 4), .inl (E 4, 5, .inr (.inr (.inr (.inr (fun j => some (ax (13 + j)))))))), ((ax 13), .inr (5, sF (bx 0))), ((ax 14), .inr (5, sF (bx 1))), ((ax 15), .inr (5, sF (bx 2))), ((ax 16), .inr (5, sF (bx 3))), ((ax 17), .inr (5, sF (bx 4))), ((ax 9), .inr (6, [.ref (ax 23), .int 0, .ref (ax 24), .ref (E 5), .int 0, .int 0, .int 0, .int 0])), ((ax 23), .inl (E 0, 120, .inl (fun _ => 0))), ((ax 24), .inr (4, [.ref (ax 25), .ref (ax 26), .ref (ax 27), .int 0])), ((ax 10), .inr (0, [.ref (ax 28), .ref (ax 29), .ref (ax 30), .ref (ax 31), .ref (ax 32), .int 0, .int 0, .int 0, .int 0])), ((ax 28), .inl (E 0, 9, .inl (fun _ => 0))), ((cm 2), .inl (E 0, 400, .inl fm)), ((cm 3), .inl (E 0, 16, .inl (fun _ => -5))), ((cm 4), .inl (E 0, 16, .inl (fun _ => 0))), ((cm 5), .inl (E 1, 6400, .inl (fun _ => 0))), ((cm 8), .inl (E 1, 6400, .inl (fun _ => 0))), ((cm 9), .inl (E 1, 6400, .inl (fun _ => 0))), ((cm 10), .inl (E 0, 6400, .inl (fun _ => 0))), ((cm 32), .inl (E 2, 120, .inl (fun _ => 0))), ((cm 47), .inl (E 0, 5, .inl (fun _ => 0))), ((cm 55), .inl (E 0, 5, .inl (fun _ => 0))), ((cm 58), .inl (E 0, 3, .inl (fun _ => 0))), ((cm 62), .inl (E 0, 9, .inl (fun _ => 0)))] H := hP
    have hD : va_D (fun q : Nat => s.heap.size ≤ q) [((ax 0), .inl (E 0, 400, .inl fw)), ((ax 1), .inl (E 0, 16, .inl (fun _ => -5))), ((ax 2), .inl (E 0, 16, .inl (fun _ => 0))), ((ax 3), .inl (E 3, 16, .inr (.inr (.inr (.inr (fun _ => none)))))), ((ax 4), .inl (E 4, 5, .inr (.inr (.inr (.inr (fun j => some (ax (13 + j)))))))), ((ax 13), .inr (5, sF (bx 0))), ((ax 14), .inr (5, sF (bx 1))), ((ax 15), .inr (5, sF (bx 2))), ((ax 16), .inr (5, sF (bx 3))), ((ax 17), .inr (5, sF (bx 4))), ((ax 9), .inr (6, [.ref (ax 23), .int 0, .ref (ax 24), .ref (E 5), .int 0, .int 0, .int 0, .int 0])), ((ax 23), .inl (E 0, 120, .inl (fun _ => 0))), ((ax 24), .inr (4, [.ref (ax 25), .ref (ax 26), .ref (ax 27), .int 0])), ((ax 10), .inr (0, [.ref (ax 28), .ref (ax 29), .ref (ax 30), .ref (ax 31), .ref (ax 32), .int 0, .int 0, .int 0, .int 0])), ((ax 28), .inl (E 0, 9, .inl (fun _ => 0))), ((cm 2), .inl (E 0, 400, .inl fm)), ((cm 3), .inl (E 0, 16, .inl (fun _ => -5))), ((cm 4), .inl (E 0, 16, .inl (fun _ => 0))), ((cm 5), .inl (E 1, 6400, .inl (fun _ => 0))), ((cm 8), .inl (E 1, 6400, .inl (fun _ => 0))), ((cm 9), .inl (E 1, 6400, .inl (fun _ => 0))), ((cm 10), .inl (E 0, 6400, .inl (fun _ => 0))), ((cm 32), .inl (E 2, 120, .inl (fun _ => 0))), ((cm 47), .inl (E 0, 5, .inl (fun _ => 0))), ((cm 55), .inl (E 0, 5, .inl (fun _ => 0))), ((cm 58), .inl (E 0, 3, .inl (fun _ => 0))), ((cm 62), .inl (E 0, 9, .inl (fun _ => 0)))] := hD
    rcases hw_5 with ⟨hr_6, hw_5⟩ | ⟨hr_6, hw_5⟩
    ·
      refine W_top (y := .int 1) (by rw [hr_6]) ?_
      refine lv_icmp_eq (tgt := 1550) hx hb dL_law_646 (by decide) (fun c_7 => ?_) (fun c_7 => absurd rfl c_7)
      exact law_end hx hb hr hml hown htb hX hbl hlocks hS (lv_sub hl [0, 3] rfl) (Nat.le_of_ble_eq_true rfl) (Nat.le_of_ble_eq_true rfl)
    ·
      refine W_top (y := .int (-1)) (by rw [hr_6]) ?_
      exfalso; omega
  ·
    refine W_top (y := .int (-1)) (by rw [hr_3]) ?_
    refine lv_aload_n hx hb dL_law_622 rfl (lv_at hl 1 rfl) ?_
    refine lv_aload_n hx hb dL_law_623 rfl (lv_at hl 3 rfl) ?_
    refine lv_iload_n hx hb dL_law_624 rfl (lv_at hl 0 rfl) ?_
    refine lv_iconst (v := 1) hx hb dL_law_625 (by decide) ?_
    refine lv_iadd hx hb dL_law_626 ?_
    refine W_top (y := .int 1) (by decide) ?_
    refine va_sld hx hb hX hbl hbA hS (g_in t_1 (by decide) (by decide)) dL_law_627 ?_
    refine W_top (y := .int (xs 1)) (congrArg (fun n => Value.int (xs n)) (by decide : (1 : Int32).toNatClampNeg = 1)) ?_
    refine lv_aload_n hx hb dL_law_628 rfl (lv_at hl 3 rfl) ?_
    refine lv_iload_n hx hb dL_law_629 rfl (lv_at hl 0 rfl) ?_
    refine lv_iconst (v := 2) hx hb dL_law_630 (by decide) ?_
    refine lv_iadd hx hb dL_law_631 ?_
    refine W_top (y := .int 2) (by decide) ?_
    refine va_sld hx hb hX hbl hbA hS (g_in t_2 (by decide) (by decide)) dL_law_632 ?_
    refine W_top (y := .int (xs 2)) (congrArg (fun n => Value.int (xs n)) (by decide : (2 : Int32).toNatClampNeg = 2)) ?_
    refine lv_aload_n hx hb dL_law_633 rfl (lv_at hl 3 rfl) ?_
    refine lv_iload_n hx hb dL_law_634 rfl (lv_at hl 0 rfl) ?_
    refine lv_iconst (v := 3) hx hb dL_law_635 (by decide) ?_
    refine lv_iadd hx hb dL_law_636 ?_
    refine W_top (y := .int 3) (by decide) ?_
    refine va_sld hx hb hX hbl hbA hS (g_in t_3 (by decide) (by decide)) dL_law_637 ?_
    refine W_top (y := .int (xs 3)) (congrArg (fun n => Value.int (xs n)) (by decide : (3 : Int32).toNatClampNeg = 3)) ?_
    refine lv_aload_n hx hb dL_law_638 rfl (lv_at hl 3 rfl) ?_
    refine lv_iload_n hx hb dL_law_639 rfl (lv_at hl 0 rfl) ?_
    refine lv_iconst (v := 4) hx hb dL_law_640 (by decide) ?_
    refine lv_iadd hx hb dL_law_641 ?_
    refine W_top (y := .int 4) (by decide) ?_
    refine va_sld hx hb hX hbl hbA hS (g_in t_4 (by decide) (by decide)) dL_law_642 ?_
    refine W_top (y := .int (xs 4)) (congrArg (fun n => Value.int (xs n)) (by decide : (4 : Int32).toNatClampNeg = 4)) ?_
    have hPc := hP.sub (ws' := [(qm, .inr (9, mF cm 0 0 0 0 0 0 0 0 0)), ((cm 12), .inl (E 0, 60, .inl (fun _ => 0))), ((cm 13), .inl (E 0, 60, .inl (fun _ => 0))), ((cm 14), .inl (E 0, 60, .inl (fun _ => 0))), ((cm 15), .inl (E 0, 60, .inl (fun _ => 0))), ((cm 16), .inl (E 0, 60, .inl (fun _ => 0)))]) [15, 23, 24, 25, 26, 27] rfl
    have hDc := hD.sub (ws' := [(qm, .inr (9, mF cm 0 0 0 0 0 0 0 0 0)), ((cm 12), .inl (E 0, 60, .inl (fun _ => 0))), ((cm 13), .inl (E 0, 60, .inl (fun _ => 0))), ((cm 14), .inl (E 0, 60, .inl (fun _ => 0))), ((cm 15), .inl (E 0, 60, .inl (fun _ => 0))), ((cm 16), .inl (E 0, 60, .inl (fun _ => 0)))]) [15, 23, 24, 25, 26, 27] (by decide) rfl
    refine aft_i (runMV (rest := [.int (-1)]) (As := [.int (xs 1), .int (xs 2), .int (xs 3), .int (xs 4)]) hx hb hml hown htb hK (c_X9_off l D E qm cm (xs 1) (xs 2) (xs 3) (xs 4) _ ) ok_X9_off k_1254 k_1255 k_1256 k_9 k_1257 ⟨(Nat.le_of_ble_eq_true rfl), (Nat.le_of_ble_eq_true rfl)⟩ ⟨(Nat.le_of_ble_eq_true rfl), (Nat.le_of_ble_eq_true rfl)⟩ hl.1 (Nat.le_of_ble_eq_true rfl) rfl rfl dL_law_643 hPc hDc rfl rfl 0 rfl) hP hD hS hA [15, 23, 24, 25, 26, 27] [0, 1, 2, 3, 4, 5, 6, 7, 8, 9, 10, 11, 12, 13, 14, 16, 17, 18, 19, 20, 21, 22, 28, 29, 30, 31, 32] (wr := [((ax 0), .inl (E 0, 400, .inl fw)), ((ax 1), .inl (E 0, 16, .inl (fun _ => -5))), ((ax 2), .inl (E 0, 16, .inl (fun _ => 0))), ((ax 3), .inl (E 3, 16, .inr (.inr (.inr (.inr (fun _ => none)))))), ((ax 4), .inl (E 4, 5, .inr (.inr (.inr (.inr (fun j => some (ax (13 + j)))))))), ((ax 13), .inr (5, sF (bx 0))), ((ax 14), .inr (5, sF (bx 1))), ((ax 15), .inr (5, sF (bx 2))), ((ax 16), .inr (5, sF (bx 3))), ((ax 17), .inr (5, sF (bx 4))), ((ax 9), .inr (6, [.ref (ax 23), .int 0, .ref (ax 24), .ref (E 5), .int 0, .int 0, .int 0, .int 0])), ((ax 23), .inl (E 0, 120, .inl (fun _ => 0))), ((ax 24), .inr (4, [.ref (ax 25), .ref (ax 26), .ref (ax 27), .int 0])), ((ax 10), .inr (0, [.ref (ax 28), .ref (ax 29), .ref (ax 30), .ref (ax 31), .ref (ax 32), .int 0, .int 0, .int 0, .int 0])), ((ax 28), .inl (E 0, 9, .inl (fun _ => 0))), ((cm 2), .inl (E 0, 400, .inl fm)), ((cm 3), .inl (E 0, 16, .inl (fun _ => -5))), ((cm 4), .inl (E 0, 16, .inl (fun _ => 0))), ((cm 5), .inl (E 1, 6400, .inl (fun _ => 0))), ((cm 8), .inl (E 1, 6400, .inl (fun _ => 0))), ((cm 9), .inl (E 1, 6400, .inl (fun _ => 0))), ((cm 10), .inl (E 0, 6400, .inl (fun _ => 0))), ((cm 32), .inl (E 2, 120, .inl (fun _ => 0))), ((cm 47), .inl (E 0, 5, .inl (fun _ => 0))), ((cm 55), .inl (E 0, 5, .inl (fun _ => 0))), ((cm 58), .inl (E 0, 3, .inl (fun _ => 0))), ((cm 62), .inl (E 0, 9, .inl (fun _ => 0)))]) rfl rfl (by decide) (by decide) (fun r_10 u_8 H locs hw_9 hP hD hS => ?_)
    clear hPc hDc
    have hP : va_P D vwCl [((ax 0), .inl (E 0, 400, .inl fw)), ((ax 1), .inl (E 0, 16, .inl (fun _ => -5))), ((ax 2), .inl (E 0, 16, .inl (fun _ => 0))), ((ax 3), .inl (E 3, 16, .inr (.inr (.inr (.inr (fun _ => none)))))), ((ax 4), .inl (E 4, 5, .inr (.inr (.inr (.inr (fun j => some (ax (13 + j)))))))), ((ax 13), .inr (5, sF (bx 0))), ((ax 14), .inr (5, sF (bx 1))), ((ax 15), .inr (5, sF (bx 2))), ((ax 16), .inr (5, sF (bx 3))), ((ax 17), .inr (5, sF (bx 4))), ((ax 9), .inr (6, [.ref (ax 23), .int 0, .ref (ax 24), .ref (E 5), .int 0, .int 0, .int 0, .int 0])), ((ax 23), .inl (E 0, 120, .inl (fun _ => 0))), ((ax 24), .inr (4, [.ref (ax 25), .ref (ax 26), .ref (ax 27), .int 0])), ((ax 10), .inr (0, [.ref (ax 28), .ref (ax 29), .ref (ax 30), .ref (ax 31), .ref (ax 32), .int 0, .int 0, .int 0, .int 0])), ((ax 28), .inl (E 0, 9, .inl (fun _ => 0))), ((cm 2), .inl (E 0, 400, .inl fm)), ((cm 3), .inl (E 0, 16, .inl (fun _ => -5))), ((cm 4), .inl (E 0, 16, .inl (fun _ => 0))), ((cm 5), .inl (E 1, 6400, .inl (fun _ => 0))), ((cm 8), .inl (E 1, 6400, .inl (fun _ => 0))), ((cm 9), .inl (E 1, 6400, .inl (fun _ => 0))), ((cm 10), .inl (E 0, 6400, .inl (fun _ => 0))), ((cm 32), .inl (E 2, 120, .inl (fun _ => 0))), ((cm 47), .inl (E 0, 5, .inl (fun _ => 0))), ((cm 55), .inl (E 0, 5, .inl (fun _ => 0))), ((cm 58), .inl (E 0, 3, .inl (fun _ => 0))), ((cm 62), .inl (E 0, 9, .inl (fun _ => 0)))] H := hP
    have hD : va_D (fun q : Nat => s.heap.size ≤ q) [((ax 0), .inl (E 0, 400, .inl fw)), ((ax 1), .inl (E 0, 16, .inl (fun _ => -5))), ((ax 2), .inl (E 0, 16, .inl (fun _ => 0))), ((ax 3), .inl (E 3, 16, .inr (.inr (.inr (.inr (fun _ => none)))))), ((ax 4), .inl (E 4, 5, .inr (.inr (.inr (.inr (fun j => some (ax (13 + j)))))))), ((ax 13), .inr (5, sF (bx 0))), ((ax 14), .inr (5, sF (bx 1))), ((ax 15), .inr (5, sF (bx 2))), ((ax 16), .inr (5, sF (bx 3))), ((ax 17), .inr (5, sF (bx 4))), ((ax 9), .inr (6, [.ref (ax 23), .int 0, .ref (ax 24), .ref (E 5), .int 0, .int 0, .int 0, .int 0])), ((ax 23), .inl (E 0, 120, .inl (fun _ => 0))), ((ax 24), .inr (4, [.ref (ax 25), .ref (ax 26), .ref (ax 27), .int 0])), ((ax 10), .inr (0, [.ref (ax 28), .ref (ax 29), .ref (ax 30), .ref (ax 31), .ref (ax 32), .int 0, .int 0, .int 0, .int 0])), ((ax 28), .inl (E 0, 9, .inl (fun _ => 0))), ((cm 2), .inl (E 0, 400, .inl fm)), ((cm 3), .inl (E 0, 16, .inl (fun _ => -5))), ((cm 4), .inl (E 0, 16, .inl (fun _ => 0))), ((cm 5), .inl (E 1, 6400, .inl (fun _ => 0))), ((cm 8), .inl (E 1, 6400, .inl (fun _ => 0))), ((cm 9), .inl (E 1, 6400, .inl (fun _ => 0))), ((cm 10), .inl (E 0, 6400, .inl (fun _ => 0))), ((cm 32), .inl (E 2, 120, .inl (fun _ => 0))), ((cm 47), .inl (E 0, 5, .inl (fun _ => 0))), ((cm 55), .inl (E 0, 5, .inl (fun _ => 0))), ((cm 58), .inl (E 0, 3, .inl (fun _ => 0))), ((cm 62), .inl (E 0, 9, .inl (fun _ => 0)))] := hD
    rcases hw_9 with ⟨hr_10, hw_9⟩ | ⟨hr_10, hw_9⟩
    ·
      refine W_top (y := .int 1) (by rw [hr_10]) ?_
      exfalso; omega
    ·
      refine W_top (y := .int (-1)) (by rw [hr_10]) ?_
      refine lv_icmp_eq (tgt := 1550) hx hb dL_law_646 (by decide) (fun c_11 => ?_) (fun c_11 => absurd rfl c_11)
      exact law_end hx hb hr hml hown htb hX hbl hlocks hS (lv_sub hl [0, 3] rfl) (Nat.le_of_ble_eq_true rfl) (Nat.le_of_ble_eq_true rfl)
set_option maxHeartbeats 4000000 in
set_option maxRecDepth 100000 in
theorem law_13 {p : Program} {l : Launch} {e : Env} {s : State} {m : MethodId} {below : List Frame} {meth : Method} {c : Code} {D : va_G} {E : Nat → Nat} {b : Nat} {xs : Nat → Int32} {qx : Nat} {ax : Nat → Nat} {bx : Nat → Nat → Nat} {fw : Nat → Int32} {qm : Nat} {cm : Nat → Nat} {fm : Nat → Int32} {H : Heap} {locs : List Loc} {ls : Array Slot} (hx : p.tables.exec = Jvm.exec) (hb : c.code = code) (hr : meth.sig.returnType = ret) (hml : c.maxLocals = 4) (hown : s.vm.findClass R_law = some m.cls) (htb : ∀ w ∈ tb, w.before #[Value.ref b] s = true) (hK : KX D E s) (hX : va_X b 6 xs s s.heap) (hbl : b < s.heap.size) (hlocks : meth.locks = false) (hP : va_P D vwCl (LW E qx ax bx fw qm cm fm) H) (hD : va_D (fun q : Nat => s.heap.size ≤ q) (LW E qx ax bx fw qm cm fm)) (hS : va_S (fun q : Nat => s.heap.size ≤ q) s.heap H locs) (hl : lv_has ls 4 [(3, .int 0), (2, .ref qm), (1, .ref qx), (0, .ref b)]) : W p l e room_1 s m #[Value.ref b] below meth c H locs 123 44666 (lw_Z below #[Value.ref b] s) (F0 m 651 ls []) := by
  have hA : ∀ q : Nat, s.heap.size ≤ q → (fun q : Nat => s.heap.size ≤ q) q := fun _ h => h
  have hbA : ¬ (fun q : Nat => s.heap.size ≤ q) b := Nat.not_le.mpr hbl
  refine lv_aload_n hx hb dL_law_651 rfl (lv_at hl 2 rfl) ?_
  refine lv_aload_n hx hb dL_law_652 rfl (lv_at hl 3 rfl) ?_
  refine lv_iload_n hx hb dL_law_653 rfl (lv_at hl 0 rfl) ?_
  refine lv_iconst (v := 1) hx hb dL_law_654 (by decide) ?_
  refine lv_iadd hx hb dL_law_655 ?_
  refine W_top (y := .int 1) (by decide) ?_
  refine va_sld hx hb hX hbl hbA hS (g_in t_1 (by decide) (by decide)) dL_law_656 ?_
  refine W_top (y := .int (xs 1)) (congrArg (fun n => Value.int (xs n)) (by decide : (1 : Int32).toNatClampNeg = 1)) ?_
  refine lv_aload_n hx hb dL_law_657 rfl (lv_at hl 3 rfl) ?_
  refine lv_iload_n hx hb dL_law_658 rfl (lv_at hl 0 rfl) ?_
  refine lv_iconst (v := 2) hx hb dL_law_659 (by decide) ?_
  refine lv_iadd hx hb dL_law_660 ?_
  refine W_top (y := .int 2) (by decide) ?_
  refine va_sld hx hb hX hbl hbA hS (g_in t_2 (by decide) (by decide)) dL_law_661 ?_
  refine W_top (y := .int (xs 2)) (congrArg (fun n => Value.int (xs n)) (by decide : (2 : Int32).toNatClampNeg = 2)) ?_
  refine lv_aload_n hx hb dL_law_662 rfl (lv_at hl 3 rfl) ?_
  refine lv_iload_n hx hb dL_law_663 rfl (lv_at hl 0 rfl) ?_
  refine lv_iconst (v := 3) hx hb dL_law_664 (by decide) ?_
  refine lv_iadd hx hb dL_law_665 ?_
  refine W_top (y := .int 3) (by decide) ?_
  refine va_sld hx hb hX hbl hbA hS (g_in t_3 (by decide) (by decide)) dL_law_666 ?_
  refine W_top (y := .int (xs 3)) (congrArg (fun n => Value.int (xs n)) (by decide : (3 : Int32).toNatClampNeg = 3)) ?_
  refine lv_aload_n hx hb dL_law_667 rfl (lv_at hl 3 rfl) ?_
  refine lv_iload_n hx hb dL_law_668 rfl (lv_at hl 0 rfl) ?_
  refine lv_iconst (v := 4) hx hb dL_law_669 (by decide) ?_
  refine lv_iadd hx hb dL_law_670 ?_
  refine W_top (y := .int 4) (by decide) ?_
  refine va_sld hx hb hX hbl hbA hS (g_in t_4 (by decide) (by decide)) dL_law_671 ?_
  refine W_top (y := .int (xs 4)) (congrArg (fun n => Value.int (xs n)) (by decide : (4 : Int32).toNatClampNeg = 4)) ?_
  refine callRV (rest := []) (As := [.int (xs 1), .int (xs 2), .int (xs 3), .int (xs 4)]) hx hb hml hown htb hK (c_X8_changed l D E qx ax (xs 1) (xs 2) (xs 3) (xs 4) ) ok_X8_changed k_475 k_476 k_477 k_1 k_478 ⟨(Nat.le_of_ble_eq_true rfl), (Nat.le_of_ble_eq_true rfl)⟩ ⟨(Nat.le_of_ble_eq_true rfl), (Nat.le_of_ble_eq_true rfl)⟩ hl.1 (Nat.le_of_ble_eq_true rfl) rfl rfl dL_law_672 (hP.sub (ws' := [(qx, .inr (8, xF ax 0)), ((ax 1), .inl (E 0, 16, .inl (fun _ => -5)))]) [0, 2] rfl) rfl rfl 0 rfl (fun r_2 hw_1 => ?_)
  rcases hw_1 with ⟨hr_2, hw_1⟩ | ⟨hr_2, hw_1⟩
  ·
    refine W_top (y := .int (-2)) (by rw [hr_2]) ?_
    refine lv_aload_n hx hb dL_law_675 rfl (lv_at hl 1 rfl) ?_
    refine lv_aload_n hx hb dL_law_676 rfl (lv_at hl 3 rfl) ?_
    refine lv_iload_n hx hb dL_law_677 rfl (lv_at hl 0 rfl) ?_
    refine lv_iconst (v := 1) hx hb dL_law_678 (by decide) ?_
    refine lv_iadd hx hb dL_law_679 ?_
    refine W_top (y := .int 1) (by decide) ?_
    refine va_sld hx hb hX hbl hbA hS (g_in t_1 (by decide) (by decide)) dL_law_680 ?_
    refine W_top (y := .int (xs 1)) (congrArg (fun n => Value.int (xs n)) (by decide : (1 : Int32).toNatClampNeg = 1)) ?_
    refine lv_aload_n hx hb dL_law_681 rfl (lv_at hl 3 rfl) ?_
    refine lv_iload_n hx hb dL_law_682 rfl (lv_at hl 0 rfl) ?_
    refine lv_iconst (v := 2) hx hb dL_law_683 (by decide) ?_
    refine lv_iadd hx hb dL_law_684 ?_
    refine W_top (y := .int 2) (by decide) ?_
    refine va_sld hx hb hX hbl hbA hS (g_in t_2 (by decide) (by decide)) dL_law_685 ?_
    refine W_top (y := .int (xs 2)) (congrArg (fun n => Value.int (xs n)) (by decide : (2 : Int32).toNatClampNeg = 2)) ?_
    refine lv_aload_n hx hb dL_law_686 rfl (lv_at hl 3 rfl) ?_
    refine lv_iload_n hx hb dL_law_687 rfl (lv_at hl 0 rfl) ?_
    refine lv_iconst (v := 3) hx hb dL_law_688 (by decide) ?_
    refine lv_iadd hx hb dL_law_689 ?_
    refine W_top (y := .int 3) (by decide) ?_
    refine va_sld hx hb hX hbl hbA hS (g_in t_3 (by decide) (by decide)) dL_law_690 ?_
    refine W_top (y := .int (xs 3)) (congrArg (fun n => Value.int (xs n)) (by decide : (3 : Int32).toNatClampNeg = 3)) ?_
    refine lv_aload_n hx hb dL_law_691 rfl (lv_at hl 3 rfl) ?_
    refine lv_iload_n hx hb dL_law_692 rfl (lv_at hl 0 rfl) ?_
    refine lv_iconst (v := 4) hx hb dL_law_693 (by decide) ?_
    refine lv_iadd hx hb dL_law_694 ?_
    refine W_top (y := .int 4) (by decide) ?_
    refine va_sld hx hb hX hbl hbA hS (g_in t_4 (by decide) (by decide)) dL_law_695 ?_
    refine W_top (y := .int (xs 4)) (congrArg (fun n => Value.int (xs n)) (by decide : (4 : Int32).toNatClampNeg = 4)) ?_
    refine callRV (rest := [.int (-2)]) (As := [.int (xs 1), .int (xs 2), .int (xs 3), .int (xs 4)]) hx hb hml hown htb hK (c_X9_changed l D E qm cm (xs 1) (xs 2) (xs 3) (xs 4) ) ok_X9_changed k_1258 k_1259 k_1260 k_9 k_1261 ⟨(Nat.le_of_ble_eq_true rfl), (Nat.le_of_ble_eq_true rfl)⟩ ⟨(Nat.le_of_ble_eq_true rfl), (Nat.le_of_ble_eq_true rfl)⟩ hl.1 (Nat.le_of_ble_eq_true rfl) rfl rfl dL_law_696 (hP.sub (ws' := [(qm, .inr (9, mF cm 0 0 0 0 0 0 0 0 0)), ((cm 3), .inl (E 0, 16, .inl (fun _ => -5)))]) [22, 24] rfl) rfl rfl 0 rfl (fun r_4 hw_3 => ?_)
    rcases hw_3 with ⟨hr_4, hw_3⟩ | ⟨hr_4, hw_3⟩
    ·
      refine W_top (y := .int (-2)) (by rw [hr_4]) ?_
      refine lv_icmp_eq (tgt := 1550) hx hb dL_law_699 (by decide) (fun c_5 => ?_) (fun c_5 => absurd rfl c_5)
      exact law_end hx hb hr hml hown htb hX hbl hlocks hS (lv_sub hl [0, 3] rfl) (Nat.le_of_ble_eq_true rfl) (Nat.le_of_ble_eq_true rfl)
    ·
      refine W_top (y := .int (-1)) (by rw [hr_4]) ?_
      exfalso; omega
  ·
    refine W_top (y := .int (-1)) (by rw [hr_2]) ?_
    refine lv_aload_n hx hb dL_law_675 rfl (lv_at hl 1 rfl) ?_
    refine lv_aload_n hx hb dL_law_676 rfl (lv_at hl 3 rfl) ?_
    refine lv_iload_n hx hb dL_law_677 rfl (lv_at hl 0 rfl) ?_
    refine lv_iconst (v := 1) hx hb dL_law_678 (by decide) ?_
    refine lv_iadd hx hb dL_law_679 ?_
    refine W_top (y := .int 1) (by decide) ?_
    refine va_sld hx hb hX hbl hbA hS (g_in t_1 (by decide) (by decide)) dL_law_680 ?_
    refine W_top (y := .int (xs 1)) (congrArg (fun n => Value.int (xs n)) (by decide : (1 : Int32).toNatClampNeg = 1)) ?_
    refine lv_aload_n hx hb dL_law_681 rfl (lv_at hl 3 rfl) ?_
    refine lv_iload_n hx hb dL_law_682 rfl (lv_at hl 0 rfl) ?_
    refine lv_iconst (v := 2) hx hb dL_law_683 (by decide) ?_
    refine lv_iadd hx hb dL_law_684 ?_
    refine W_top (y := .int 2) (by decide) ?_
    refine va_sld hx hb hX hbl hbA hS (g_in t_2 (by decide) (by decide)) dL_law_685 ?_
    refine W_top (y := .int (xs 2)) (congrArg (fun n => Value.int (xs n)) (by decide : (2 : Int32).toNatClampNeg = 2)) ?_
    refine lv_aload_n hx hb dL_law_686 rfl (lv_at hl 3 rfl) ?_
    refine lv_iload_n hx hb dL_law_687 rfl (lv_at hl 0 rfl) ?_
    refine lv_iconst (v := 3) hx hb dL_law_688 (by decide) ?_
    refine lv_iadd hx hb dL_law_689 ?_
    refine W_top (y := .int 3) (by decide) ?_
    refine va_sld hx hb hX hbl hbA hS (g_in t_3 (by decide) (by decide)) dL_law_690 ?_
    refine W_top (y := .int (xs 3)) (congrArg (fun n => Value.int (xs n)) (by decide : (3 : Int32).toNatClampNeg = 3)) ?_
    refine lv_aload_n hx hb dL_law_691 rfl (lv_at hl 3 rfl) ?_
    refine lv_iload_n hx hb dL_law_692 rfl (lv_at hl 0 rfl) ?_
    refine lv_iconst (v := 4) hx hb dL_law_693 (by decide) ?_
    refine lv_iadd hx hb dL_law_694 ?_
    refine W_top (y := .int 4) (by decide) ?_
    refine va_sld hx hb hX hbl hbA hS (g_in t_4 (by decide) (by decide)) dL_law_695 ?_
    refine W_top (y := .int (xs 4)) (congrArg (fun n => Value.int (xs n)) (by decide : (4 : Int32).toNatClampNeg = 4)) ?_
    refine callRV (rest := [.int (-1)]) (As := [.int (xs 1), .int (xs 2), .int (xs 3), .int (xs 4)]) hx hb hml hown htb hK (c_X9_changed l D E qm cm (xs 1) (xs 2) (xs 3) (xs 4) ) ok_X9_changed k_1258 k_1259 k_1260 k_9 k_1261 ⟨(Nat.le_of_ble_eq_true rfl), (Nat.le_of_ble_eq_true rfl)⟩ ⟨(Nat.le_of_ble_eq_true rfl), (Nat.le_of_ble_eq_true rfl)⟩ hl.1 (Nat.le_of_ble_eq_true rfl) rfl rfl dL_law_696 (hP.sub (ws' := [(qm, .inr (9, mF cm 0 0 0 0 0 0 0 0 0)), ((cm 3), .inl (E 0, 16, .inl (fun _ => -5)))]) [22, 24] rfl) rfl rfl 0 rfl (fun r_7 hw_6 => ?_)
    rcases hw_6 with ⟨hr_7, hw_6⟩ | ⟨hr_7, hw_6⟩
    ·
      refine W_top (y := .int (-2)) (by rw [hr_7]) ?_
      exfalso; omega
    ·
      refine W_top (y := .int (-1)) (by rw [hr_7]) ?_
      refine lv_icmp_eq (tgt := 1550) hx hb dL_law_699 (by decide) (fun c_8 => ?_) (fun c_8 => absurd rfl c_8)
      exact law_end hx hb hr hml hown htb hX hbl hlocks hS (lv_sub hl [0, 3] rfl) (Nat.le_of_ble_eq_true rfl) (Nat.le_of_ble_eq_true rfl)
set_option maxHeartbeats 4000000 in
set_option maxRecDepth 100000 in
theorem law_14 {p : Program} {l : Launch} {e : Env} {s : State} {m : MethodId} {below : List Frame} {meth : Method} {c : Code} {D : va_G} {E : Nat → Nat} {b : Nat} {xs : Nat → Int32} {qx : Nat} {ax : Nat → Nat} {bx : Nat → Nat → Nat} {fw : Nat → Int32} {qm : Nat} {cm : Nat → Nat} {fm : Nat → Int32} {H : Heap} {locs : List Loc} {ls : Array Slot} (hx : p.tables.exec = Jvm.exec) (hb : c.code = code) (hr : meth.sig.returnType = ret) (hml : c.maxLocals = 4) (hown : s.vm.findClass R_law = some m.cls) (htb : ∀ w ∈ tb, w.before #[Value.ref b] s = true) (hK : KX D E s) (hX : va_X b 6 xs s s.heap) (hbl : b < s.heap.size) (hlocks : meth.locks = false) (hP : va_P D vwCl (LW E qx ax bx fw qm cm fm) H) (hD : va_D (fun q : Nat => s.heap.size ≤ q) (LW E qx ax bx fw qm cm fm)) (hS : va_S (fun q : Nat => s.heap.size ≤ q) s.heap H locs) (hl : lv_has ls 4 [(3, .int 0), (2, .ref qm), (1, .ref qx), (0, .ref b)]) : W p l e room_1 s m #[Value.ref b] below meth c H locs 123 44666 (lw_Z below #[Value.ref b] s) (F0 m 704 ls []) := by
  have hA : ∀ q : Nat, s.heap.size ≤ q → (fun q : Nat => s.heap.size ≤ q) q := fun _ h => h
  have hbA : ¬ (fun q : Nat => s.heap.size ≤ q) b := Nat.not_le.mpr hbl
  refine lv_aload_n hx hb dL_law_704 rfl (lv_at hl 2 rfl) ?_
  refine lv_aload_n hx hb dL_law_705 rfl (lv_at hl 3 rfl) ?_
  refine lv_iload_n hx hb dL_law_706 rfl (lv_at hl 0 rfl) ?_
  refine lv_iconst (v := 1) hx hb dL_law_707 (by decide) ?_
  refine lv_iadd hx hb dL_law_708 ?_
  refine W_top (y := .int 1) (by decide) ?_
  refine va_sld hx hb hX hbl hbA hS (g_in t_1 (by decide) (by decide)) dL_law_709 ?_
  refine W_top (y := .int (xs 1)) (congrArg (fun n => Value.int (xs n)) (by decide : (1 : Int32).toNatClampNeg = 1)) ?_
  refine lv_aload_n hx hb dL_law_710 rfl (lv_at hl 3 rfl) ?_
  refine lv_iload_n hx hb dL_law_711 rfl (lv_at hl 0 rfl) ?_
  refine lv_iconst (v := 2) hx hb dL_law_712 (by decide) ?_
  refine lv_iadd hx hb dL_law_713 ?_
  refine W_top (y := .int 2) (by decide) ?_
  refine va_sld hx hb hX hbl hbA hS (g_in t_2 (by decide) (by decide)) dL_law_714 ?_
  refine W_top (y := .int (xs 2)) (congrArg (fun n => Value.int (xs n)) (by decide : (2 : Int32).toNatClampNeg = 2)) ?_
  refine lv_aload_n hx hb dL_law_715 rfl (lv_at hl 3 rfl) ?_
  refine lv_iload_n hx hb dL_law_716 rfl (lv_at hl 0 rfl) ?_
  refine lv_iconst (v := 3) hx hb dL_law_717 (by decide) ?_
  refine lv_iadd hx hb dL_law_718 ?_
  refine W_top (y := .int 3) (by decide) ?_
  refine va_sld hx hb hX hbl hbA hS (g_in t_3 (by decide) (by decide)) dL_law_719 ?_
  refine W_top (y := .int (xs 3)) (congrArg (fun n => Value.int (xs n)) (by decide : (3 : Int32).toNatClampNeg = 3)) ?_
  refine callRV (rest := []) (As := [.int (xs 1), .int (xs 2), .int (xs 3)]) hx hb hml hown htb hK (c_X8_law l D E qx ax (xs 1) (xs 2) (xs 3) ) ok_X8_law k_482 k_483 k_484 k_1 k_485 ⟨(Nat.le_of_ble_eq_true rfl), (Nat.le_of_ble_eq_true rfl)⟩ ⟨(Nat.le_of_ble_eq_true rfl), (Nat.le_of_ble_eq_true rfl)⟩ hl.1 (Nat.le_of_ble_eq_true rfl) rfl rfl dL_law_720 (hP.sub (ws' := [(qx, .inr (8, xF ax 0)), ((ax 1), .inl (E 0, 16, .inl (fun _ => -5)))]) [0, 2] rfl) rfl rfl 0 rfl (fun r_2 hw_1 => ?_)
  rcases hw_1 with ⟨hr_2, hw_1⟩ | ⟨hr_2, hw_1⟩
  ·
    refine W_top (y := .int (-2)) (by rw [hr_2]) ?_
    refine lv_aload_n hx hb dL_law_723 rfl (lv_at hl 1 rfl) ?_
    refine lv_aload_n hx hb dL_law_724 rfl (lv_at hl 3 rfl) ?_
    refine lv_iload_n hx hb dL_law_725 rfl (lv_at hl 0 rfl) ?_
    refine lv_iconst (v := 1) hx hb dL_law_726 (by decide) ?_
    refine lv_iadd hx hb dL_law_727 ?_
    refine W_top (y := .int 1) (by decide) ?_
    refine va_sld hx hb hX hbl hbA hS (g_in t_1 (by decide) (by decide)) dL_law_728 ?_
    refine W_top (y := .int (xs 1)) (congrArg (fun n => Value.int (xs n)) (by decide : (1 : Int32).toNatClampNeg = 1)) ?_
    refine lv_aload_n hx hb dL_law_729 rfl (lv_at hl 3 rfl) ?_
    refine lv_iload_n hx hb dL_law_730 rfl (lv_at hl 0 rfl) ?_
    refine lv_iconst (v := 2) hx hb dL_law_731 (by decide) ?_
    refine lv_iadd hx hb dL_law_732 ?_
    refine W_top (y := .int 2) (by decide) ?_
    refine va_sld hx hb hX hbl hbA hS (g_in t_2 (by decide) (by decide)) dL_law_733 ?_
    refine W_top (y := .int (xs 2)) (congrArg (fun n => Value.int (xs n)) (by decide : (2 : Int32).toNatClampNeg = 2)) ?_
    refine lv_aload_n hx hb dL_law_734 rfl (lv_at hl 3 rfl) ?_
    refine lv_iload_n hx hb dL_law_735 rfl (lv_at hl 0 rfl) ?_
    refine lv_iconst (v := 3) hx hb dL_law_736 (by decide) ?_
    refine lv_iadd hx hb dL_law_737 ?_
    refine W_top (y := .int 3) (by decide) ?_
    refine va_sld hx hb hX hbl hbA hS (g_in t_3 (by decide) (by decide)) dL_law_738 ?_
    refine W_top (y := .int (xs 3)) (congrArg (fun n => Value.int (xs n)) (by decide : (3 : Int32).toNatClampNeg = 3)) ?_
    refine callRV (rest := [.int (-2)]) (As := [.int (xs 1), .int (xs 2), .int (xs 3)]) hx hb hml hown htb hK (c_X9_law l D E qm cm (xs 1) (xs 2) (xs 3) ) ok_X9_law k_1265 k_1266 k_1267 k_9 k_1268 ⟨(Nat.le_of_ble_eq_true rfl), (Nat.le_of_ble_eq_true rfl)⟩ ⟨(Nat.le_of_ble_eq_true rfl), (Nat.le_of_ble_eq_true rfl)⟩ hl.1 (Nat.le_of_ble_eq_true rfl) rfl rfl dL_law_739 (hP.sub (ws' := [(qm, .inr (9, mF cm 0 0 0 0 0 0 0 0 0)), ((cm 3), .inl (E 0, 16, .inl (fun _ => -5)))]) [22, 24] rfl) rfl rfl 0 rfl (fun r_4 hw_3 => ?_)
    rcases hw_3 with ⟨hr_4, hw_3⟩ | ⟨hr_4, hw_3⟩
    ·
      refine W_top (y := .int (-2)) (by rw [hr_4]) ?_
      refine lv_icmp_eq (tgt := 1550) hx hb dL_law_742 (by decide) (fun c_5 => ?_) (fun c_5 => absurd rfl c_5)
      exact law_end hx hb hr hml hown htb hX hbl hlocks hS (lv_sub hl [0, 3] rfl) (Nat.le_of_ble_eq_true rfl) (Nat.le_of_ble_eq_true rfl)
    ·
      refine W_top (y := .int (-1)) (by rw [hr_4]) ?_
      exfalso; omega
  ·
    refine W_top (y := .int (-1)) (by rw [hr_2]) ?_
    refine lv_aload_n hx hb dL_law_723 rfl (lv_at hl 1 rfl) ?_
    refine lv_aload_n hx hb dL_law_724 rfl (lv_at hl 3 rfl) ?_
    refine lv_iload_n hx hb dL_law_725 rfl (lv_at hl 0 rfl) ?_
    refine lv_iconst (v := 1) hx hb dL_law_726 (by decide) ?_
    refine lv_iadd hx hb dL_law_727 ?_
    refine W_top (y := .int 1) (by decide) ?_
    refine va_sld hx hb hX hbl hbA hS (g_in t_1 (by decide) (by decide)) dL_law_728 ?_
    refine W_top (y := .int (xs 1)) (congrArg (fun n => Value.int (xs n)) (by decide : (1 : Int32).toNatClampNeg = 1)) ?_
    refine lv_aload_n hx hb dL_law_729 rfl (lv_at hl 3 rfl) ?_
    refine lv_iload_n hx hb dL_law_730 rfl (lv_at hl 0 rfl) ?_
    refine lv_iconst (v := 2) hx hb dL_law_731 (by decide) ?_
    refine lv_iadd hx hb dL_law_732 ?_
    refine W_top (y := .int 2) (by decide) ?_
    refine va_sld hx hb hX hbl hbA hS (g_in t_2 (by decide) (by decide)) dL_law_733 ?_
    refine W_top (y := .int (xs 2)) (congrArg (fun n => Value.int (xs n)) (by decide : (2 : Int32).toNatClampNeg = 2)) ?_
    refine lv_aload_n hx hb dL_law_734 rfl (lv_at hl 3 rfl) ?_
    refine lv_iload_n hx hb dL_law_735 rfl (lv_at hl 0 rfl) ?_
    refine lv_iconst (v := 3) hx hb dL_law_736 (by decide) ?_
    refine lv_iadd hx hb dL_law_737 ?_
    refine W_top (y := .int 3) (by decide) ?_
    refine va_sld hx hb hX hbl hbA hS (g_in t_3 (by decide) (by decide)) dL_law_738 ?_
    refine W_top (y := .int (xs 3)) (congrArg (fun n => Value.int (xs n)) (by decide : (3 : Int32).toNatClampNeg = 3)) ?_
    refine callRV (rest := [.int (-1)]) (As := [.int (xs 1), .int (xs 2), .int (xs 3)]) hx hb hml hown htb hK (c_X9_law l D E qm cm (xs 1) (xs 2) (xs 3) ) ok_X9_law k_1265 k_1266 k_1267 k_9 k_1268 ⟨(Nat.le_of_ble_eq_true rfl), (Nat.le_of_ble_eq_true rfl)⟩ ⟨(Nat.le_of_ble_eq_true rfl), (Nat.le_of_ble_eq_true rfl)⟩ hl.1 (Nat.le_of_ble_eq_true rfl) rfl rfl dL_law_739 (hP.sub (ws' := [(qm, .inr (9, mF cm 0 0 0 0 0 0 0 0 0)), ((cm 3), .inl (E 0, 16, .inl (fun _ => -5)))]) [22, 24] rfl) rfl rfl 0 rfl (fun r_7 hw_6 => ?_)
    rcases hw_6 with ⟨hr_7, hw_6⟩ | ⟨hr_7, hw_6⟩
    ·
      refine W_top (y := .int (-2)) (by rw [hr_7]) ?_
      exfalso; omega
    ·
      refine W_top (y := .int (-1)) (by rw [hr_7]) ?_
      refine lv_icmp_eq (tgt := 1550) hx hb dL_law_742 (by decide) (fun c_8 => ?_) (fun c_8 => absurd rfl c_8)
      exact law_end hx hb hr hml hown htb hX hbl hlocks hS (lv_sub hl [0, 3] rfl) (Nat.le_of_ble_eq_true rfl) (Nat.le_of_ble_eq_true rfl)
set_option maxHeartbeats 4000000 in
set_option maxRecDepth 100000 in
theorem law_15 {p : Program} {l : Launch} {e : Env} {s : State} {m : MethodId} {below : List Frame} {meth : Method} {c : Code} {D : va_G} {E : Nat → Nat} {b : Nat} {xs : Nat → Int32} {qx : Nat} {ax : Nat → Nat} {bx : Nat → Nat → Nat} {fw : Nat → Int32} {qm : Nat} {cm : Nat → Nat} {fm : Nat → Int32} {H : Heap} {locs : List Loc} {ls : Array Slot} (hx : p.tables.exec = Jvm.exec) (hb : c.code = code) (hr : meth.sig.returnType = ret) (hml : c.maxLocals = 4) (hown : s.vm.findClass R_law = some m.cls) (htb : ∀ w ∈ tb, w.before #[Value.ref b] s = true) (hK : KX D E s) (hX : va_X b 6 xs s s.heap) (hbl : b < s.heap.size) (hlocks : meth.locks = false) (hP : va_P D vwCl (LW E qx ax bx fw qm cm fm) H) (hD : va_D (fun q : Nat => s.heap.size ≤ q) (LW E qx ax bx fw qm cm fm)) (hS : va_S (fun q : Nat => s.heap.size ≤ q) s.heap H locs) (hl : lv_has ls 4 [(3, .int 0), (2, .ref qm), (1, .ref qx), (0, .ref b)]) : W p l e room_1 s m #[Value.ref b] below meth c H locs 123 44666 (lw_Z below #[Value.ref b] s) (F0 m 747 ls []) := by
  have hA : ∀ q : Nat, s.heap.size ≤ q → (fun q : Nat => s.heap.size ≤ q) q := fun _ h => h
  have hbA : ¬ (fun q : Nat => s.heap.size ≤ q) b := Nat.not_le.mpr hbl
  refine lv_aload_n hx hb dL_law_747 rfl (lv_at hl 2 rfl) ?_
  refine lv_aload_n hx hb dL_law_748 rfl (lv_at hl 3 rfl) ?_
  refine lv_iload_n hx hb dL_law_749 rfl (lv_at hl 0 rfl) ?_
  refine lv_iconst (v := 1) hx hb dL_law_750 (by decide) ?_
  refine lv_iadd hx hb dL_law_751 ?_
  refine W_top (y := .int 1) (by decide) ?_
  refine va_sld hx hb hX hbl hbA hS (g_in t_1 (by decide) (by decide)) dL_law_752 ?_
  refine W_top (y := .int (xs 1)) (congrArg (fun n => Value.int (xs n)) (by decide : (1 : Int32).toNatClampNeg = 1)) ?_
  refine lv_aload_n hx hb dL_law_753 rfl (lv_at hl 3 rfl) ?_
  refine lv_iload_n hx hb dL_law_754 rfl (lv_at hl 0 rfl) ?_
  refine lv_iconst (v := 2) hx hb dL_law_755 (by decide) ?_
  refine lv_iadd hx hb dL_law_756 ?_
  refine W_top (y := .int 2) (by decide) ?_
  refine va_sld hx hb hX hbl hbA hS (g_in t_2 (by decide) (by decide)) dL_law_757 ?_
  refine W_top (y := .int (xs 2)) (congrArg (fun n => Value.int (xs n)) (by decide : (2 : Int32).toNatClampNeg = 2)) ?_
  refine lv_aload_n hx hb dL_law_758 rfl (lv_at hl 3 rfl) ?_
  refine lv_iload_n hx hb dL_law_759 rfl (lv_at hl 0 rfl) ?_
  refine lv_iconst (v := 3) hx hb dL_law_760 (by decide) ?_
  refine lv_iadd hx hb dL_law_761 ?_
  refine W_top (y := .int 3) (by decide) ?_
  refine va_sld hx hb hX hbl hbA hS (g_in t_3 (by decide) (by decide)) dL_law_762 ?_
  refine W_top (y := .int (xs 3)) (congrArg (fun n => Value.int (xs n)) (by decide : (3 : Int32).toNatClampNeg = 3)) ?_
  refine callRV (rest := []) (As := [.int (xs 1), .int (xs 2), .int (xs 3)]) hx hb hml hown htb hK (c_X8_terms l D E qx ax (xs 1) (xs 2) (xs 3) ) ok_X8_terms k_525 k_526 k_527 k_1 k_528 ⟨(Nat.le_of_ble_eq_true rfl), (Nat.le_of_ble_eq_true rfl)⟩ ⟨(Nat.le_of_ble_eq_true rfl), (Nat.le_of_ble_eq_true rfl)⟩ hl.1 (Nat.le_of_ble_eq_true rfl) rfl rfl dL_law_763 (hP.sub (ws' := [(qx, .inr (8, xF ax 0)), ((ax 1), .inl (E 0, 16, .inl (fun _ => -5)))]) [0, 2] rfl) rfl rfl 0 rfl (fun r_2 hw_1 => ?_)
  rcases hw_1 with ⟨hr_2, hw_1⟩ | ⟨hr_2, hw_1⟩
  ·
    refine W_top (y := .int (-2)) (by rw [hr_2]) ?_
    refine lv_aload_n hx hb dL_law_766 rfl (lv_at hl 1 rfl) ?_
    refine lv_aload_n hx hb dL_law_767 rfl (lv_at hl 3 rfl) ?_
    refine lv_iload_n hx hb dL_law_768 rfl (lv_at hl 0 rfl) ?_
    refine lv_iconst (v := 1) hx hb dL_law_769 (by decide) ?_
    refine lv_iadd hx hb dL_law_770 ?_
    refine W_top (y := .int 1) (by decide) ?_
    refine va_sld hx hb hX hbl hbA hS (g_in t_1 (by decide) (by decide)) dL_law_771 ?_
    refine W_top (y := .int (xs 1)) (congrArg (fun n => Value.int (xs n)) (by decide : (1 : Int32).toNatClampNeg = 1)) ?_
    refine lv_aload_n hx hb dL_law_772 rfl (lv_at hl 3 rfl) ?_
    refine lv_iload_n hx hb dL_law_773 rfl (lv_at hl 0 rfl) ?_
    refine lv_iconst (v := 2) hx hb dL_law_774 (by decide) ?_
    refine lv_iadd hx hb dL_law_775 ?_
    refine W_top (y := .int 2) (by decide) ?_
    refine va_sld hx hb hX hbl hbA hS (g_in t_2 (by decide) (by decide)) dL_law_776 ?_
    refine W_top (y := .int (xs 2)) (congrArg (fun n => Value.int (xs n)) (by decide : (2 : Int32).toNatClampNeg = 2)) ?_
    refine lv_aload_n hx hb dL_law_777 rfl (lv_at hl 3 rfl) ?_
    refine lv_iload_n hx hb dL_law_778 rfl (lv_at hl 0 rfl) ?_
    refine lv_iconst (v := 3) hx hb dL_law_779 (by decide) ?_
    refine lv_iadd hx hb dL_law_780 ?_
    refine W_top (y := .int 3) (by decide) ?_
    refine va_sld hx hb hX hbl hbA hS (g_in t_3 (by decide) (by decide)) dL_law_781 ?_
    refine W_top (y := .int (xs 3)) (congrArg (fun n => Value.int (xs n)) (by decide : (3 : Int32).toNatClampNeg = 3)) ?_
    refine callRV (rest := [.int (-2)]) (As := [.int (xs 1), .int (xs 2), .int (xs 3)]) hx hb hml hown htb hK (c_X9_terms l D E qm cm (xs 1) (xs 2) (xs 3) ) ok_X9_terms k_1283 k_1284 k_1285 k_9 k_1286 ⟨(Nat.le_of_ble_eq_true rfl), (Nat.le_of_ble_eq_true rfl)⟩ ⟨(Nat.le_of_ble_eq_true rfl), (Nat.le_of_ble_eq_true rfl)⟩ hl.1 (Nat.le_of_ble_eq_true rfl) rfl rfl dL_law_782 (hP.sub (ws' := [(qm, .inr (9, mF cm 0 0 0 0 0 0 0 0 0)), ((cm 3), .inl (E 0, 16, .inl (fun _ => -5)))]) [22, 24] rfl) rfl rfl 0 rfl (fun r_4 hw_3 => ?_)
    rcases hw_3 with ⟨hr_4, hw_3⟩ | ⟨hr_4, hw_3⟩
    ·
      refine W_top (y := .int (-2)) (by rw [hr_4]) ?_
      refine lv_icmp_eq (tgt := 1550) hx hb dL_law_785 (by decide) (fun c_5 => ?_) (fun c_5 => absurd rfl c_5)
      exact law_end hx hb hr hml hown htb hX hbl hlocks hS (lv_sub hl [0, 3] rfl) (Nat.le_of_ble_eq_true rfl) (Nat.le_of_ble_eq_true rfl)
    ·
      refine W_top (y := .int (-1)) (by rw [hr_4]) ?_
      exfalso; omega
  ·
    refine W_top (y := .int (-1)) (by rw [hr_2]) ?_
    refine lv_aload_n hx hb dL_law_766 rfl (lv_at hl 1 rfl) ?_
    refine lv_aload_n hx hb dL_law_767 rfl (lv_at hl 3 rfl) ?_
    refine lv_iload_n hx hb dL_law_768 rfl (lv_at hl 0 rfl) ?_
    refine lv_iconst (v := 1) hx hb dL_law_769 (by decide) ?_
    refine lv_iadd hx hb dL_law_770 ?_
    refine W_top (y := .int 1) (by decide) ?_
    refine va_sld hx hb hX hbl hbA hS (g_in t_1 (by decide) (by decide)) dL_law_771 ?_
    refine W_top (y := .int (xs 1)) (congrArg (fun n => Value.int (xs n)) (by decide : (1 : Int32).toNatClampNeg = 1)) ?_
    refine lv_aload_n hx hb dL_law_772 rfl (lv_at hl 3 rfl) ?_
    refine lv_iload_n hx hb dL_law_773 rfl (lv_at hl 0 rfl) ?_
    refine lv_iconst (v := 2) hx hb dL_law_774 (by decide) ?_
    refine lv_iadd hx hb dL_law_775 ?_
    refine W_top (y := .int 2) (by decide) ?_
    refine va_sld hx hb hX hbl hbA hS (g_in t_2 (by decide) (by decide)) dL_law_776 ?_
    refine W_top (y := .int (xs 2)) (congrArg (fun n => Value.int (xs n)) (by decide : (2 : Int32).toNatClampNeg = 2)) ?_
    refine lv_aload_n hx hb dL_law_777 rfl (lv_at hl 3 rfl) ?_
    refine lv_iload_n hx hb dL_law_778 rfl (lv_at hl 0 rfl) ?_
    refine lv_iconst (v := 3) hx hb dL_law_779 (by decide) ?_
    refine lv_iadd hx hb dL_law_780 ?_
    refine W_top (y := .int 3) (by decide) ?_
    refine va_sld hx hb hX hbl hbA hS (g_in t_3 (by decide) (by decide)) dL_law_781 ?_
    refine W_top (y := .int (xs 3)) (congrArg (fun n => Value.int (xs n)) (by decide : (3 : Int32).toNatClampNeg = 3)) ?_
    refine callRV (rest := [.int (-1)]) (As := [.int (xs 1), .int (xs 2), .int (xs 3)]) hx hb hml hown htb hK (c_X9_terms l D E qm cm (xs 1) (xs 2) (xs 3) ) ok_X9_terms k_1283 k_1284 k_1285 k_9 k_1286 ⟨(Nat.le_of_ble_eq_true rfl), (Nat.le_of_ble_eq_true rfl)⟩ ⟨(Nat.le_of_ble_eq_true rfl), (Nat.le_of_ble_eq_true rfl)⟩ hl.1 (Nat.le_of_ble_eq_true rfl) rfl rfl dL_law_782 (hP.sub (ws' := [(qm, .inr (9, mF cm 0 0 0 0 0 0 0 0 0)), ((cm 3), .inl (E 0, 16, .inl (fun _ => -5)))]) [22, 24] rfl) rfl rfl 0 rfl (fun r_7 hw_6 => ?_)
    rcases hw_6 with ⟨hr_7, hw_6⟩ | ⟨hr_7, hw_6⟩
    ·
      refine W_top (y := .int (-2)) (by rw [hr_7]) ?_
      exfalso; omega
    ·
      refine W_top (y := .int (-1)) (by rw [hr_7]) ?_
      refine lv_icmp_eq (tgt := 1550) hx hb dL_law_785 (by decide) (fun c_8 => ?_) (fun c_8 => absurd rfl c_8)
      exact law_end hx hb hr hml hown htb hX hbl hlocks hS (lv_sub hl [0, 3] rfl) (Nat.le_of_ble_eq_true rfl) (Nat.le_of_ble_eq_true rfl)
set_option maxHeartbeats 4000000 in
set_option maxRecDepth 100000 in
theorem law_16 {p : Program} {l : Launch} {e : Env} {s : State} {m : MethodId} {below : List Frame} {meth : Method} {c : Code} {D : va_G} {E : Nat → Nat} {b : Nat} {xs : Nat → Int32} {qx : Nat} {ax : Nat → Nat} {bx : Nat → Nat → Nat} {fw : Nat → Int32} {qm : Nat} {cm : Nat → Nat} {fm : Nat → Int32} {H : Heap} {locs : List Loc} {ls : Array Slot} (hx : p.tables.exec = Jvm.exec) (hb : c.code = code) (hr : meth.sig.returnType = ret) (hml : c.maxLocals = 4) (hown : s.vm.findClass R_law = some m.cls) (htb : ∀ w ∈ tb, w.before #[Value.ref b] s = true) (hK : KX D E s) (hX : va_X b 6 xs s s.heap) (hbl : b < s.heap.size) (hlocks : meth.locks = false) (hP : va_P D vwCl (LW E qx ax bx fw qm cm fm) H) (hD : va_D (fun q : Nat => s.heap.size ≤ q) (LW E qx ax bx fw qm cm fm)) (hS : va_S (fun q : Nat => s.heap.size ≤ q) s.heap H locs) (hl : lv_has ls 4 [(3, .int 0), (2, .ref qm), (1, .ref qx), (0, .ref b)]) : W p l e room_1 s m #[Value.ref b] below meth c H locs 123 44666 (lw_Z below #[Value.ref b] s) (F0 m 790 ls []) := by
  have hA : ∀ q : Nat, s.heap.size ≤ q → (fun q : Nat => s.heap.size ≤ q) q := fun _ h => h
  have hbA : ¬ (fun q : Nat => s.heap.size ≤ q) b := Nat.not_le.mpr hbl
  refine lv_aload_n hx hb dL_law_790 rfl (lv_at hl 2 rfl) ?_
  refine lv_aload_n hx hb dL_law_791 rfl (lv_at hl 3 rfl) ?_
  refine lv_iload_n hx hb dL_law_792 rfl (lv_at hl 0 rfl) ?_
  refine lv_iconst (v := 1) hx hb dL_law_793 (by decide) ?_
  refine lv_iadd hx hb dL_law_794 ?_
  refine W_top (y := .int 1) (by decide) ?_
  refine va_sld hx hb hX hbl hbA hS (g_in t_1 (by decide) (by decide)) dL_law_795 ?_
  refine W_top (y := .int (xs 1)) (congrArg (fun n => Value.int (xs n)) (by decide : (1 : Int32).toNatClampNeg = 1)) ?_
  refine lv_aload_n hx hb dL_law_796 rfl (lv_at hl 3 rfl) ?_
  refine lv_iload_n hx hb dL_law_797 rfl (lv_at hl 0 rfl) ?_
  refine lv_iconst (v := 2) hx hb dL_law_798 (by decide) ?_
  refine lv_iadd hx hb dL_law_799 ?_
  refine W_top (y := .int 2) (by decide) ?_
  refine va_sld hx hb hX hbl hbA hS (g_in t_2 (by decide) (by decide)) dL_law_800 ?_
  refine W_top (y := .int (xs 2)) (congrArg (fun n => Value.int (xs n)) (by decide : (2 : Int32).toNatClampNeg = 2)) ?_
  refine lv_aload_n hx hb dL_law_801 rfl (lv_at hl 3 rfl) ?_
  refine lv_iload_n hx hb dL_law_802 rfl (lv_at hl 0 rfl) ?_
  refine lv_iconst (v := 3) hx hb dL_law_803 (by decide) ?_
  refine lv_iadd hx hb dL_law_804 ?_
  refine W_top (y := .int 3) (by decide) ?_
  refine va_sld hx hb hX hbl hbA hS (g_in t_3 (by decide) (by decide)) dL_law_805 ?_
  refine W_top (y := .int (xs 3)) (congrArg (fun n => Value.int (xs n)) (by decide : (3 : Int32).toNatClampNeg = 3)) ?_
  refine lv_aload_n hx hb dL_law_806 rfl (lv_at hl 3 rfl) ?_
  refine lv_iload_n hx hb dL_law_807 rfl (lv_at hl 0 rfl) ?_
  refine lv_iconst (v := 4) hx hb dL_law_808 (by decide) ?_
  refine lv_iadd hx hb dL_law_809 ?_
  refine W_top (y := .int 4) (by decide) ?_
  refine va_sld hx hb hX hbl hbA hS (g_in t_4 (by decide) (by decide)) dL_law_810 ?_
  refine W_top (y := .int (xs 4)) (congrArg (fun n => Value.int (xs n)) (by decide : (4 : Int32).toNatClampNeg = 4)) ?_
  refine lv_aload_n hx hb dL_law_811 rfl (lv_at hl 3 rfl) ?_
  refine lv_iload_n hx hb dL_law_812 rfl (lv_at hl 0 rfl) ?_
  refine lv_iconst (v := 5) hx hb dL_law_813 (by decide) ?_
  refine lv_iadd hx hb dL_law_814 ?_
  refine W_top (y := .int 5) (by decide) ?_
  refine va_sld hx hb hX hbl hbA hS (g_in t_5 (by decide) (by decide)) dL_law_815 ?_
  refine W_top (y := .int (xs 5)) (congrArg (fun n => Value.int (xs n)) (by decide : (5 : Int32).toNatClampNeg = 5)) ?_
  refine callRV (rest := []) (As := [.int (xs 1), .int (xs 2), .int (xs 3), .int (xs 4), .int (xs 5)]) hx hb hml hown htb hK (c_X8_foretold l D E qx ax (xs 1) (xs 2) (xs 3) (xs 4) (xs 5) ) ok_X8_foretold k_533 k_534 k_535 k_1 k_536 ⟨(Nat.le_of_ble_eq_true rfl), (Nat.le_of_ble_eq_true rfl)⟩ ⟨(Nat.le_of_ble_eq_true rfl), (Nat.le_of_ble_eq_true rfl)⟩ hl.1 (Nat.le_of_ble_eq_true rfl) rfl rfl dL_law_816 (hP.sub (ws' := [(qx, .inr (8, xF ax 0)), ((ax 1), .inl (E 0, 16, .inl (fun _ => -5)))]) [0, 2] rfl) rfl rfl 0 rfl (fun r_2 hw_1 => ?_)
  obtain ⟨hr_2, hw_1⟩ := hw_1
  refine W_top (y := .int (-2000000000)) (by rw [hr_2]) ?_
  refine lv_aload_n hx hb dL_law_819 rfl (lv_at hl 1 rfl) ?_
  refine lv_aload_n hx hb dL_law_820 rfl (lv_at hl 3 rfl) ?_
  refine lv_iload_n hx hb dL_law_821 rfl (lv_at hl 0 rfl) ?_
  refine lv_iconst (v := 1) hx hb dL_law_822 (by decide) ?_
  refine lv_iadd hx hb dL_law_823 ?_
  refine W_top (y := .int 1) (by decide) ?_
  refine va_sld hx hb hX hbl hbA hS (g_in t_1 (by decide) (by decide)) dL_law_824 ?_
  refine W_top (y := .int (xs 1)) (congrArg (fun n => Value.int (xs n)) (by decide : (1 : Int32).toNatClampNeg = 1)) ?_
  refine lv_aload_n hx hb dL_law_825 rfl (lv_at hl 3 rfl) ?_
  refine lv_iload_n hx hb dL_law_826 rfl (lv_at hl 0 rfl) ?_
  refine lv_iconst (v := 2) hx hb dL_law_827 (by decide) ?_
  refine lv_iadd hx hb dL_law_828 ?_
  refine W_top (y := .int 2) (by decide) ?_
  refine va_sld hx hb hX hbl hbA hS (g_in t_2 (by decide) (by decide)) dL_law_829 ?_
  refine W_top (y := .int (xs 2)) (congrArg (fun n => Value.int (xs n)) (by decide : (2 : Int32).toNatClampNeg = 2)) ?_
  refine lv_aload_n hx hb dL_law_830 rfl (lv_at hl 3 rfl) ?_
  refine lv_iload_n hx hb dL_law_831 rfl (lv_at hl 0 rfl) ?_
  refine lv_iconst (v := 3) hx hb dL_law_832 (by decide) ?_
  refine lv_iadd hx hb dL_law_833 ?_
  refine W_top (y := .int 3) (by decide) ?_
  refine va_sld hx hb hX hbl hbA hS (g_in t_3 (by decide) (by decide)) dL_law_834 ?_
  refine W_top (y := .int (xs 3)) (congrArg (fun n => Value.int (xs n)) (by decide : (3 : Int32).toNatClampNeg = 3)) ?_
  refine lv_aload_n hx hb dL_law_835 rfl (lv_at hl 3 rfl) ?_
  refine lv_iload_n hx hb dL_law_836 rfl (lv_at hl 0 rfl) ?_
  refine lv_iconst (v := 4) hx hb dL_law_837 (by decide) ?_
  refine lv_iadd hx hb dL_law_838 ?_
  refine W_top (y := .int 4) (by decide) ?_
  refine va_sld hx hb hX hbl hbA hS (g_in t_4 (by decide) (by decide)) dL_law_839 ?_
  refine W_top (y := .int (xs 4)) (congrArg (fun n => Value.int (xs n)) (by decide : (4 : Int32).toNatClampNeg = 4)) ?_
  refine lv_aload_n hx hb dL_law_840 rfl (lv_at hl 3 rfl) ?_
  refine lv_iload_n hx hb dL_law_841 rfl (lv_at hl 0 rfl) ?_
  refine lv_iconst (v := 5) hx hb dL_law_842 (by decide) ?_
  refine lv_iadd hx hb dL_law_843 ?_
  refine W_top (y := .int 5) (by decide) ?_
  refine va_sld hx hb hX hbl hbA hS (g_in t_5 (by decide) (by decide)) dL_law_844 ?_
  refine W_top (y := .int (xs 5)) (congrArg (fun n => Value.int (xs n)) (by decide : (5 : Int32).toNatClampNeg = 5)) ?_
  refine callRV (rest := [.int (-2000000000)]) (As := [.int (xs 1), .int (xs 2), .int (xs 3), .int (xs 4), .int (xs 5)]) hx hb hml hown htb hK (c_X9_foretold l D E qm cm (xs 1) (xs 2) (xs 3) (xs 4) (xs 5) ) ok_X9_foretold k_1299 k_1300 k_1301 k_9 k_1302 ⟨(Nat.le_of_ble_eq_true rfl), (Nat.le_of_ble_eq_true rfl)⟩ ⟨(Nat.le_of_ble_eq_true rfl), (Nat.le_of_ble_eq_true rfl)⟩ hl.1 (Nat.le_of_ble_eq_true rfl) rfl rfl dL_law_845 (hP.sub (ws' := [(qm, .inr (9, mF cm 0 0 0 0 0 0 0 0 0)), ((cm 3), .inl (E 0, 16, .inl (fun _ => -5)))]) [22, 24] rfl) rfl rfl 0 rfl (fun r_4 hw_3 => ?_)
  obtain ⟨hr_4, hw_3⟩ := hw_3
  refine W_top (y := .int (-2000000000)) (by rw [hr_4]) ?_
  refine lv_icmp_eq (tgt := 1550) hx hb dL_law_848 (by decide) (fun c_5 => ?_) (fun c_5 => absurd rfl c_5)
  exact law_end hx hb hr hml hown htb hX hbl hlocks hS (lv_sub hl [0, 3] rfl) (Nat.le_of_ble_eq_true rfl) (Nat.le_of_ble_eq_true rfl)
set_option maxHeartbeats 4000000 in
set_option maxRecDepth 100000 in
theorem law_17 {p : Program} {l : Launch} {e : Env} {s : State} {m : MethodId} {below : List Frame} {meth : Method} {c : Code} {D : va_G} {E : Nat → Nat} {b : Nat} {xs : Nat → Int32} {qx : Nat} {ax : Nat → Nat} {bx : Nat → Nat → Nat} {fw : Nat → Int32} {qm : Nat} {cm : Nat → Nat} {fm : Nat → Int32} {H : Heap} {locs : List Loc} {ls : Array Slot} (hx : p.tables.exec = Jvm.exec) (hb : c.code = code) (hr : meth.sig.returnType = ret) (hml : c.maxLocals = 4) (hown : s.vm.findClass R_law = some m.cls) (htb : ∀ w ∈ tb, w.before #[Value.ref b] s = true) (hK : KX D E s) (hX : va_X b 6 xs s s.heap) (hbl : b < s.heap.size) (hlocks : meth.locks = false) (hP : va_P D vwCl (LW E qx ax bx fw qm cm fm) H) (hD : va_D (fun q : Nat => s.heap.size ≤ q) (LW E qx ax bx fw qm cm fm)) (hS : va_S (fun q : Nat => s.heap.size ≤ q) s.heap H locs) (hl : lv_has ls 4 [(3, .int 0), (2, .ref qm), (1, .ref qx), (0, .ref b)]) : W p l e room_1 s m #[Value.ref b] below meth c H locs 123 44666 (lw_Z below #[Value.ref b] s) (F0 m 853 ls []) := by
  have hA : ∀ q : Nat, s.heap.size ≤ q → (fun q : Nat => s.heap.size ≤ q) q := fun _ h => h
  have hbA : ¬ (fun q : Nat => s.heap.size ≤ q) b := Nat.not_le.mpr hbl
  refine lv_aload_n hx hb dL_law_853 rfl (lv_at hl 2 rfl) ?_
  refine lv_aload_n hx hb dL_law_854 rfl (lv_at hl 3 rfl) ?_
  refine lv_iload_n hx hb dL_law_855 rfl (lv_at hl 0 rfl) ?_
  refine lv_iconst (v := 1) hx hb dL_law_856 (by decide) ?_
  refine lv_iadd hx hb dL_law_857 ?_
  refine W_top (y := .int 1) (by decide) ?_
  refine va_sld hx hb hX hbl hbA hS (g_in t_1 (by decide) (by decide)) dL_law_858 ?_
  refine W_top (y := .int (xs 1)) (congrArg (fun n => Value.int (xs n)) (by decide : (1 : Int32).toNatClampNeg = 1)) ?_
  refine lv_aload_n hx hb dL_law_859 rfl (lv_at hl 3 rfl) ?_
  refine lv_iload_n hx hb dL_law_860 rfl (lv_at hl 0 rfl) ?_
  refine lv_iconst (v := 2) hx hb dL_law_861 (by decide) ?_
  refine lv_iadd hx hb dL_law_862 ?_
  refine W_top (y := .int 2) (by decide) ?_
  refine va_sld hx hb hX hbl hbA hS (g_in t_2 (by decide) (by decide)) dL_law_863 ?_
  refine W_top (y := .int (xs 2)) (congrArg (fun n => Value.int (xs n)) (by decide : (2 : Int32).toNatClampNeg = 2)) ?_
  refine lv_aload_n hx hb dL_law_864 rfl (lv_at hl 3 rfl) ?_
  refine lv_iload_n hx hb dL_law_865 rfl (lv_at hl 0 rfl) ?_
  refine lv_iconst (v := 3) hx hb dL_law_866 (by decide) ?_
  refine lv_iadd hx hb dL_law_867 ?_
  refine W_top (y := .int 3) (by decide) ?_
  refine va_sld hx hb hX hbl hbA hS (g_in t_3 (by decide) (by decide)) dL_law_868 ?_
  refine W_top (y := .int (xs 3)) (congrArg (fun n => Value.int (xs n)) (by decide : (3 : Int32).toNatClampNeg = 3)) ?_
  refine lv_aload_n hx hb dL_law_869 rfl (lv_at hl 3 rfl) ?_
  refine lv_iload_n hx hb dL_law_870 rfl (lv_at hl 0 rfl) ?_
  refine lv_iconst (v := 4) hx hb dL_law_871 (by decide) ?_
  refine lv_iadd hx hb dL_law_872 ?_
  refine W_top (y := .int 4) (by decide) ?_
  refine va_sld hx hb hX hbl hbA hS (g_in t_4 (by decide) (by decide)) dL_law_873 ?_
  refine W_top (y := .int (xs 4)) (congrArg (fun n => Value.int (xs n)) (by decide : (4 : Int32).toNatClampNeg = 4)) ?_
  refine callRV (rest := []) (As := [.int (xs 1), .int (xs 2), .int (xs 3), .int (xs 4)]) hx hb hml hown htb hK (c_X8_jump l D E qx ax (xs 1) (xs 2) (xs 3) (xs 4) ) ok_X8_jump k_558 k_559 k_560 k_1 k_561 ⟨(Nat.le_of_ble_eq_true rfl), (Nat.le_of_ble_eq_true rfl)⟩ ⟨(Nat.le_of_ble_eq_true rfl), (Nat.le_of_ble_eq_true rfl)⟩ hl.1 (Nat.le_of_ble_eq_true rfl) rfl rfl dL_law_874 (hP.sub (ws' := [(qx, .inr (8, xF ax 0)), ((ax 1), .inl (E 0, 16, .inl (fun _ => -5)))]) [0, 2] rfl) rfl rfl 0 rfl (fun r_2 hw_1 => ?_)
  rcases hw_1 with ⟨hr_2, hw_1⟩ | ⟨hr_2, hw_1⟩
  ·
    refine W_top (y := .int (-2)) (by rw [hr_2]) ?_
    refine lv_aload_n hx hb dL_law_877 rfl (lv_at hl 1 rfl) ?_
    refine lv_aload_n hx hb dL_law_878 rfl (lv_at hl 3 rfl) ?_
    refine lv_iload_n hx hb dL_law_879 rfl (lv_at hl 0 rfl) ?_
    refine lv_iconst (v := 1) hx hb dL_law_880 (by decide) ?_
    refine lv_iadd hx hb dL_law_881 ?_
    refine W_top (y := .int 1) (by decide) ?_
    refine va_sld hx hb hX hbl hbA hS (g_in t_1 (by decide) (by decide)) dL_law_882 ?_
    refine W_top (y := .int (xs 1)) (congrArg (fun n => Value.int (xs n)) (by decide : (1 : Int32).toNatClampNeg = 1)) ?_
    refine lv_aload_n hx hb dL_law_883 rfl (lv_at hl 3 rfl) ?_
    refine lv_iload_n hx hb dL_law_884 rfl (lv_at hl 0 rfl) ?_
    refine lv_iconst (v := 2) hx hb dL_law_885 (by decide) ?_
    refine lv_iadd hx hb dL_law_886 ?_
    refine W_top (y := .int 2) (by decide) ?_
    refine va_sld hx hb hX hbl hbA hS (g_in t_2 (by decide) (by decide)) dL_law_887 ?_
    refine W_top (y := .int (xs 2)) (congrArg (fun n => Value.int (xs n)) (by decide : (2 : Int32).toNatClampNeg = 2)) ?_
    refine lv_aload_n hx hb dL_law_888 rfl (lv_at hl 3 rfl) ?_
    refine lv_iload_n hx hb dL_law_889 rfl (lv_at hl 0 rfl) ?_
    refine lv_iconst (v := 3) hx hb dL_law_890 (by decide) ?_
    refine lv_iadd hx hb dL_law_891 ?_
    refine W_top (y := .int 3) (by decide) ?_
    refine va_sld hx hb hX hbl hbA hS (g_in t_3 (by decide) (by decide)) dL_law_892 ?_
    refine W_top (y := .int (xs 3)) (congrArg (fun n => Value.int (xs n)) (by decide : (3 : Int32).toNatClampNeg = 3)) ?_
    refine lv_aload_n hx hb dL_law_893 rfl (lv_at hl 3 rfl) ?_
    refine lv_iload_n hx hb dL_law_894 rfl (lv_at hl 0 rfl) ?_
    refine lv_iconst (v := 4) hx hb dL_law_895 (by decide) ?_
    refine lv_iadd hx hb dL_law_896 ?_
    refine W_top (y := .int 4) (by decide) ?_
    refine va_sld hx hb hX hbl hbA hS (g_in t_4 (by decide) (by decide)) dL_law_897 ?_
    refine W_top (y := .int (xs 4)) (congrArg (fun n => Value.int (xs n)) (by decide : (4 : Int32).toNatClampNeg = 4)) ?_
    refine callRV (rest := [.int (-2)]) (As := [.int (xs 1), .int (xs 2), .int (xs 3), .int (xs 4)]) hx hb hml hown htb hK (c_X9_jump l D E qm cm (xs 1) (xs 2) (xs 3) (xs 4) ) ok_X9_jump k_1318 k_1319 k_1320 k_9 k_1321 ⟨(Nat.le_of_ble_eq_true rfl), (Nat.le_of_ble_eq_true rfl)⟩ ⟨(Nat.le_of_ble_eq_true rfl), (Nat.le_of_ble_eq_true rfl)⟩ hl.1 (Nat.le_of_ble_eq_true rfl) rfl rfl dL_law_898 (hP.sub (ws' := [(qm, .inr (9, mF cm 0 0 0 0 0 0 0 0 0)), ((cm 3), .inl (E 0, 16, .inl (fun _ => -5)))]) [22, 24] rfl) rfl rfl 0 rfl (fun r_4 hw_3 => ?_)
    rcases hw_3 with ⟨hr_4, hw_3⟩ | ⟨hr_4, hw_3⟩
    ·
      refine W_top (y := .int (-2)) (by rw [hr_4]) ?_
      refine lv_icmp_eq (tgt := 1550) hx hb dL_law_901 (by decide) (fun c_5 => ?_) (fun c_5 => absurd rfl c_5)
      exact law_end hx hb hr hml hown htb hX hbl hlocks hS (lv_sub hl [0, 3] rfl) (Nat.le_of_ble_eq_true rfl) (Nat.le_of_ble_eq_true rfl)
    ·
      refine W_top (y := .int (-1)) (by rw [hr_4]) ?_
      exfalso; omega
  ·
    refine W_top (y := .int (-1)) (by rw [hr_2]) ?_
    refine lv_aload_n hx hb dL_law_877 rfl (lv_at hl 1 rfl) ?_
    refine lv_aload_n hx hb dL_law_878 rfl (lv_at hl 3 rfl) ?_
    refine lv_iload_n hx hb dL_law_879 rfl (lv_at hl 0 rfl) ?_
    refine lv_iconst (v := 1) hx hb dL_law_880 (by decide) ?_
    refine lv_iadd hx hb dL_law_881 ?_
    refine W_top (y := .int 1) (by decide) ?_
    refine va_sld hx hb hX hbl hbA hS (g_in t_1 (by decide) (by decide)) dL_law_882 ?_
    refine W_top (y := .int (xs 1)) (congrArg (fun n => Value.int (xs n)) (by decide : (1 : Int32).toNatClampNeg = 1)) ?_
    refine lv_aload_n hx hb dL_law_883 rfl (lv_at hl 3 rfl) ?_
    refine lv_iload_n hx hb dL_law_884 rfl (lv_at hl 0 rfl) ?_
    refine lv_iconst (v := 2) hx hb dL_law_885 (by decide) ?_
    refine lv_iadd hx hb dL_law_886 ?_
    refine W_top (y := .int 2) (by decide) ?_
    refine va_sld hx hb hX hbl hbA hS (g_in t_2 (by decide) (by decide)) dL_law_887 ?_
    refine W_top (y := .int (xs 2)) (congrArg (fun n => Value.int (xs n)) (by decide : (2 : Int32).toNatClampNeg = 2)) ?_
    refine lv_aload_n hx hb dL_law_888 rfl (lv_at hl 3 rfl) ?_
    refine lv_iload_n hx hb dL_law_889 rfl (lv_at hl 0 rfl) ?_
    refine lv_iconst (v := 3) hx hb dL_law_890 (by decide) ?_
    refine lv_iadd hx hb dL_law_891 ?_
    refine W_top (y := .int 3) (by decide) ?_
    refine va_sld hx hb hX hbl hbA hS (g_in t_3 (by decide) (by decide)) dL_law_892 ?_
    refine W_top (y := .int (xs 3)) (congrArg (fun n => Value.int (xs n)) (by decide : (3 : Int32).toNatClampNeg = 3)) ?_
    refine lv_aload_n hx hb dL_law_893 rfl (lv_at hl 3 rfl) ?_
    refine lv_iload_n hx hb dL_law_894 rfl (lv_at hl 0 rfl) ?_
    refine lv_iconst (v := 4) hx hb dL_law_895 (by decide) ?_
    refine lv_iadd hx hb dL_law_896 ?_
    refine W_top (y := .int 4) (by decide) ?_
    refine va_sld hx hb hX hbl hbA hS (g_in t_4 (by decide) (by decide)) dL_law_897 ?_
    refine W_top (y := .int (xs 4)) (congrArg (fun n => Value.int (xs n)) (by decide : (4 : Int32).toNatClampNeg = 4)) ?_
    refine callRV (rest := [.int (-1)]) (As := [.int (xs 1), .int (xs 2), .int (xs 3), .int (xs 4)]) hx hb hml hown htb hK (c_X9_jump l D E qm cm (xs 1) (xs 2) (xs 3) (xs 4) ) ok_X9_jump k_1318 k_1319 k_1320 k_9 k_1321 ⟨(Nat.le_of_ble_eq_true rfl), (Nat.le_of_ble_eq_true rfl)⟩ ⟨(Nat.le_of_ble_eq_true rfl), (Nat.le_of_ble_eq_true rfl)⟩ hl.1 (Nat.le_of_ble_eq_true rfl) rfl rfl dL_law_898 (hP.sub (ws' := [(qm, .inr (9, mF cm 0 0 0 0 0 0 0 0 0)), ((cm 3), .inl (E 0, 16, .inl (fun _ => -5)))]) [22, 24] rfl) rfl rfl 0 rfl (fun r_7 hw_6 => ?_)
    rcases hw_6 with ⟨hr_7, hw_6⟩ | ⟨hr_7, hw_6⟩
    ·
      refine W_top (y := .int (-2)) (by rw [hr_7]) ?_
      exfalso; omega
    ·
      refine W_top (y := .int (-1)) (by rw [hr_7]) ?_
      refine lv_icmp_eq (tgt := 1550) hx hb dL_law_901 (by decide) (fun c_8 => ?_) (fun c_8 => absurd rfl c_8)
      exact law_end hx hb hr hml hown htb hX hbl hlocks hS (lv_sub hl [0, 3] rfl) (Nat.le_of_ble_eq_true rfl) (Nat.le_of_ble_eq_true rfl)
set_option maxHeartbeats 4000000 in
set_option maxRecDepth 100000 in
theorem law_18 {p : Program} {l : Launch} {e : Env} {s : State} {m : MethodId} {below : List Frame} {meth : Method} {c : Code} {D : va_G} {E : Nat → Nat} {b : Nat} {xs : Nat → Int32} {qx : Nat} {ax : Nat → Nat} {bx : Nat → Nat → Nat} {fw : Nat → Int32} {qm : Nat} {cm : Nat → Nat} {fm : Nat → Int32} {H : Heap} {locs : List Loc} {ls : Array Slot} (hx : p.tables.exec = Jvm.exec) (hb : c.code = code) (hr : meth.sig.returnType = ret) (hml : c.maxLocals = 4) (hown : s.vm.findClass R_law = some m.cls) (htb : ∀ w ∈ tb, w.before #[Value.ref b] s = true) (hK : KX D E s) (hX : va_X b 6 xs s s.heap) (hbl : b < s.heap.size) (hlocks : meth.locks = false) (hP : va_P D vwCl (LW E qx ax bx fw qm cm fm) H) (hD : va_D (fun q : Nat => s.heap.size ≤ q) (LW E qx ax bx fw qm cm fm)) (hS : va_S (fun q : Nat => s.heap.size ≤ q) s.heap H locs) (hl : lv_has ls 4 [(3, .int 0), (2, .ref qm), (1, .ref qx), (0, .ref b)]) : W p l e room_1 s m #[Value.ref b] below meth c H locs 123 44666 (lw_Z below #[Value.ref b] s) (F0 m 906 ls []) := by
  have hA : ∀ q : Nat, s.heap.size ≤ q → (fun q : Nat => s.heap.size ≤ q) q := fun _ h => h
  have hbA : ¬ (fun q : Nat => s.heap.size ≤ q) b := Nat.not_le.mpr hbl
  refine lv_aload_n hx hb dL_law_906 rfl (lv_at hl 2 rfl) ?_
  refine lv_aload_n hx hb dL_law_907 rfl (lv_at hl 3 rfl) ?_
  refine lv_iload_n hx hb dL_law_908 rfl (lv_at hl 0 rfl) ?_
  refine lv_iconst (v := 1) hx hb dL_law_909 (by decide) ?_
  refine lv_iadd hx hb dL_law_910 ?_
  refine W_top (y := .int 1) (by decide) ?_
  refine va_sld hx hb hX hbl hbA hS (g_in t_1 (by decide) (by decide)) dL_law_911 ?_
  refine W_top (y := .int (xs 1)) (congrArg (fun n => Value.int (xs n)) (by decide : (1 : Int32).toNatClampNeg = 1)) ?_
  refine lv_aload_n hx hb dL_law_912 rfl (lv_at hl 3 rfl) ?_
  refine lv_iload_n hx hb dL_law_913 rfl (lv_at hl 0 rfl) ?_
  refine lv_iconst (v := 2) hx hb dL_law_914 (by decide) ?_
  refine lv_iadd hx hb dL_law_915 ?_
  refine W_top (y := .int 2) (by decide) ?_
  refine va_sld hx hb hX hbl hbA hS (g_in t_2 (by decide) (by decide)) dL_law_916 ?_
  refine W_top (y := .int (xs 2)) (congrArg (fun n => Value.int (xs n)) (by decide : (2 : Int32).toNatClampNeg = 2)) ?_
  have hPc := hP.sub (ws' := [(qx, .inr (8, xF ax 0)), ((ax 9), .inr (6, [.ref (ax 23), .int 0, .ref (ax 24), .ref (E 5), .int 0, .int 0, .int 0, .int 0])), ((ax 23), .inl (E 0, 120, .inl (fun _ => 0)))]) [0, 17, 18] rfl
  have hDc := hD.sub (ws' := [(qx, .inr (8, xF ax 0)), ((ax 9), .inr (6, [.ref (ax 23), .int 0, .ref (ax 24), .ref (E 5), .int 0, .int 0, .int 0, .int 0])), ((ax 23), .inl (E 0, 120, .inl (fun _ => 0)))]) [0, 17, 18] (by decide) rfl
  refine aft_i (runMV (rest := []) (As := [.int (xs 1), .int (xs 2)]) hx hb hml hown htb hK (c_X8_feed l D E qx ax (xs 1) (xs 2) _ ) ok_X8_feed k_573 k_574 k_575 k_1 k_576 ⟨(Nat.le_of_ble_eq_true rfl), (Nat.le_of_ble_eq_true rfl)⟩ ⟨(Nat.le_of_ble_eq_true rfl), (Nat.le_of_ble_eq_true rfl)⟩ hl.1 (Nat.le_of_ble_eq_true rfl) rfl rfl dL_law_917 hPc hDc rfl rfl 0 rfl) hP hD hS hA [0, 17, 18] [1, 2, 3, 4, 5, 6, 7, 8, 9, 10, 11, 12, 13, 14, 15, 16, 19, 20, 21, 22, 23, 24, 25, 26, 27, 28, 29, 30, 31, 32, 33, 34, 35, 36, 37, 38, 39] (wr := [((ax 0), .inl (E 0, 400, .inl fw)), ((ax 1), .inl (E 0, 16, .inl (fun _ => -5))), ((ax 2), .inl (E 0, 16, .inl (fun _ => 0))), ((ax 3), .inl (E 3, 16, .inr (.inr (.inr (.inr (fun _ => none)))))), ((ax 4), .inl (E 4, 5, .inr (.inr (.inr (.inr (fun j => some (ax (13 + j)))))))), ((ax 13), .inr (5, sF (bx 0))), ((ax 14), .inr (5, sF (bx 1))), ((ax 15), .inr (5, sF (bx 2))), ((ax 16), .inr (5, sF (bx 3))), ((ax 17), .inr (5, sF (bx 4))), ((ax 6), .inr (2, [.ref (ax 18), .ref (ax 19), .ref (ax 20), .ref (ax 21), .ref (ax 22), .int 0])), ((ax 18), .inl (E 0, 60, .inl (fun _ => 0))), ((ax 19), .inl (E 0, 60, .inl (fun _ => 0))), ((ax 20), .inl (E 0, 60, .inl (fun _ => 0))), ((ax 21), .inl (E 0, 60, .inl (fun _ => 0))), ((ax 22), .inl (E 0, 60, .inl (fun _ => 0))), ((ax 24), .inr (4, [.ref (ax 25), .ref (ax 26), .ref (ax 27), .int 0])), ((ax 10), .inr (0, [.ref (ax 28), .ref (ax 29), .ref (ax 30), .ref (ax 31), .ref (ax 32), .int 0, .int 0, .int 0, .int 0])), ((ax 28), .inl (E 0, 9, .inl (fun _ => 0))), (qm, .inr (9, mF cm 0 0 0 0 0 0 0 0 0)), ((cm 2), .inl (E 0, 400, .inl fm)), ((cm 3), .inl (E 0, 16, .inl (fun _ => -5))), ((cm 4), .inl (E 0, 16, .inl (fun _ => 0))), ((cm 5), .inl (E 1, 6400, .inl (fun _ => 0))), ((cm 8), .inl (E 1, 6400, .inl (fun _ => 0))), ((cm 9), .inl (E 1, 6400, .inl (fun _ => 0))), ((cm 10), .inl (E 0, 6400, .inl (fun _ => 0))), ((cm 12), .inl (E 0, 60, .inl (fun _ => 0))), ((cm 13), .inl (E 0, 60, .inl (fun _ => 0))), ((cm 14), .inl (E 0, 60, .inl (fun _ => 0))), ((cm 15), .inl (E 0, 60, .inl (fun _ => 0))), ((cm 16), .inl (E 0, 60, .inl (fun _ => 0))), ((cm 32), .inl (E 2, 120, .inl (fun _ => 0))), ((cm 47), .inl (E 0, 5, .inl (fun _ => 0))), ((cm 55), .inl (E 0, 5, .inl (fun _ => 0))), ((cm 58), .inl (E 0, 3, .inl (fun _ => 0))), ((cm 62), .inl (E 0, 9, .inl (fun _ => 0)))]) rfl rfl (by decide) (by decide) (fun r_3 u_1 H locs hw_2 hP hD hS => ?_)
  clear hPc hDc
  have hP : va_P D vwCl [((ax 0), .inl (E 0, 400, .inl fw)), ((ax 1), .inl (E 0, 16, .inl (fun _ => -5))), ((ax 2), .inl (E 0, 16, .inl (fun _ => 0))), ((ax 3), .inl (E 3, 16, .inr (.inr (.inr (.inr (fun _ => none)))))), ((ax 4), .inl (E 4, 5, .inr (.inr (.inr (.inr (fun j => some (ax (13 + j)))))))), ((ax 13), .inr (5, sF (bx 0))), ((ax 14), .inr (5, sF (bx 1))), ((ax 15), .inr (5, sF (bx 2))), ((ax 16), .inr (5, sF (bx 3))), ((ax 17), .inr (5, sF (bx 4))), ((ax 6), .inr (2, [.ref (ax 18), .ref (ax 19), .ref (ax 20), .ref (ax 21), .ref (ax 22), .int 0])), ((ax 18), .inl (E 0, 60, .inl (fun _ => 0))), ((ax 19), .inl (E 0, 60, .inl (fun _ => 0))), ((ax 20), .inl (E 0, 60, .inl (fun _ => 0))), ((ax 21), .inl (E 0, 60, .inl (fun _ => 0))), ((ax 22), .inl (E 0, 60, .inl (fun _ => 0))), ((ax 24), .inr (4, [.ref (ax 25), .ref (ax 26), .ref (ax 27), .int 0])), ((ax 10), .inr (0, [.ref (ax 28), .ref (ax 29), .ref (ax 30), .ref (ax 31), .ref (ax 32), .int 0, .int 0, .int 0, .int 0])), ((ax 28), .inl (E 0, 9, .inl (fun _ => 0))), (qm, .inr (9, mF cm 0 0 0 0 0 0 0 0 0)), ((cm 2), .inl (E 0, 400, .inl fm)), ((cm 3), .inl (E 0, 16, .inl (fun _ => -5))), ((cm 4), .inl (E 0, 16, .inl (fun _ => 0))), ((cm 5), .inl (E 1, 6400, .inl (fun _ => 0))), ((cm 8), .inl (E 1, 6400, .inl (fun _ => 0))), ((cm 9), .inl (E 1, 6400, .inl (fun _ => 0))), ((cm 10), .inl (E 0, 6400, .inl (fun _ => 0))), ((cm 12), .inl (E 0, 60, .inl (fun _ => 0))), ((cm 13), .inl (E 0, 60, .inl (fun _ => 0))), ((cm 14), .inl (E 0, 60, .inl (fun _ => 0))), ((cm 15), .inl (E 0, 60, .inl (fun _ => 0))), ((cm 16), .inl (E 0, 60, .inl (fun _ => 0))), ((cm 32), .inl (E 2, 120, .inl (fun _ => 0))), ((cm 47), .inl (E 0, 5, .inl (fun _ => 0))), ((cm 55), .inl (E 0, 5, .inl (fun _ => 0))), ((cm 58), .inl (E 0, 3, .inl (fun _ => 0))), ((cm 62), .inl (E 0, 9, .inl (fun _ => 0)))] H := hP
  have hD : va_D (fun q : Nat => s.heap.size ≤ q) [((ax 0), .inl (E 0, 400, .inl fw)), ((ax 1), .inl (E 0, 16, .inl (fun _ => -5))), ((ax 2), .inl (E 0, 16, .inl (fun _ => 0))), ((ax 3), .inl (E 3, 16, .inr (.inr (.inr (.inr (fun _ => none)))))), ((ax 4), .inl (E 4, 5, .inr (.inr (.inr (.inr (fun j => some (ax (13 + j)))))))), ((ax 13), .inr (5, sF (bx 0))), ((ax 14), .inr (5, sF (bx 1))), ((ax 15), .inr (5, sF (bx 2))), ((ax 16), .inr (5, sF (bx 3))), ((ax 17), .inr (5, sF (bx 4))), ((ax 6), .inr (2, [.ref (ax 18), .ref (ax 19), .ref (ax 20), .ref (ax 21), .ref (ax 22), .int 0])), ((ax 18), .inl (E 0, 60, .inl (fun _ => 0))), ((ax 19), .inl (E 0, 60, .inl (fun _ => 0))), ((ax 20), .inl (E 0, 60, .inl (fun _ => 0))), ((ax 21), .inl (E 0, 60, .inl (fun _ => 0))), ((ax 22), .inl (E 0, 60, .inl (fun _ => 0))), ((ax 24), .inr (4, [.ref (ax 25), .ref (ax 26), .ref (ax 27), .int 0])), ((ax 10), .inr (0, [.ref (ax 28), .ref (ax 29), .ref (ax 30), .ref (ax 31), .ref (ax 32), .int 0, .int 0, .int 0, .int 0])), ((ax 28), .inl (E 0, 9, .inl (fun _ => 0))), (qm, .inr (9, mF cm 0 0 0 0 0 0 0 0 0)), ((cm 2), .inl (E 0, 400, .inl fm)), ((cm 3), .inl (E 0, 16, .inl (fun _ => -5))), ((cm 4), .inl (E 0, 16, .inl (fun _ => 0))), ((cm 5), .inl (E 1, 6400, .inl (fun _ => 0))), ((cm 8), .inl (E 1, 6400, .inl (fun _ => 0))), ((cm 9), .inl (E 1, 6400, .inl (fun _ => 0))), ((cm 10), .inl (E 0, 6400, .inl (fun _ => 0))), ((cm 12), .inl (E 0, 60, .inl (fun _ => 0))), ((cm 13), .inl (E 0, 60, .inl (fun _ => 0))), ((cm 14), .inl (E 0, 60, .inl (fun _ => 0))), ((cm 15), .inl (E 0, 60, .inl (fun _ => 0))), ((cm 16), .inl (E 0, 60, .inl (fun _ => 0))), ((cm 32), .inl (E 2, 120, .inl (fun _ => 0))), ((cm 47), .inl (E 0, 5, .inl (fun _ => 0))), ((cm 55), .inl (E 0, 5, .inl (fun _ => 0))), ((cm 58), .inl (E 0, 3, .inl (fun _ => 0))), ((cm 62), .inl (E 0, 9, .inl (fun _ => 0)))] := hD
  rcases hw_2 with ⟨hr_3, hw_2⟩ | ⟨hr_3, hw_2⟩
  ·
    refine W_top (y := .int (xs 1)) (by rw [hr_3]) ?_
    refine lv_aload_n hx hb dL_law_920 rfl (lv_at hl 1 rfl) ?_
    refine lv_aload_n hx hb dL_law_921 rfl (lv_at hl 3 rfl) ?_
    refine lv_iload_n hx hb dL_law_922 rfl (lv_at hl 0 rfl) ?_
    refine lv_iconst (v := 1) hx hb dL_law_923 (by decide) ?_
    refine lv_iadd hx hb dL_law_924 ?_
    refine W_top (y := .int 1) (by decide) ?_
    refine va_sld hx hb hX hbl hbA hS (g_in t_1 (by decide) (by decide)) dL_law_925 ?_
    refine W_top (y := .int (xs 1)) (congrArg (fun n => Value.int (xs n)) (by decide : (1 : Int32).toNatClampNeg = 1)) ?_
    refine lv_aload_n hx hb dL_law_926 rfl (lv_at hl 3 rfl) ?_
    refine lv_iload_n hx hb dL_law_927 rfl (lv_at hl 0 rfl) ?_
    refine lv_iconst (v := 2) hx hb dL_law_928 (by decide) ?_
    refine lv_iadd hx hb dL_law_929 ?_
    refine W_top (y := .int 2) (by decide) ?_
    refine va_sld hx hb hX hbl hbA hS (g_in t_2 (by decide) (by decide)) dL_law_930 ?_
    refine W_top (y := .int (xs 2)) (congrArg (fun n => Value.int (xs n)) (by decide : (2 : Int32).toNatClampNeg = 2)) ?_
    have hPc := hP.sub (ws' := [(qm, .inr (9, mF cm 0 0 0 0 0 0 0 0 0)), ((cm 32), .inl (E 2, 120, .inl (fun _ => 0)))]) [19, 32] rfl
    have hDc := hD.sub (ws' := [(qm, .inr (9, mF cm 0 0 0 0 0 0 0 0 0)), ((cm 32), .inl (E 2, 120, .inl (fun _ => 0)))]) [19, 32] (by decide) rfl
    refine aft_i (runMV (rest := [.int (xs 1)]) (As := [.int (xs 1), .int (xs 2)]) hx hb hml hown htb hK (c_X9_feed l D E qm cm (xs 1) (xs 2) _ ) ok_X9_feed k_1326 k_1327 k_1328 k_9 k_1329 ⟨(Nat.le_of_ble_eq_true rfl), (Nat.le_of_ble_eq_true rfl)⟩ ⟨(Nat.le_of_ble_eq_true rfl), (Nat.le_of_ble_eq_true rfl)⟩ hl.1 (Nat.le_of_ble_eq_true rfl) rfl rfl dL_law_931 hPc hDc rfl rfl 0 rfl) hP hD hS hA [19, 32] [0, 1, 2, 3, 4, 5, 6, 7, 8, 9, 10, 11, 12, 13, 14, 15, 16, 17, 18, 20, 21, 22, 23, 24, 25, 26, 27, 28, 29, 30, 31, 33, 34, 35, 36] (wr := [((ax 0), .inl (E 0, 400, .inl fw)), ((ax 1), .inl (E 0, 16, .inl (fun _ => -5))), ((ax 2), .inl (E 0, 16, .inl (fun _ => 0))), ((ax 3), .inl (E 3, 16, .inr (.inr (.inr (.inr (fun _ => none)))))), ((ax 4), .inl (E 4, 5, .inr (.inr (.inr (.inr (fun j => some (ax (13 + j)))))))), ((ax 13), .inr (5, sF (bx 0))), ((ax 14), .inr (5, sF (bx 1))), ((ax 15), .inr (5, sF (bx 2))), ((ax 16), .inr (5, sF (bx 3))), ((ax 17), .inr (5, sF (bx 4))), ((ax 6), .inr (2, [.ref (ax 18), .ref (ax 19), .ref (ax 20), .ref (ax 21), .ref (ax 22), .int 0])), ((ax 18), .inl (E 0, 60, .inl (fun _ => 0))), ((ax 19), .inl (E 0, 60, .inl (fun _ => 0))), ((ax 20), .inl (E 0, 60, .inl (fun _ => 0))), ((ax 21), .inl (E 0, 60, .inl (fun _ => 0))), ((ax 22), .inl (E 0, 60, .inl (fun _ => 0))), ((ax 24), .inr (4, [.ref (ax 25), .ref (ax 26), .ref (ax 27), .int 0])), ((ax 10), .inr (0, [.ref (ax 28), .ref (ax 29), .ref (ax 30), .ref (ax 31), .ref (ax 32), .int 0, .int 0, .int 0, .int 0])), ((ax 28), .inl (E 0, 9, .inl (fun _ => 0))), ((cm 2), .inl (E 0, 400, .inl fm)), ((cm 3), .inl (E 0, 16, .inl (fun _ => -5))), ((cm 4), .inl (E 0, 16, .inl (fun _ => 0))), ((cm 5), .inl (E 1, 6400, .inl (fun _ => 0))), ((cm 8), .inl (E 1, 6400, .inl (fun _ => 0))), ((cm 9), .inl (E 1, 6400, .inl (fun _ => 0))), ((cm 10), .inl (E 0, 6400, .inl (fun _ => 0))), ((cm 12), .inl (E 0, 60, .inl (fun _ => 0))), ((cm 13), .inl (E 0, 60, .inl (fun _ => 0))), ((cm 14), .inl (E 0, 60, .inl (fun _ => 0))), ((cm 15), .inl (E 0, 60, .inl (fun _ => 0))), ((cm 16), .inl (E 0, 60, .inl (fun _ => 0))), ((cm 47), .inl (E 0, 5, .inl (fun _ => 0))), ((cm 55), .inl (E 0, 5, .inl (fun _ => 0))), ((cm 58), .inl (E 0, 3, .inl (fun _ => 0))), ((cm 62), .inl (E 0, 9, .inl (fun _ => 0)))]) rfl rfl (by decide) (by decide) (fun r_6 u_4 H locs hw_5 hP hD hS => ?_)
    clear hPc hDc
    have hP : va_P D vwCl [((ax 0), .inl (E 0, 400, .inl fw)), ((ax 1), .inl (E 0, 16, .inl (fun _ => -5))), ((ax 2), .inl (E 0, 16, .inl (fun _ => 0))), ((ax 3), .inl (E 3, 16, .inr (.inr (.inr (.inr (fun _ => none)))))), ((ax 4), .inl (E 4, 5, .inr (.inr (.inr (.inr (fun j => some (ax (13 + j)))))))), ((ax 13), .inr (5, sF (bx 0))), ((ax 14), .inr (5, sF (bx 1))), ((ax 15), .inr (5, sF (bx 2))), ((ax 16), .inr (5, sF (bx 3))), ((ax 17), .inr (5, sF (bx 4))), ((ax 6), .inr (2, [.ref (ax 18), .ref (ax 19), .ref (ax 20), .ref (ax 21), .ref (ax 22), .int 0])), ((ax 18), .inl (E 0, 60, .inl (fun _ => 0))), ((ax 19), .inl (E 0, 60, .inl (fun _ => 0))), ((ax 20), .inl (E 0, 60, .inl (fun _ => 0))), ((ax 21), .inl (E 0, 60, .inl (fun _ => 0))), ((ax 22), .inl (E 0, 60, .inl (fun _ => 0))), ((ax 24), .inr (4, [.ref (ax 25), .ref (ax 26), .ref (ax 27), .int 0])), ((ax 10), .inr (0, [.ref (ax 28), .ref (ax 29), .ref (ax 30), .ref (ax 31), .ref (ax 32), .int 0, .int 0, .int 0, .int 0])), ((ax 28), .inl (E 0, 9, .inl (fun _ => 0))), ((cm 2), .inl (E 0, 400, .inl fm)), ((cm 3), .inl (E 0, 16, .inl (fun _ => -5))), ((cm 4), .inl (E 0, 16, .inl (fun _ => 0))), ((cm 5), .inl (E 1, 6400, .inl (fun _ => 0))), ((cm 8), .inl (E 1, 6400, .inl (fun _ => 0))), ((cm 9), .inl (E 1, 6400, .inl (fun _ => 0))), ((cm 10), .inl (E 0, 6400, .inl (fun _ => 0))), ((cm 12), .inl (E 0, 60, .inl (fun _ => 0))), ((cm 13), .inl (E 0, 60, .inl (fun _ => 0))), ((cm 14), .inl (E 0, 60, .inl (fun _ => 0))), ((cm 15), .inl (E 0, 60, .inl (fun _ => 0))), ((cm 16), .inl (E 0, 60, .inl (fun _ => 0))), ((cm 47), .inl (E 0, 5, .inl (fun _ => 0))), ((cm 55), .inl (E 0, 5, .inl (fun _ => 0))), ((cm 58), .inl (E 0, 3, .inl (fun _ => 0))), ((cm 62), .inl (E 0, 9, .inl (fun _ => 0)))] H := hP
    have hD : va_D (fun q : Nat => s.heap.size ≤ q) [((ax 0), .inl (E 0, 400, .inl fw)), ((ax 1), .inl (E 0, 16, .inl (fun _ => -5))), ((ax 2), .inl (E 0, 16, .inl (fun _ => 0))), ((ax 3), .inl (E 3, 16, .inr (.inr (.inr (.inr (fun _ => none)))))), ((ax 4), .inl (E 4, 5, .inr (.inr (.inr (.inr (fun j => some (ax (13 + j)))))))), ((ax 13), .inr (5, sF (bx 0))), ((ax 14), .inr (5, sF (bx 1))), ((ax 15), .inr (5, sF (bx 2))), ((ax 16), .inr (5, sF (bx 3))), ((ax 17), .inr (5, sF (bx 4))), ((ax 6), .inr (2, [.ref (ax 18), .ref (ax 19), .ref (ax 20), .ref (ax 21), .ref (ax 22), .int 0])), ((ax 18), .inl (E 0, 60, .inl (fun _ => 0))), ((ax 19), .inl (E 0, 60, .inl (fun _ => 0))), ((ax 20), .inl (E 0, 60, .inl (fun _ => 0))), ((ax 21), .inl (E 0, 60, .inl (fun _ => 0))), ((ax 22), .inl (E 0, 60, .inl (fun _ => 0))), ((ax 24), .inr (4, [.ref (ax 25), .ref (ax 26), .ref (ax 27), .int 0])), ((ax 10), .inr (0, [.ref (ax 28), .ref (ax 29), .ref (ax 30), .ref (ax 31), .ref (ax 32), .int 0, .int 0, .int 0, .int 0])), ((ax 28), .inl (E 0, 9, .inl (fun _ => 0))), ((cm 2), .inl (E 0, 400, .inl fm)), ((cm 3), .inl (E 0, 16, .inl (fun _ => -5))), ((cm 4), .inl (E 0, 16, .inl (fun _ => 0))), ((cm 5), .inl (E 1, 6400, .inl (fun _ => 0))), ((cm 8), .inl (E 1, 6400, .inl (fun _ => 0))), ((cm 9), .inl (E 1, 6400, .inl (fun _ => 0))), ((cm 10), .inl (E 0, 6400, .inl (fun _ => 0))), ((cm 12), .inl (E 0, 60, .inl (fun _ => 0))), ((cm 13), .inl (E 0, 60, .inl (fun _ => 0))), ((cm 14), .inl (E 0, 60, .inl (fun _ => 0))), ((cm 15), .inl (E 0, 60, .inl (fun _ => 0))), ((cm 16), .inl (E 0, 60, .inl (fun _ => 0))), ((cm 47), .inl (E 0, 5, .inl (fun _ => 0))), ((cm 55), .inl (E 0, 5, .inl (fun _ => 0))), ((cm 58), .inl (E 0, 3, .inl (fun _ => 0))), ((cm 62), .inl (E 0, 9, .inl (fun _ => 0)))] := hD
    rcases hw_5 with ⟨hr_6, hw_5⟩ | ⟨hr_6, hw_5⟩
    ·
      refine W_top (y := .int (xs 1)) (by rw [hr_6]) ?_
      refine lv_icmp_eq (tgt := 1550) hx hb dL_law_934 (by decide) (fun c_7 => ?_) (fun c_7 => absurd rfl c_7)
      exact law_end hx hb hr hml hown htb hX hbl hlocks hS (lv_sub hl [0, 3] rfl) (Nat.le_of_ble_eq_true rfl) (Nat.le_of_ble_eq_true rfl)
    ·
      refine W_top (y := .int (-1)) (by rw [hr_6]) ?_
      exfalso; omega
  ·
    refine W_top (y := .int (-1)) (by rw [hr_3]) ?_
    refine lv_aload_n hx hb dL_law_920 rfl (lv_at hl 1 rfl) ?_
    refine lv_aload_n hx hb dL_law_921 rfl (lv_at hl 3 rfl) ?_
    refine lv_iload_n hx hb dL_law_922 rfl (lv_at hl 0 rfl) ?_
    refine lv_iconst (v := 1) hx hb dL_law_923 (by decide) ?_
    refine lv_iadd hx hb dL_law_924 ?_
    refine W_top (y := .int 1) (by decide) ?_
    refine va_sld hx hb hX hbl hbA hS (g_in t_1 (by decide) (by decide)) dL_law_925 ?_
    refine W_top (y := .int (xs 1)) (congrArg (fun n => Value.int (xs n)) (by decide : (1 : Int32).toNatClampNeg = 1)) ?_
    refine lv_aload_n hx hb dL_law_926 rfl (lv_at hl 3 rfl) ?_
    refine lv_iload_n hx hb dL_law_927 rfl (lv_at hl 0 rfl) ?_
    refine lv_iconst (v := 2) hx hb dL_law_928 (by decide) ?_
    refine lv_iadd hx hb dL_law_929 ?_
    refine W_top (y := .int 2) (by decide) ?_
    refine va_sld hx hb hX hbl hbA hS (g_in t_2 (by decide) (by decide)) dL_law_930 ?_
    refine W_top (y := .int (xs 2)) (congrArg (fun n => Value.int (xs n)) (by decide : (2 : Int32).toNatClampNeg = 2)) ?_
    have hPc := hP.sub (ws' := [(qm, .inr (9, mF cm 0 0 0 0 0 0 0 0 0)), ((cm 32), .inl (E 2, 120, .inl (fun _ => 0)))]) [19, 32] rfl
    have hDc := hD.sub (ws' := [(qm, .inr (9, mF cm 0 0 0 0 0 0 0 0 0)), ((cm 32), .inl (E 2, 120, .inl (fun _ => 0)))]) [19, 32] (by decide) rfl
    refine aft_i (runMV (rest := [.int (-1)]) (As := [.int (xs 1), .int (xs 2)]) hx hb hml hown htb hK (c_X9_feed l D E qm cm (xs 1) (xs 2) _ ) ok_X9_feed k_1326 k_1327 k_1328 k_9 k_1329 ⟨(Nat.le_of_ble_eq_true rfl), (Nat.le_of_ble_eq_true rfl)⟩ ⟨(Nat.le_of_ble_eq_true rfl), (Nat.le_of_ble_eq_true rfl)⟩ hl.1 (Nat.le_of_ble_eq_true rfl) rfl rfl dL_law_931 hPc hDc rfl rfl 0 rfl) hP hD hS hA [19, 32] [0, 1, 2, 3, 4, 5, 6, 7, 8, 9, 10, 11, 12, 13, 14, 15, 16, 17, 18, 20, 21, 22, 23, 24, 25, 26, 27, 28, 29, 30, 31, 33, 34, 35, 36] (wr := [((ax 0), .inl (E 0, 400, .inl fw)), ((ax 1), .inl (E 0, 16, .inl (fun _ => -5))), ((ax 2), .inl (E 0, 16, .inl (fun _ => 0))), ((ax 3), .inl (E 3, 16, .inr (.inr (.inr (.inr (fun _ => none)))))), ((ax 4), .inl (E 4, 5, .inr (.inr (.inr (.inr (fun j => some (ax (13 + j)))))))), ((ax 13), .inr (5, sF (bx 0))), ((ax 14), .inr (5, sF (bx 1))), ((ax 15), .inr (5, sF (bx 2))), ((ax 16), .inr (5, sF (bx 3))), ((ax 17), .inr (5, sF (bx 4))), ((ax 6), .inr (2, [.ref (ax 18), .ref (ax 19), .ref (ax 20), .ref (ax 21), .ref (ax 22), .int 0])), ((ax 18), .inl (E 0, 60, .inl (fun _ => 0))), ((ax 19), .inl (E 0, 60, .inl (fun _ => 0))), ((ax 20), .inl (E 0, 60, .inl (fun _ => 0))), ((ax 21), .inl (E 0, 60, .inl (fun _ => 0))), ((ax 22), .inl (E 0, 60, .inl (fun _ => 0))), ((ax 24), .inr (4, [.ref (ax 25), .ref (ax 26), .ref (ax 27), .int 0])), ((ax 10), .inr (0, [.ref (ax 28), .ref (ax 29), .ref (ax 30), .ref (ax 31), .ref (ax 32), .int 0, .int 0, .int 0, .int 0])), ((ax 28), .inl (E 0, 9, .inl (fun _ => 0))), ((cm 2), .inl (E 0, 400, .inl fm)), ((cm 3), .inl (E 0, 16, .inl (fun _ => -5))), ((cm 4), .inl (E 0, 16, .inl (fun _ => 0))), ((cm 5), .inl (E 1, 6400, .inl (fun _ => 0))), ((cm 8), .inl (E 1, 6400, .inl (fun _ => 0))), ((cm 9), .inl (E 1, 6400, .inl (fun _ => 0))), ((cm 10), .inl (E 0, 6400, .inl (fun _ => 0))), ((cm 12), .inl (E 0, 60, .inl (fun _ => 0))), ((cm 13), .inl (E 0, 60, .inl (fun _ => 0))), ((cm 14), .inl (E 0, 60, .inl (fun _ => 0))), ((cm 15), .inl (E 0, 60, .inl (fun _ => 0))), ((cm 16), .inl (E 0, 60, .inl (fun _ => 0))), ((cm 47), .inl (E 0, 5, .inl (fun _ => 0))), ((cm 55), .inl (E 0, 5, .inl (fun _ => 0))), ((cm 58), .inl (E 0, 3, .inl (fun _ => 0))), ((cm 62), .inl (E 0, 9, .inl (fun _ => 0)))]) rfl rfl (by decide) (by decide) (fun r_10 u_8 H locs hw_9 hP hD hS => ?_)
    clear hPc hDc
    have hP : va_P D vwCl [((ax 0), .inl (E 0, 400, .inl fw)), ((ax 1), .inl (E 0, 16, .inl (fun _ => -5))), ((ax 2), .inl (E 0, 16, .inl (fun _ => 0))), ((ax 3), .inl (E 3, 16, .inr (.inr (.inr (.inr (fun _ => none)))))), ((ax 4), .inl (E 4, 5, .inr (.inr (.inr (.inr (fun j => some (ax (13 + j)))))))), ((ax 13), .inr (5, sF (bx 0))), ((ax 14), .inr (5, sF (bx 1))), ((ax 15), .inr (5, sF (bx 2))), ((ax 16), .inr (5, sF (bx 3))), ((ax 17), .inr (5, sF (bx 4))), ((ax 6), .inr (2, [.ref (ax 18), .ref (ax 19), .ref (ax 20), .ref (ax 21), .ref (ax 22), .int 0])), ((ax 18), .inl (E 0, 60, .inl (fun _ => 0))), ((ax 19), .inl (E 0, 60, .inl (fun _ => 0))), ((ax 20), .inl (E 0, 60, .inl (fun _ => 0))), ((ax 21), .inl (E 0, 60, .inl (fun _ => 0))), ((ax 22), .inl (E 0, 60, .inl (fun _ => 0))), ((ax 24), .inr (4, [.ref (ax 25), .ref (ax 26), .ref (ax 27), .int 0])), ((ax 10), .inr (0, [.ref (ax 28), .ref (ax 29), .ref (ax 30), .ref (ax 31), .ref (ax 32), .int 0, .int 0, .int 0, .int 0])), ((ax 28), .inl (E 0, 9, .inl (fun _ => 0))), ((cm 2), .inl (E 0, 400, .inl fm)), ((cm 3), .inl (E 0, 16, .inl (fun _ => -5))), ((cm 4), .inl (E 0, 16, .inl (fun _ => 0))), ((cm 5), .inl (E 1, 6400, .inl (fun _ => 0))), ((cm 8), .inl (E 1, 6400, .inl (fun _ => 0))), ((cm 9), .inl (E 1, 6400, .inl (fun _ => 0))), ((cm 10), .inl (E 0, 6400, .inl (fun _ => 0))), ((cm 12), .inl (E 0, 60, .inl (fun _ => 0))), ((cm 13), .inl (E 0, 60, .inl (fun _ => 0))), ((cm 14), .inl (E 0, 60, .inl (fun _ => 0))), ((cm 15), .inl (E 0, 60, .inl (fun _ => 0))), ((cm 16), .inl (E 0, 60, .inl (fun _ => 0))), ((cm 47), .inl (E 0, 5, .inl (fun _ => 0))), ((cm 55), .inl (E 0, 5, .inl (fun _ => 0))), ((cm 58), .inl (E 0, 3, .inl (fun _ => 0))), ((cm 62), .inl (E 0, 9, .inl (fun _ => 0)))] H := hP
    have hD : va_D (fun q : Nat => s.heap.size ≤ q) [((ax 0), .inl (E 0, 400, .inl fw)), ((ax 1), .inl (E 0, 16, .inl (fun _ => -5))), ((ax 2), .inl (E 0, 16, .inl (fun _ => 0))), ((ax 3), .inl (E 3, 16, .inr (.inr (.inr (.inr (fun _ => none)))))), ((ax 4), .inl (E 4, 5, .inr (.inr (.inr (.inr (fun j => some (ax (13 + j)))))))), ((ax 13), .inr (5, sF (bx 0))), ((ax 14), .inr (5, sF (bx 1))), ((ax 15), .inr (5, sF (bx 2))), ((ax 16), .inr (5, sF (bx 3))), ((ax 17), .inr (5, sF (bx 4))), ((ax 6), .inr (2, [.ref (ax 18), .ref (ax 19), .ref (ax 20), .ref (ax 21), .ref (ax 22), .int 0])), ((ax 18), .inl (E 0, 60, .inl (fun _ => 0))), ((ax 19), .inl (E 0, 60, .inl (fun _ => 0))), ((ax 20), .inl (E 0, 60, .inl (fun _ => 0))), ((ax 21), .inl (E 0, 60, .inl (fun _ => 0))), ((ax 22), .inl (E 0, 60, .inl (fun _ => 0))), ((ax 24), .inr (4, [.ref (ax 25), .ref (ax 26), .ref (ax 27), .int 0])), ((ax 10), .inr (0, [.ref (ax 28), .ref (ax 29), .ref (ax 30), .ref (ax 31), .ref (ax 32), .int 0, .int 0, .int 0, .int 0])), ((ax 28), .inl (E 0, 9, .inl (fun _ => 0))), ((cm 2), .inl (E 0, 400, .inl fm)), ((cm 3), .inl (E 0, 16, .inl (fun _ => -5))), ((cm 4), .inl (E 0, 16, .inl (fun _ => 0))), ((cm 5), .inl (E 1, 6400, .inl (fun _ => 0))), ((cm 8), .inl (E 1, 6400, .inl (fun _ => 0))), ((cm 9), .inl (E 1, 6400, .inl (fun _ => 0))), ((cm 10), .inl (E 0, 6400, .inl (fun _ => 0))), ((cm 12), .inl (E 0, 60, .inl (fun _ => 0))), ((cm 13), .inl (E 0, 60, .inl (fun _ => 0))), ((cm 14), .inl (E 0, 60, .inl (fun _ => 0))), ((cm 15), .inl (E 0, 60, .inl (fun _ => 0))), ((cm 16), .inl (E 0, 60, .inl (fun _ => 0))), ((cm 47), .inl (E 0, 5, .inl (fun _ => 0))), ((cm 55), .inl (E 0, 5, .inl (fun _ => 0))), ((cm 58), .inl (E 0, 3, .inl (fun _ => 0))), ((cm 62), .inl (E 0, 9, .inl (fun _ => 0)))] := hD
    rcases hw_9 with ⟨hr_10, hw_9⟩ | ⟨hr_10, hw_9⟩
    ·
      refine W_top (y := .int (xs 1)) (by rw [hr_10]) ?_
      exfalso; omega
    ·
      refine W_top (y := .int (-1)) (by rw [hr_10]) ?_
      refine lv_icmp_eq (tgt := 1550) hx hb dL_law_934 (by decide) (fun c_11 => ?_) (fun c_11 => absurd rfl c_11)
      exact law_end hx hb hr hml hown htb hX hbl hlocks hS (lv_sub hl [0, 3] rfl) (Nat.le_of_ble_eq_true rfl) (Nat.le_of_ble_eq_true rfl)
set_option maxHeartbeats 4000000 in
set_option maxRecDepth 100000 in
theorem law_19 {p : Program} {l : Launch} {e : Env} {s : State} {m : MethodId} {below : List Frame} {meth : Method} {c : Code} {D : va_G} {E : Nat → Nat} {b : Nat} {xs : Nat → Int32} {qx : Nat} {ax : Nat → Nat} {bx : Nat → Nat → Nat} {fw : Nat → Int32} {qm : Nat} {cm : Nat → Nat} {fm : Nat → Int32} {H : Heap} {locs : List Loc} {ls : Array Slot} (hx : p.tables.exec = Jvm.exec) (hb : c.code = code) (hr : meth.sig.returnType = ret) (hml : c.maxLocals = 4) (hown : s.vm.findClass R_law = some m.cls) (htb : ∀ w ∈ tb, w.before #[Value.ref b] s = true) (hK : KX D E s) (hX : va_X b 6 xs s s.heap) (hbl : b < s.heap.size) (hlocks : meth.locks = false) (hP : va_P D vwCl (LW E qx ax bx fw qm cm fm) H) (hD : va_D (fun q : Nat => s.heap.size ≤ q) (LW E qx ax bx fw qm cm fm)) (hS : va_S (fun q : Nat => s.heap.size ≤ q) s.heap H locs) (hl : lv_has ls 4 [(3, .int 0), (2, .ref qm), (1, .ref qx), (0, .ref b)]) : W p l e room_1 s m #[Value.ref b] below meth c H locs 123 44666 (lw_Z below #[Value.ref b] s) (F0 m 939 ls []) := by
  have hA : ∀ q : Nat, s.heap.size ≤ q → (fun q : Nat => s.heap.size ≤ q) q := fun _ h => h
  have hbA : ¬ (fun q : Nat => s.heap.size ≤ q) b := Nat.not_le.mpr hbl
  refine lv_aload_n hx hb dL_law_939 rfl (lv_at hl 2 rfl) ?_
  refine lv_aload_n hx hb dL_law_940 rfl (lv_at hl 3 rfl) ?_
  refine lv_iload_n hx hb dL_law_941 rfl (lv_at hl 0 rfl) ?_
  refine lv_iconst (v := 1) hx hb dL_law_942 (by decide) ?_
  refine lv_iadd hx hb dL_law_943 ?_
  refine W_top (y := .int 1) (by decide) ?_
  refine va_sld hx hb hX hbl hbA hS (g_in t_1 (by decide) (by decide)) dL_law_944 ?_
  refine W_top (y := .int (xs 1)) (congrArg (fun n => Value.int (xs n)) (by decide : (1 : Int32).toNatClampNeg = 1)) ?_
  have hPc := hP.sub (ws' := [(qx, .inr (8, xF ax 0)), ((ax 9), .inr (6, [.ref (ax 23), .int 0, .ref (ax 24), .ref (E 5), .int 0, .int 0, .int 0, .int 0])), ((ax 24), .inr (4, [.ref (ax 25), .ref (ax 26), .ref (ax 27), .int 0]))]) [0, 17, 19] rfl
  have hDc := hD.sub (ws' := [(qx, .inr (8, xF ax 0)), ((ax 9), .inr (6, [.ref (ax 23), .int 0, .ref (ax 24), .ref (E 5), .int 0, .int 0, .int 0, .int 0])), ((ax 24), .inr (4, [.ref (ax 25), .ref (ax 26), .ref (ax 27), .int 0]))]) [0, 17, 19] (by decide) rfl
  refine aft_i (runMV (rest := []) (As := [.int (xs 1)]) hx hb hml hown htb hK (c_X8_rule l D E qx ax (xs 1) _ ) ok_X8_rule k_581 k_582 k_583 k_1 k_584 ⟨(Nat.le_of_ble_eq_true rfl), (Nat.le_of_ble_eq_true rfl)⟩ ⟨(Nat.le_of_ble_eq_true rfl), (Nat.le_of_ble_eq_true rfl)⟩ hl.1 (Nat.le_of_ble_eq_true rfl) rfl rfl dL_law_945 hPc hDc rfl rfl 0 rfl) hP hD hS hA [0, 17, 19] [1, 2, 3, 4, 5, 6, 7, 8, 9, 10, 11, 12, 13, 14, 15, 16, 18, 20, 21, 22, 23, 24, 25, 26, 27, 28, 29, 30, 31, 32, 33, 34, 35, 36, 37, 38, 39] (wr := [((ax 0), .inl (E 0, 400, .inl fw)), ((ax 1), .inl (E 0, 16, .inl (fun _ => -5))), ((ax 2), .inl (E 0, 16, .inl (fun _ => 0))), ((ax 3), .inl (E 3, 16, .inr (.inr (.inr (.inr (fun _ => none)))))), ((ax 4), .inl (E 4, 5, .inr (.inr (.inr (.inr (fun j => some (ax (13 + j)))))))), ((ax 13), .inr (5, sF (bx 0))), ((ax 14), .inr (5, sF (bx 1))), ((ax 15), .inr (5, sF (bx 2))), ((ax 16), .inr (5, sF (bx 3))), ((ax 17), .inr (5, sF (bx 4))), ((ax 6), .inr (2, [.ref (ax 18), .ref (ax 19), .ref (ax 20), .ref (ax 21), .ref (ax 22), .int 0])), ((ax 18), .inl (E 0, 60, .inl (fun _ => 0))), ((ax 19), .inl (E 0, 60, .inl (fun _ => 0))), ((ax 20), .inl (E 0, 60, .inl (fun _ => 0))), ((ax 21), .inl (E 0, 60, .inl (fun _ => 0))), ((ax 22), .inl (E 0, 60, .inl (fun _ => 0))), ((ax 23), .inl (E 0, 120, .inl (fun _ => 0))), ((ax 10), .inr (0, [.ref (ax 28), .ref (ax 29), .ref (ax 30), .ref (ax 31), .ref (ax 32), .int 0, .int 0, .int 0, .int 0])), ((ax 28), .inl (E 0, 9, .inl (fun _ => 0))), (qm, .inr (9, mF cm 0 0 0 0 0 0 0 0 0)), ((cm 2), .inl (E 0, 400, .inl fm)), ((cm 3), .inl (E 0, 16, .inl (fun _ => -5))), ((cm 4), .inl (E 0, 16, .inl (fun _ => 0))), ((cm 5), .inl (E 1, 6400, .inl (fun _ => 0))), ((cm 8), .inl (E 1, 6400, .inl (fun _ => 0))), ((cm 9), .inl (E 1, 6400, .inl (fun _ => 0))), ((cm 10), .inl (E 0, 6400, .inl (fun _ => 0))), ((cm 12), .inl (E 0, 60, .inl (fun _ => 0))), ((cm 13), .inl (E 0, 60, .inl (fun _ => 0))), ((cm 14), .inl (E 0, 60, .inl (fun _ => 0))), ((cm 15), .inl (E 0, 60, .inl (fun _ => 0))), ((cm 16), .inl (E 0, 60, .inl (fun _ => 0))), ((cm 32), .inl (E 2, 120, .inl (fun _ => 0))), ((cm 47), .inl (E 0, 5, .inl (fun _ => 0))), ((cm 55), .inl (E 0, 5, .inl (fun _ => 0))), ((cm 58), .inl (E 0, 3, .inl (fun _ => 0))), ((cm 62), .inl (E 0, 9, .inl (fun _ => 0)))]) rfl rfl (by decide) (by decide) (fun r_3 u_1 H locs hw_2 hP hD hS => ?_)
  clear hPc hDc
  have hP : va_P D vwCl [((ax 0), .inl (E 0, 400, .inl fw)), ((ax 1), .inl (E 0, 16, .inl (fun _ => -5))), ((ax 2), .inl (E 0, 16, .inl (fun _ => 0))), ((ax 3), .inl (E 3, 16, .inr (.inr (.inr (.inr (fun _ => none)))))), ((ax 4), .inl (E 4, 5, .inr (.inr (.inr (.inr (fun j => some (ax (13 + j)))))))), ((ax 13), .inr (5, sF (bx 0))), ((ax 14), .inr (5, sF (bx 1))), ((ax 15), .inr (5, sF (bx 2))), ((ax 16), .inr (5, sF (bx 3))), ((ax 17), .inr (5, sF (bx 4))), ((ax 6), .inr (2, [.ref (ax 18), .ref (ax 19), .ref (ax 20), .ref (ax 21), .ref (ax 22), .int 0])), ((ax 18), .inl (E 0, 60, .inl (fun _ => 0))), ((ax 19), .inl (E 0, 60, .inl (fun _ => 0))), ((ax 20), .inl (E 0, 60, .inl (fun _ => 0))), ((ax 21), .inl (E 0, 60, .inl (fun _ => 0))), ((ax 22), .inl (E 0, 60, .inl (fun _ => 0))), ((ax 23), .inl (E 0, 120, .inl (fun _ => 0))), ((ax 10), .inr (0, [.ref (ax 28), .ref (ax 29), .ref (ax 30), .ref (ax 31), .ref (ax 32), .int 0, .int 0, .int 0, .int 0])), ((ax 28), .inl (E 0, 9, .inl (fun _ => 0))), (qm, .inr (9, mF cm 0 0 0 0 0 0 0 0 0)), ((cm 2), .inl (E 0, 400, .inl fm)), ((cm 3), .inl (E 0, 16, .inl (fun _ => -5))), ((cm 4), .inl (E 0, 16, .inl (fun _ => 0))), ((cm 5), .inl (E 1, 6400, .inl (fun _ => 0))), ((cm 8), .inl (E 1, 6400, .inl (fun _ => 0))), ((cm 9), .inl (E 1, 6400, .inl (fun _ => 0))), ((cm 10), .inl (E 0, 6400, .inl (fun _ => 0))), ((cm 12), .inl (E 0, 60, .inl (fun _ => 0))), ((cm 13), .inl (E 0, 60, .inl (fun _ => 0))), ((cm 14), .inl (E 0, 60, .inl (fun _ => 0))), ((cm 15), .inl (E 0, 60, .inl (fun _ => 0))), ((cm 16), .inl (E 0, 60, .inl (fun _ => 0))), ((cm 32), .inl (E 2, 120, .inl (fun _ => 0))), ((cm 47), .inl (E 0, 5, .inl (fun _ => 0))), ((cm 55), .inl (E 0, 5, .inl (fun _ => 0))), ((cm 58), .inl (E 0, 3, .inl (fun _ => 0))), ((cm 62), .inl (E 0, 9, .inl (fun _ => 0)))] H := hP
  have hD : va_D (fun q : Nat => s.heap.size ≤ q) [((ax 0), .inl (E 0, 400, .inl fw)), ((ax 1), .inl (E 0, 16, .inl (fun _ => -5))), ((ax 2), .inl (E 0, 16, .inl (fun _ => 0))), ((ax 3), .inl (E 3, 16, .inr (.inr (.inr (.inr (fun _ => none)))))), ((ax 4), .inl (E 4, 5, .inr (.inr (.inr (.inr (fun j => some (ax (13 + j)))))))), ((ax 13), .inr (5, sF (bx 0))), ((ax 14), .inr (5, sF (bx 1))), ((ax 15), .inr (5, sF (bx 2))), ((ax 16), .inr (5, sF (bx 3))), ((ax 17), .inr (5, sF (bx 4))), ((ax 6), .inr (2, [.ref (ax 18), .ref (ax 19), .ref (ax 20), .ref (ax 21), .ref (ax 22), .int 0])), ((ax 18), .inl (E 0, 60, .inl (fun _ => 0))), ((ax 19), .inl (E 0, 60, .inl (fun _ => 0))), ((ax 20), .inl (E 0, 60, .inl (fun _ => 0))), ((ax 21), .inl (E 0, 60, .inl (fun _ => 0))), ((ax 22), .inl (E 0, 60, .inl (fun _ => 0))), ((ax 23), .inl (E 0, 120, .inl (fun _ => 0))), ((ax 10), .inr (0, [.ref (ax 28), .ref (ax 29), .ref (ax 30), .ref (ax 31), .ref (ax 32), .int 0, .int 0, .int 0, .int 0])), ((ax 28), .inl (E 0, 9, .inl (fun _ => 0))), (qm, .inr (9, mF cm 0 0 0 0 0 0 0 0 0)), ((cm 2), .inl (E 0, 400, .inl fm)), ((cm 3), .inl (E 0, 16, .inl (fun _ => -5))), ((cm 4), .inl (E 0, 16, .inl (fun _ => 0))), ((cm 5), .inl (E 1, 6400, .inl (fun _ => 0))), ((cm 8), .inl (E 1, 6400, .inl (fun _ => 0))), ((cm 9), .inl (E 1, 6400, .inl (fun _ => 0))), ((cm 10), .inl (E 0, 6400, .inl (fun _ => 0))), ((cm 12), .inl (E 0, 60, .inl (fun _ => 0))), ((cm 13), .inl (E 0, 60, .inl (fun _ => 0))), ((cm 14), .inl (E 0, 60, .inl (fun _ => 0))), ((cm 15), .inl (E 0, 60, .inl (fun _ => 0))), ((cm 16), .inl (E 0, 60, .inl (fun _ => 0))), ((cm 32), .inl (E 2, 120, .inl (fun _ => 0))), ((cm 47), .inl (E 0, 5, .inl (fun _ => 0))), ((cm 55), .inl (E 0, 5, .inl (fun _ => 0))), ((cm 58), .inl (E 0, 3, .inl (fun _ => 0))), ((cm 62), .inl (E 0, 9, .inl (fun _ => 0)))] := hD
  rcases hw_2 with ⟨hr_3, hw_2⟩ | ⟨hr_3, hw_2⟩
  ·
    refine W_top (y := .int (-100)) (by rw [hr_3]) ?_
    refine lv_aload_n hx hb dL_law_948 rfl (lv_at hl 1 rfl) ?_
    refine lv_aload_n hx hb dL_law_949 rfl (lv_at hl 3 rfl) ?_
    refine lv_iload_n hx hb dL_law_950 rfl (lv_at hl 0 rfl) ?_
    refine lv_iconst (v := 1) hx hb dL_law_951 (by decide) ?_
    refine lv_iadd hx hb dL_law_952 ?_
    refine W_top (y := .int 1) (by decide) ?_
    refine va_sld hx hb hX hbl hbA hS (g_in t_1 (by decide) (by decide)) dL_law_953 ?_
    refine W_top (y := .int (xs 1)) (congrArg (fun n => Value.int (xs n)) (by decide : (1 : Int32).toNatClampNeg = 1)) ?_
    have hPc := hP.sub (ws' := [(qm, .inr (9, mF cm 0 0 0 0 0 0 0 0 0))]) [19] rfl
    have hDc := hD.sub (ws' := [(qm, .inr (9, mF cm 0 0 0 0 0 0 0 0 0))]) [19] (by decide) rfl
    refine aft_i (runMV (rest := [.int (-100)]) (As := [.int (xs 1)]) hx hb hml hown htb hK (c_X9_rule l D E qm cm (xs 1) _ ) ok_X9_rule k_1330 k_1331 k_1332 k_9 k_1333 ⟨(Nat.le_of_ble_eq_true rfl), (Nat.le_of_ble_eq_true rfl)⟩ ⟨(Nat.le_of_ble_eq_true rfl), (Nat.le_of_ble_eq_true rfl)⟩ hl.1 (Nat.le_of_ble_eq_true rfl) rfl rfl dL_law_954 hPc hDc rfl rfl 0 rfl) hP hD hS hA [19] [0, 1, 2, 3, 4, 5, 6, 7, 8, 9, 10, 11, 12, 13, 14, 15, 16, 17, 18, 20, 21, 22, 23, 24, 25, 26, 27, 28, 29, 30, 31, 32, 33, 34, 35, 36] (wr := [((ax 0), .inl (E 0, 400, .inl fw)), ((ax 1), .inl (E 0, 16, .inl (fun _ => -5))), ((ax 2), .inl (E 0, 16, .inl (fun _ => 0))), ((ax 3), .inl (E 3, 16, .inr (.inr (.inr (.inr (fun _ => none)))))), ((ax 4), .inl (E 4, 5, .inr (.inr (.inr (.inr (fun j => some (ax (13 + j)))))))), ((ax 13), .inr (5, sF (bx 0))), ((ax 14), .inr (5, sF (bx 1))), ((ax 15), .inr (5, sF (bx 2))), ((ax 16), .inr (5, sF (bx 3))), ((ax 17), .inr (5, sF (bx 4))), ((ax 6), .inr (2, [.ref (ax 18), .ref (ax 19), .ref (ax 20), .ref (ax 21), .ref (ax 22), .int 0])), ((ax 18), .inl (E 0, 60, .inl (fun _ => 0))), ((ax 19), .inl (E 0, 60, .inl (fun _ => 0))), ((ax 20), .inl (E 0, 60, .inl (fun _ => 0))), ((ax 21), .inl (E 0, 60, .inl (fun _ => 0))), ((ax 22), .inl (E 0, 60, .inl (fun _ => 0))), ((ax 23), .inl (E 0, 120, .inl (fun _ => 0))), ((ax 10), .inr (0, [.ref (ax 28), .ref (ax 29), .ref (ax 30), .ref (ax 31), .ref (ax 32), .int 0, .int 0, .int 0, .int 0])), ((ax 28), .inl (E 0, 9, .inl (fun _ => 0))), ((cm 2), .inl (E 0, 400, .inl fm)), ((cm 3), .inl (E 0, 16, .inl (fun _ => -5))), ((cm 4), .inl (E 0, 16, .inl (fun _ => 0))), ((cm 5), .inl (E 1, 6400, .inl (fun _ => 0))), ((cm 8), .inl (E 1, 6400, .inl (fun _ => 0))), ((cm 9), .inl (E 1, 6400, .inl (fun _ => 0))), ((cm 10), .inl (E 0, 6400, .inl (fun _ => 0))), ((cm 12), .inl (E 0, 60, .inl (fun _ => 0))), ((cm 13), .inl (E 0, 60, .inl (fun _ => 0))), ((cm 14), .inl (E 0, 60, .inl (fun _ => 0))), ((cm 15), .inl (E 0, 60, .inl (fun _ => 0))), ((cm 16), .inl (E 0, 60, .inl (fun _ => 0))), ((cm 32), .inl (E 2, 120, .inl (fun _ => 0))), ((cm 47), .inl (E 0, 5, .inl (fun _ => 0))), ((cm 55), .inl (E 0, 5, .inl (fun _ => 0))), ((cm 58), .inl (E 0, 3, .inl (fun _ => 0))), ((cm 62), .inl (E 0, 9, .inl (fun _ => 0)))]) rfl rfl (by decide) (by decide) (fun r_6 u_4 H locs hw_5 hP hD hS => ?_)
    clear hPc hDc
    have hP : va_P D vwCl [((ax 0), .inl (E 0, 400, .inl fw)), ((ax 1), .inl (E 0, 16, .inl (fun _ => -5))), ((ax 2), .inl (E 0, 16, .inl (fun _ => 0))), ((ax 3), .inl (E 3, 16, .inr (.inr (.inr (.inr (fun _ => none)))))), ((ax 4), .inl (E 4, 5, .inr (.inr (.inr (.inr (fun j => some (ax (13 + j)))))))), ((ax 13), .inr (5, sF (bx 0))), ((ax 14), .inr (5, sF (bx 1))), ((ax 15), .inr (5, sF (bx 2))), ((ax 16), .inr (5, sF (bx 3))), ((ax 17), .inr (5, sF (bx 4))), ((ax 6), .inr (2, [.ref (ax 18), .ref (ax 19), .ref (ax 20), .ref (ax 21), .ref (ax 22), .int 0])), ((ax 18), .inl (E 0, 60, .inl (fun _ => 0))), ((ax 19), .inl (E 0, 60, .inl (fun _ => 0))), ((ax 20), .inl (E 0, 60, .inl (fun _ => 0))), ((ax 21), .inl (E 0, 60, .inl (fun _ => 0))), ((ax 22), .inl (E 0, 60, .inl (fun _ => 0))), ((ax 23), .inl (E 0, 120, .inl (fun _ => 0))), ((ax 10), .inr (0, [.ref (ax 28), .ref (ax 29), .ref (ax 30), .ref (ax 31), .ref (ax 32), .int 0, .int 0, .int 0, .int 0])), ((ax 28), .inl (E 0, 9, .inl (fun _ => 0))), ((cm 2), .inl (E 0, 400, .inl fm)), ((cm 3), .inl (E 0, 16, .inl (fun _ => -5))), ((cm 4), .inl (E 0, 16, .inl (fun _ => 0))), ((cm 5), .inl (E 1, 6400, .inl (fun _ => 0))), ((cm 8), .inl (E 1, 6400, .inl (fun _ => 0))), ((cm 9), .inl (E 1, 6400, .inl (fun _ => 0))), ((cm 10), .inl (E 0, 6400, .inl (fun _ => 0))), ((cm 12), .inl (E 0, 60, .inl (fun _ => 0))), ((cm 13), .inl (E 0, 60, .inl (fun _ => 0))), ((cm 14), .inl (E 0, 60, .inl (fun _ => 0))), ((cm 15), .inl (E 0, 60, .inl (fun _ => 0))), ((cm 16), .inl (E 0, 60, .inl (fun _ => 0))), ((cm 32), .inl (E 2, 120, .inl (fun _ => 0))), ((cm 47), .inl (E 0, 5, .inl (fun _ => 0))), ((cm 55), .inl (E 0, 5, .inl (fun _ => 0))), ((cm 58), .inl (E 0, 3, .inl (fun _ => 0))), ((cm 62), .inl (E 0, 9, .inl (fun _ => 0)))] H := hP
    have hD : va_D (fun q : Nat => s.heap.size ≤ q) [((ax 0), .inl (E 0, 400, .inl fw)), ((ax 1), .inl (E 0, 16, .inl (fun _ => -5))), ((ax 2), .inl (E 0, 16, .inl (fun _ => 0))), ((ax 3), .inl (E 3, 16, .inr (.inr (.inr (.inr (fun _ => none)))))), ((ax 4), .inl (E 4, 5, .inr (.inr (.inr (.inr (fun j => some (ax (13 + j)))))))), ((ax 13), .inr (5, sF (bx 0))), ((ax 14), .inr (5, sF (bx 1))), ((ax 15), .inr (5, sF (bx 2))), ((ax 16), .inr (5, sF (bx 3))), ((ax 17), .inr (5, sF (bx 4))), ((ax 6), .inr (2, [.ref (ax 18), .ref (ax 19), .ref (ax 20), .ref (ax 21), .ref (ax 22), .int 0])), ((ax 18), .inl (E 0, 60, .inl (fun _ => 0))), ((ax 19), .inl (E 0, 60, .inl (fun _ => 0))), ((ax 20), .inl (E 0, 60, .inl (fun _ => 0))), ((ax 21), .inl (E 0, 60, .inl (fun _ => 0))), ((ax 22), .inl (E 0, 60, .inl (fun _ => 0))), ((ax 23), .inl (E 0, 120, .inl (fun _ => 0))), ((ax 10), .inr (0, [.ref (ax 28), .ref (ax 29), .ref (ax 30), .ref (ax 31), .ref (ax 32), .int 0, .int 0, .int 0, .int 0])), ((ax 28), .inl (E 0, 9, .inl (fun _ => 0))), ((cm 2), .inl (E 0, 400, .inl fm)), ((cm 3), .inl (E 0, 16, .inl (fun _ => -5))), ((cm 4), .inl (E 0, 16, .inl (fun _ => 0))), ((cm 5), .inl (E 1, 6400, .inl (fun _ => 0))), ((cm 8), .inl (E 1, 6400, .inl (fun _ => 0))), ((cm 9), .inl (E 1, 6400, .inl (fun _ => 0))), ((cm 10), .inl (E 0, 6400, .inl (fun _ => 0))), ((cm 12), .inl (E 0, 60, .inl (fun _ => 0))), ((cm 13), .inl (E 0, 60, .inl (fun _ => 0))), ((cm 14), .inl (E 0, 60, .inl (fun _ => 0))), ((cm 15), .inl (E 0, 60, .inl (fun _ => 0))), ((cm 16), .inl (E 0, 60, .inl (fun _ => 0))), ((cm 32), .inl (E 2, 120, .inl (fun _ => 0))), ((cm 47), .inl (E 0, 5, .inl (fun _ => 0))), ((cm 55), .inl (E 0, 5, .inl (fun _ => 0))), ((cm 58), .inl (E 0, 3, .inl (fun _ => 0))), ((cm 62), .inl (E 0, 9, .inl (fun _ => 0)))] := hD
    rcases hw_5 with ⟨hr_6, hw_5⟩ | ⟨hr_6, hw_5⟩
    ·
      refine W_top (y := .int (-100)) (by rw [hr_6]) ?_
      refine lv_icmp_eq (tgt := 1550) hx hb dL_law_957 (by decide) (fun c_7 => ?_) (fun c_7 => absurd rfl c_7)
      exact law_end hx hb hr hml hown htb hX hbl hlocks hS (lv_sub hl [0, 3] rfl) (Nat.le_of_ble_eq_true rfl) (Nat.le_of_ble_eq_true rfl)
    ·
      refine W_top (y := .int (-1)) (by rw [hr_6]) ?_
      exfalso; omega
  ·
    refine W_top (y := .int (-1)) (by rw [hr_3]) ?_
    refine lv_aload_n hx hb dL_law_948 rfl (lv_at hl 1 rfl) ?_
    refine lv_aload_n hx hb dL_law_949 rfl (lv_at hl 3 rfl) ?_
    refine lv_iload_n hx hb dL_law_950 rfl (lv_at hl 0 rfl) ?_
    refine lv_iconst (v := 1) hx hb dL_law_951 (by decide) ?_
    refine lv_iadd hx hb dL_law_952 ?_
    refine W_top (y := .int 1) (by decide) ?_
    refine va_sld hx hb hX hbl hbA hS (g_in t_1 (by decide) (by decide)) dL_law_953 ?_
    refine W_top (y := .int (xs 1)) (congrArg (fun n => Value.int (xs n)) (by decide : (1 : Int32).toNatClampNeg = 1)) ?_
    have hPc := hP.sub (ws' := [(qm, .inr (9, mF cm 0 0 0 0 0 0 0 0 0))]) [19] rfl
    have hDc := hD.sub (ws' := [(qm, .inr (9, mF cm 0 0 0 0 0 0 0 0 0))]) [19] (by decide) rfl
    refine aft_i (runMV (rest := [.int (-1)]) (As := [.int (xs 1)]) hx hb hml hown htb hK (c_X9_rule l D E qm cm (xs 1) _ ) ok_X9_rule k_1330 k_1331 k_1332 k_9 k_1333 ⟨(Nat.le_of_ble_eq_true rfl), (Nat.le_of_ble_eq_true rfl)⟩ ⟨(Nat.le_of_ble_eq_true rfl), (Nat.le_of_ble_eq_true rfl)⟩ hl.1 (Nat.le_of_ble_eq_true rfl) rfl rfl dL_law_954 hPc hDc rfl rfl 0 rfl) hP hD hS hA [19] [0, 1, 2, 3, 4, 5, 6, 7, 8, 9, 10, 11, 12, 13, 14, 15, 16, 17, 18, 20, 21, 22, 23, 24, 25, 26, 27, 28, 29, 30, 31, 32, 33, 34, 35, 36] (wr := [((ax 0), .inl (E 0, 400, .inl fw)), ((ax 1), .inl (E 0, 16, .inl (fun _ => -5))), ((ax 2), .inl (E 0, 16, .inl (fun _ => 0))), ((ax 3), .inl (E 3, 16, .inr (.inr (.inr (.inr (fun _ => none)))))), ((ax 4), .inl (E 4, 5, .inr (.inr (.inr (.inr (fun j => some (ax (13 + j)))))))), ((ax 13), .inr (5, sF (bx 0))), ((ax 14), .inr (5, sF (bx 1))), ((ax 15), .inr (5, sF (bx 2))), ((ax 16), .inr (5, sF (bx 3))), ((ax 17), .inr (5, sF (bx 4))), ((ax 6), .inr (2, [.ref (ax 18), .ref (ax 19), .ref (ax 20), .ref (ax 21), .ref (ax 22), .int 0])), ((ax 18), .inl (E 0, 60, .inl (fun _ => 0))), ((ax 19), .inl (E 0, 60, .inl (fun _ => 0))), ((ax 20), .inl (E 0, 60, .inl (fun _ => 0))), ((ax 21), .inl (E 0, 60, .inl (fun _ => 0))), ((ax 22), .inl (E 0, 60, .inl (fun _ => 0))), ((ax 23), .inl (E 0, 120, .inl (fun _ => 0))), ((ax 10), .inr (0, [.ref (ax 28), .ref (ax 29), .ref (ax 30), .ref (ax 31), .ref (ax 32), .int 0, .int 0, .int 0, .int 0])), ((ax 28), .inl (E 0, 9, .inl (fun _ => 0))), ((cm 2), .inl (E 0, 400, .inl fm)), ((cm 3), .inl (E 0, 16, .inl (fun _ => -5))), ((cm 4), .inl (E 0, 16, .inl (fun _ => 0))), ((cm 5), .inl (E 1, 6400, .inl (fun _ => 0))), ((cm 8), .inl (E 1, 6400, .inl (fun _ => 0))), ((cm 9), .inl (E 1, 6400, .inl (fun _ => 0))), ((cm 10), .inl (E 0, 6400, .inl (fun _ => 0))), ((cm 12), .inl (E 0, 60, .inl (fun _ => 0))), ((cm 13), .inl (E 0, 60, .inl (fun _ => 0))), ((cm 14), .inl (E 0, 60, .inl (fun _ => 0))), ((cm 15), .inl (E 0, 60, .inl (fun _ => 0))), ((cm 16), .inl (E 0, 60, .inl (fun _ => 0))), ((cm 32), .inl (E 2, 120, .inl (fun _ => 0))), ((cm 47), .inl (E 0, 5, .inl (fun _ => 0))), ((cm 55), .inl (E 0, 5, .inl (fun _ => 0))), ((cm 58), .inl (E 0, 3, .inl (fun _ => 0))), ((cm 62), .inl (E 0, 9, .inl (fun _ => 0)))]) rfl rfl (by decide) (by decide) (fun r_10 u_8 H locs hw_9 hP hD hS => ?_)
    clear hPc hDc
    have hP : va_P D vwCl [((ax 0), .inl (E 0, 400, .inl fw)), ((ax 1), .inl (E 0, 16, .inl (fun _ => -5))), ((ax 2), .inl (E 0, 16, .inl (fun _ => 0))), ((ax 3), .inl (E 3, 16, .inr (.inr (.inr (.inr (fun _ => none)))))), ((ax 4), .inl (E 4, 5, .inr (.inr (.inr (.inr (fun j => some (ax (13 + j)))))))), ((ax 13), .inr (5, sF (bx 0))), ((ax 14), .inr (5, sF (bx 1))), ((ax 15), .inr (5, sF (bx 2))), ((ax 16), .inr (5, sF (bx 3))), ((ax 17), .inr (5, sF (bx 4))), ((ax 6), .inr (2, [.ref (ax 18), .ref (ax 19), .ref (ax 20), .ref (ax 21), .ref (ax 22), .int 0])), ((ax 18), .inl (E 0, 60, .inl (fun _ => 0))), ((ax 19), .inl (E 0, 60, .inl (fun _ => 0))), ((ax 20), .inl (E 0, 60, .inl (fun _ => 0))), ((ax 21), .inl (E 0, 60, .inl (fun _ => 0))), ((ax 22), .inl (E 0, 60, .inl (fun _ => 0))), ((ax 23), .inl (E 0, 120, .inl (fun _ => 0))), ((ax 10), .inr (0, [.ref (ax 28), .ref (ax 29), .ref (ax 30), .ref (ax 31), .ref (ax 32), .int 0, .int 0, .int 0, .int 0])), ((ax 28), .inl (E 0, 9, .inl (fun _ => 0))), ((cm 2), .inl (E 0, 400, .inl fm)), ((cm 3), .inl (E 0, 16, .inl (fun _ => -5))), ((cm 4), .inl (E 0, 16, .inl (fun _ => 0))), ((cm 5), .inl (E 1, 6400, .inl (fun _ => 0))), ((cm 8), .inl (E 1, 6400, .inl (fun _ => 0))), ((cm 9), .inl (E 1, 6400, .inl (fun _ => 0))), ((cm 10), .inl (E 0, 6400, .inl (fun _ => 0))), ((cm 12), .inl (E 0, 60, .inl (fun _ => 0))), ((cm 13), .inl (E 0, 60, .inl (fun _ => 0))), ((cm 14), .inl (E 0, 60, .inl (fun _ => 0))), ((cm 15), .inl (E 0, 60, .inl (fun _ => 0))), ((cm 16), .inl (E 0, 60, .inl (fun _ => 0))), ((cm 32), .inl (E 2, 120, .inl (fun _ => 0))), ((cm 47), .inl (E 0, 5, .inl (fun _ => 0))), ((cm 55), .inl (E 0, 5, .inl (fun _ => 0))), ((cm 58), .inl (E 0, 3, .inl (fun _ => 0))), ((cm 62), .inl (E 0, 9, .inl (fun _ => 0)))] H := hP
    have hD : va_D (fun q : Nat => s.heap.size ≤ q) [((ax 0), .inl (E 0, 400, .inl fw)), ((ax 1), .inl (E 0, 16, .inl (fun _ => -5))), ((ax 2), .inl (E 0, 16, .inl (fun _ => 0))), ((ax 3), .inl (E 3, 16, .inr (.inr (.inr (.inr (fun _ => none)))))), ((ax 4), .inl (E 4, 5, .inr (.inr (.inr (.inr (fun j => some (ax (13 + j)))))))), ((ax 13), .inr (5, sF (bx 0))), ((ax 14), .inr (5, sF (bx 1))), ((ax 15), .inr (5, sF (bx 2))), ((ax 16), .inr (5, sF (bx 3))), ((ax 17), .inr (5, sF (bx 4))), ((ax 6), .inr (2, [.ref (ax 18), .ref (ax 19), .ref (ax 20), .ref (ax 21), .ref (ax 22), .int 0])), ((ax 18), .inl (E 0, 60, .inl (fun _ => 0))), ((ax 19), .inl (E 0, 60, .inl (fun _ => 0))), ((ax 20), .inl (E 0, 60, .inl (fun _ => 0))), ((ax 21), .inl (E 0, 60, .inl (fun _ => 0))), ((ax 22), .inl (E 0, 60, .inl (fun _ => 0))), ((ax 23), .inl (E 0, 120, .inl (fun _ => 0))), ((ax 10), .inr (0, [.ref (ax 28), .ref (ax 29), .ref (ax 30), .ref (ax 31), .ref (ax 32), .int 0, .int 0, .int 0, .int 0])), ((ax 28), .inl (E 0, 9, .inl (fun _ => 0))), ((cm 2), .inl (E 0, 400, .inl fm)), ((cm 3), .inl (E 0, 16, .inl (fun _ => -5))), ((cm 4), .inl (E 0, 16, .inl (fun _ => 0))), ((cm 5), .inl (E 1, 6400, .inl (fun _ => 0))), ((cm 8), .inl (E 1, 6400, .inl (fun _ => 0))), ((cm 9), .inl (E 1, 6400, .inl (fun _ => 0))), ((cm 10), .inl (E 0, 6400, .inl (fun _ => 0))), ((cm 12), .inl (E 0, 60, .inl (fun _ => 0))), ((cm 13), .inl (E 0, 60, .inl (fun _ => 0))), ((cm 14), .inl (E 0, 60, .inl (fun _ => 0))), ((cm 15), .inl (E 0, 60, .inl (fun _ => 0))), ((cm 16), .inl (E 0, 60, .inl (fun _ => 0))), ((cm 32), .inl (E 2, 120, .inl (fun _ => 0))), ((cm 47), .inl (E 0, 5, .inl (fun _ => 0))), ((cm 55), .inl (E 0, 5, .inl (fun _ => 0))), ((cm 58), .inl (E 0, 3, .inl (fun _ => 0))), ((cm 62), .inl (E 0, 9, .inl (fun _ => 0)))] := hD
    rcases hw_9 with ⟨hr_10, hw_9⟩ | ⟨hr_10, hw_9⟩
    ·
      refine W_top (y := .int (-100)) (by rw [hr_10]) ?_
      exfalso; omega
    ·
      refine W_top (y := .int (-1)) (by rw [hr_10]) ?_
      refine lv_icmp_eq (tgt := 1550) hx hb dL_law_957 (by decide) (fun c_11 => ?_) (fun c_11 => absurd rfl c_11)
      exact law_end hx hb hr hml hown htb hX hbl hlocks hS (lv_sub hl [0, 3] rfl) (Nat.le_of_ble_eq_true rfl) (Nat.le_of_ble_eq_true rfl)
set_option maxHeartbeats 4000000 in
set_option maxRecDepth 100000 in
theorem law_20 {p : Program} {l : Launch} {e : Env} {s : State} {m : MethodId} {below : List Frame} {meth : Method} {c : Code} {D : va_G} {E : Nat → Nat} {b : Nat} {xs : Nat → Int32} {qx : Nat} {ax : Nat → Nat} {bx : Nat → Nat → Nat} {fw : Nat → Int32} {qm : Nat} {cm : Nat → Nat} {fm : Nat → Int32} {H : Heap} {locs : List Loc} {ls : Array Slot} (hx : p.tables.exec = Jvm.exec) (hb : c.code = code) (hr : meth.sig.returnType = ret) (hml : c.maxLocals = 4) (hown : s.vm.findClass R_law = some m.cls) (htb : ∀ w ∈ tb, w.before #[Value.ref b] s = true) (hK : KX D E s) (hX : va_X b 6 xs s s.heap) (hbl : b < s.heap.size) (hlocks : meth.locks = false) (hP : va_P D vwCl (LW E qx ax bx fw qm cm fm) H) (hD : va_D (fun q : Nat => s.heap.size ≤ q) (LW E qx ax bx fw qm cm fm)) (hS : va_S (fun q : Nat => s.heap.size ≤ q) s.heap H locs) (hl : lv_has ls 4 [(3, .int 0), (2, .ref qm), (1, .ref qx), (0, .ref b)]) : W p l e room_1 s m #[Value.ref b] below meth c H locs 123 44666 (lw_Z below #[Value.ref b] s) (F0 m 962 ls []) := by
  have hA : ∀ q : Nat, s.heap.size ≤ q → (fun q : Nat => s.heap.size ≤ q) q := fun _ h => h
  have hbA : ¬ (fun q : Nat => s.heap.size ≤ q) b := Nat.not_le.mpr hbl
  refine lv_aload_n hx hb dL_law_962 rfl (lv_at hl 2 rfl) ?_
  refine lv_aload_n hx hb dL_law_963 rfl (lv_at hl 3 rfl) ?_
  refine lv_iload_n hx hb dL_law_964 rfl (lv_at hl 0 rfl) ?_
  refine lv_iconst (v := 1) hx hb dL_law_965 (by decide) ?_
  refine lv_iadd hx hb dL_law_966 ?_
  refine W_top (y := .int 1) (by decide) ?_
  refine va_sld hx hb hX hbl hbA hS (g_in t_1 (by decide) (by decide)) dL_law_967 ?_
  refine W_top (y := .int (xs 1)) (congrArg (fun n => Value.int (xs n)) (by decide : (1 : Int32).toNatClampNeg = 1)) ?_
  refine lv_aload_n hx hb dL_law_968 rfl (lv_at hl 3 rfl) ?_
  refine lv_iload_n hx hb dL_law_969 rfl (lv_at hl 0 rfl) ?_
  refine lv_iconst (v := 2) hx hb dL_law_970 (by decide) ?_
  refine lv_iadd hx hb dL_law_971 ?_
  refine W_top (y := .int 2) (by decide) ?_
  refine va_sld hx hb hX hbl hbA hS (g_in t_2 (by decide) (by decide)) dL_law_972 ?_
  refine W_top (y := .int (xs 2)) (congrArg (fun n => Value.int (xs n)) (by decide : (2 : Int32).toNatClampNeg = 2)) ?_
  refine lv_aload_n hx hb dL_law_973 rfl (lv_at hl 3 rfl) ?_
  refine lv_iload_n hx hb dL_law_974 rfl (lv_at hl 0 rfl) ?_
  refine lv_iconst (v := 3) hx hb dL_law_975 (by decide) ?_
  refine lv_iadd hx hb dL_law_976 ?_
  refine W_top (y := .int 3) (by decide) ?_
  refine va_sld hx hb hX hbl hbA hS (g_in t_3 (by decide) (by decide)) dL_law_977 ?_
  refine W_top (y := .int (xs 3)) (congrArg (fun n => Value.int (xs n)) (by decide : (3 : Int32).toNatClampNeg = 3)) ?_
  refine callRV (rest := []) (As := [.int (xs 1), .int (xs 2), .int (xs 3)]) hx hb hml hown htb hK (c_X8_trial l D E qx ax (xs 1) (xs 2) (xs 3) ) ok_X8_trial k_708 k_709 k_710 k_1 k_711 ⟨(Nat.le_of_ble_eq_true rfl), (Nat.le_of_ble_eq_true rfl)⟩ ⟨(Nat.le_of_ble_eq_true rfl), (Nat.le_of_ble_eq_true rfl)⟩ hl.1 (Nat.le_of_ble_eq_true rfl) rfl rfl dL_law_978 (hP.sub (ws' := [(qx, .inr (8, xF ax 0)), ((ax 1), .inl (E 0, 16, .inl (fun _ => -5)))]) [0, 2] rfl) rfl rfl 0 rfl (fun r_2 hw_1 => ?_)
  obtain ⟨hr_2, hw_1⟩ := hw_1
  refine W_top (y := .int (-2000000000)) (by rw [hr_2]) ?_
  refine lv_aload_n hx hb dL_law_981 rfl (lv_at hl 1 rfl) ?_
  refine lv_aload_n hx hb dL_law_982 rfl (lv_at hl 3 rfl) ?_
  refine lv_iload_n hx hb dL_law_983 rfl (lv_at hl 0 rfl) ?_
  refine lv_iconst (v := 1) hx hb dL_law_984 (by decide) ?_
  refine lv_iadd hx hb dL_law_985 ?_
  refine W_top (y := .int 1) (by decide) ?_
  refine va_sld hx hb hX hbl hbA hS (g_in t_1 (by decide) (by decide)) dL_law_986 ?_
  refine W_top (y := .int (xs 1)) (congrArg (fun n => Value.int (xs n)) (by decide : (1 : Int32).toNatClampNeg = 1)) ?_
  refine lv_aload_n hx hb dL_law_987 rfl (lv_at hl 3 rfl) ?_
  refine lv_iload_n hx hb dL_law_988 rfl (lv_at hl 0 rfl) ?_
  refine lv_iconst (v := 2) hx hb dL_law_989 (by decide) ?_
  refine lv_iadd hx hb dL_law_990 ?_
  refine W_top (y := .int 2) (by decide) ?_
  refine va_sld hx hb hX hbl hbA hS (g_in t_2 (by decide) (by decide)) dL_law_991 ?_
  refine W_top (y := .int (xs 2)) (congrArg (fun n => Value.int (xs n)) (by decide : (2 : Int32).toNatClampNeg = 2)) ?_
  refine lv_aload_n hx hb dL_law_992 rfl (lv_at hl 3 rfl) ?_
  refine lv_iload_n hx hb dL_law_993 rfl (lv_at hl 0 rfl) ?_
  refine lv_iconst (v := 3) hx hb dL_law_994 (by decide) ?_
  refine lv_iadd hx hb dL_law_995 ?_
  refine W_top (y := .int 3) (by decide) ?_
  refine va_sld hx hb hX hbl hbA hS (g_in t_3 (by decide) (by decide)) dL_law_996 ?_
  refine W_top (y := .int (xs 3)) (congrArg (fun n => Value.int (xs n)) (by decide : (3 : Int32).toNatClampNeg = 3)) ?_
  refine callRV (rest := [.int (-2000000000)]) (As := [.int (xs 1), .int (xs 2), .int (xs 3)]) hx hb hml hown htb hK (c_X9_trial l D E qm cm (xs 1) (xs 2) (xs 3) ) ok_X9_trial k_1387 k_1388 k_1389 k_9 k_1390 ⟨(Nat.le_of_ble_eq_true rfl), (Nat.le_of_ble_eq_true rfl)⟩ ⟨(Nat.le_of_ble_eq_true rfl), (Nat.le_of_ble_eq_true rfl)⟩ hl.1 (Nat.le_of_ble_eq_true rfl) rfl rfl dL_law_997 (hP.sub (ws' := [(qm, .inr (9, mF cm 0 0 0 0 0 0 0 0 0)), ((cm 3), .inl (E 0, 16, .inl (fun _ => -5)))]) [22, 24] rfl) rfl rfl 0 rfl (fun r_4 hw_3 => ?_)
  obtain ⟨hr_4, hw_3⟩ := hw_3
  refine W_top (y := .int (-2000000000)) (by rw [hr_4]) ?_
  refine lv_icmp_eq (tgt := 1550) hx hb dL_law_1000 (by decide) (fun c_5 => ?_) (fun c_5 => absurd rfl c_5)
  exact law_end hx hb hr hml hown htb hX hbl hlocks hS (lv_sub hl [0, 3] rfl) (Nat.le_of_ble_eq_true rfl) (Nat.le_of_ble_eq_true rfl)
set_option maxHeartbeats 4000000 in
set_option maxRecDepth 100000 in
theorem law_21 {p : Program} {l : Launch} {e : Env} {s : State} {m : MethodId} {below : List Frame} {meth : Method} {c : Code} {D : va_G} {E : Nat → Nat} {b : Nat} {xs : Nat → Int32} {qx : Nat} {ax : Nat → Nat} {bx : Nat → Nat → Nat} {fw : Nat → Int32} {qm : Nat} {cm : Nat → Nat} {fm : Nat → Int32} {H : Heap} {locs : List Loc} {ls : Array Slot} (hx : p.tables.exec = Jvm.exec) (hb : c.code = code) (hr : meth.sig.returnType = ret) (hml : c.maxLocals = 4) (hown : s.vm.findClass R_law = some m.cls) (htb : ∀ w ∈ tb, w.before #[Value.ref b] s = true) (hK : KX D E s) (hX : va_X b 6 xs s s.heap) (hbl : b < s.heap.size) (hlocks : meth.locks = false) (hP : va_P D vwCl (LW E qx ax bx fw qm cm fm) H) (hD : va_D (fun q : Nat => s.heap.size ≤ q) (LW E qx ax bx fw qm cm fm)) (hS : va_S (fun q : Nat => s.heap.size ≤ q) s.heap H locs) (hl : lv_has ls 4 [(3, .int 0), (2, .ref qm), (1, .ref qx), (0, .ref b)]) : W p l e room_1 s m #[Value.ref b] below meth c H locs 123 44666 (lw_Z below #[Value.ref b] s) (F0 m 1005 ls []) := by
  have hA : ∀ q : Nat, s.heap.size ≤ q → (fun q : Nat => s.heap.size ≤ q) q := fun _ h => h
  have hbA : ¬ (fun q : Nat => s.heap.size ≤ q) b := Nat.not_le.mpr hbl
  refine lv_aload_n hx hb dL_law_1005 rfl (lv_at hl 2 rfl) ?_
  refine lv_aload_n hx hb dL_law_1006 rfl (lv_at hl 3 rfl) ?_
  refine lv_iload_n hx hb dL_law_1007 rfl (lv_at hl 0 rfl) ?_
  refine lv_iconst (v := 1) hx hb dL_law_1008 (by decide) ?_
  refine lv_iadd hx hb dL_law_1009 ?_
  refine W_top (y := .int 1) (by decide) ?_
  refine va_sld hx hb hX hbl hbA hS (g_in t_1 (by decide) (by decide)) dL_law_1010 ?_
  refine W_top (y := .int (xs 1)) (congrArg (fun n => Value.int (xs n)) (by decide : (1 : Int32).toNatClampNeg = 1)) ?_
  refine lv_aload_n hx hb dL_law_1011 rfl (lv_at hl 3 rfl) ?_
  refine lv_iload_n hx hb dL_law_1012 rfl (lv_at hl 0 rfl) ?_
  refine lv_iconst (v := 2) hx hb dL_law_1013 (by decide) ?_
  refine lv_iadd hx hb dL_law_1014 ?_
  refine W_top (y := .int 2) (by decide) ?_
  refine va_sld hx hb hX hbl hbA hS (g_in t_2 (by decide) (by decide)) dL_law_1015 ?_
  refine W_top (y := .int (xs 2)) (congrArg (fun n => Value.int (xs n)) (by decide : (2 : Int32).toNatClampNeg = 2)) ?_
  refine lv_aload_n hx hb dL_law_1016 rfl (lv_at hl 3 rfl) ?_
  refine lv_iload_n hx hb dL_law_1017 rfl (lv_at hl 0 rfl) ?_
  refine lv_iconst (v := 3) hx hb dL_law_1018 (by decide) ?_
  refine lv_iadd hx hb dL_law_1019 ?_
  refine W_top (y := .int 3) (by decide) ?_
  refine va_sld hx hb hX hbl hbA hS (g_in t_3 (by decide) (by decide)) dL_law_1020 ?_
  refine W_top (y := .int (xs 3)) (congrArg (fun n => Value.int (xs n)) (by decide : (3 : Int32).toNatClampNeg = 3)) ?_
  refine callRV (rest := []) (As := [.int (xs 1), .int (xs 2), .int (xs 3)]) hx hb hml hown htb hK (c_X8_order l D E qx ax (xs 1) (xs 2) (xs 3) ) ok_X8_order k_765 k_766 k_767 k_1 k_768 ⟨(Nat.le_of_ble_eq_true rfl), (Nat.le_of_ble_eq_true rfl)⟩ ⟨(Nat.le_of_ble_eq_true rfl), (Nat.le_of_ble_eq_true rfl)⟩ hl.1 (Nat.le_of_ble_eq_true rfl) rfl rfl dL_law_1021 (hP.sub (ws' := [(qx, .inr (8, xF ax 0)), ((ax 1), .inl (E 0, 16, .inl (fun _ => -5)))]) [0, 2] rfl) rfl rfl 0 rfl (fun r_2 hw_1 => ?_)
  rcases hw_1 with ⟨hr_2, hw_1⟩ | ⟨hr_2, hw_1⟩
  ·
    refine W_top (y := .int (-2)) (by rw [hr_2]) ?_
    refine lv_aload_n hx hb dL_law_1024 rfl (lv_at hl 1 rfl) ?_
    refine lv_aload_n hx hb dL_law_1025 rfl (lv_at hl 3 rfl) ?_
    refine lv_iload_n hx hb dL_law_1026 rfl (lv_at hl 0 rfl) ?_
    refine lv_iconst (v := 1) hx hb dL_law_1027 (by decide) ?_
    refine lv_iadd hx hb dL_law_1028 ?_
    refine W_top (y := .int 1) (by decide) ?_
    refine va_sld hx hb hX hbl hbA hS (g_in t_1 (by decide) (by decide)) dL_law_1029 ?_
    refine W_top (y := .int (xs 1)) (congrArg (fun n => Value.int (xs n)) (by decide : (1 : Int32).toNatClampNeg = 1)) ?_
    refine lv_aload_n hx hb dL_law_1030 rfl (lv_at hl 3 rfl) ?_
    refine lv_iload_n hx hb dL_law_1031 rfl (lv_at hl 0 rfl) ?_
    refine lv_iconst (v := 2) hx hb dL_law_1032 (by decide) ?_
    refine lv_iadd hx hb dL_law_1033 ?_
    refine W_top (y := .int 2) (by decide) ?_
    refine va_sld hx hb hX hbl hbA hS (g_in t_2 (by decide) (by decide)) dL_law_1034 ?_
    refine W_top (y := .int (xs 2)) (congrArg (fun n => Value.int (xs n)) (by decide : (2 : Int32).toNatClampNeg = 2)) ?_
    refine lv_aload_n hx hb dL_law_1035 rfl (lv_at hl 3 rfl) ?_
    refine lv_iload_n hx hb dL_law_1036 rfl (lv_at hl 0 rfl) ?_
    refine lv_iconst (v := 3) hx hb dL_law_1037 (by decide) ?_
    refine lv_iadd hx hb dL_law_1038 ?_
    refine W_top (y := .int 3) (by decide) ?_
    refine va_sld hx hb hX hbl hbA hS (g_in t_3 (by decide) (by decide)) dL_law_1039 ?_
    refine W_top (y := .int (xs 3)) (congrArg (fun n => Value.int (xs n)) (by decide : (3 : Int32).toNatClampNeg = 3)) ?_
    refine callRV (rest := [.int (-2)]) (As := [.int (xs 1), .int (xs 2), .int (xs 3)]) hx hb hml hown htb hK (c_X9_order l D E qm cm (xs 1) (xs 2) (xs 3) ) ok_X9_order k_1402 k_1403 k_1404 k_9 k_1405 ⟨(Nat.le_of_ble_eq_true rfl), (Nat.le_of_ble_eq_true rfl)⟩ ⟨(Nat.le_of_ble_eq_true rfl), (Nat.le_of_ble_eq_true rfl)⟩ hl.1 (Nat.le_of_ble_eq_true rfl) rfl rfl dL_law_1040 (hP.sub (ws' := [(qm, .inr (9, mF cm 0 0 0 0 0 0 0 0 0)), ((cm 3), .inl (E 0, 16, .inl (fun _ => -5)))]) [22, 24] rfl) rfl rfl 0 rfl (fun r_4 hw_3 => ?_)
    rcases hw_3 with ⟨hr_4, hw_3⟩ | ⟨hr_4, hw_3⟩
    ·
      refine W_top (y := .int (-2)) (by rw [hr_4]) ?_
      refine lv_icmp_eq (tgt := 1550) hx hb dL_law_1043 (by decide) (fun c_5 => ?_) (fun c_5 => absurd rfl c_5)
      exact law_end hx hb hr hml hown htb hX hbl hlocks hS (lv_sub hl [0, 3] rfl) (Nat.le_of_ble_eq_true rfl) (Nat.le_of_ble_eq_true rfl)
    ·
      refine W_top (y := .int (-1)) (by rw [hr_4]) ?_
      exfalso; omega
  ·
    refine W_top (y := .int (-1)) (by rw [hr_2]) ?_
    refine lv_aload_n hx hb dL_law_1024 rfl (lv_at hl 1 rfl) ?_
    refine lv_aload_n hx hb dL_law_1025 rfl (lv_at hl 3 rfl) ?_
    refine lv_iload_n hx hb dL_law_1026 rfl (lv_at hl 0 rfl) ?_
    refine lv_iconst (v := 1) hx hb dL_law_1027 (by decide) ?_
    refine lv_iadd hx hb dL_law_1028 ?_
    refine W_top (y := .int 1) (by decide) ?_
    refine va_sld hx hb hX hbl hbA hS (g_in t_1 (by decide) (by decide)) dL_law_1029 ?_
    refine W_top (y := .int (xs 1)) (congrArg (fun n => Value.int (xs n)) (by decide : (1 : Int32).toNatClampNeg = 1)) ?_
    refine lv_aload_n hx hb dL_law_1030 rfl (lv_at hl 3 rfl) ?_
    refine lv_iload_n hx hb dL_law_1031 rfl (lv_at hl 0 rfl) ?_
    refine lv_iconst (v := 2) hx hb dL_law_1032 (by decide) ?_
    refine lv_iadd hx hb dL_law_1033 ?_
    refine W_top (y := .int 2) (by decide) ?_
    refine va_sld hx hb hX hbl hbA hS (g_in t_2 (by decide) (by decide)) dL_law_1034 ?_
    refine W_top (y := .int (xs 2)) (congrArg (fun n => Value.int (xs n)) (by decide : (2 : Int32).toNatClampNeg = 2)) ?_
    refine lv_aload_n hx hb dL_law_1035 rfl (lv_at hl 3 rfl) ?_
    refine lv_iload_n hx hb dL_law_1036 rfl (lv_at hl 0 rfl) ?_
    refine lv_iconst (v := 3) hx hb dL_law_1037 (by decide) ?_
    refine lv_iadd hx hb dL_law_1038 ?_
    refine W_top (y := .int 3) (by decide) ?_
    refine va_sld hx hb hX hbl hbA hS (g_in t_3 (by decide) (by decide)) dL_law_1039 ?_
    refine W_top (y := .int (xs 3)) (congrArg (fun n => Value.int (xs n)) (by decide : (3 : Int32).toNatClampNeg = 3)) ?_
    refine callRV (rest := [.int (-1)]) (As := [.int (xs 1), .int (xs 2), .int (xs 3)]) hx hb hml hown htb hK (c_X9_order l D E qm cm (xs 1) (xs 2) (xs 3) ) ok_X9_order k_1402 k_1403 k_1404 k_9 k_1405 ⟨(Nat.le_of_ble_eq_true rfl), (Nat.le_of_ble_eq_true rfl)⟩ ⟨(Nat.le_of_ble_eq_true rfl), (Nat.le_of_ble_eq_true rfl)⟩ hl.1 (Nat.le_of_ble_eq_true rfl) rfl rfl dL_law_1040 (hP.sub (ws' := [(qm, .inr (9, mF cm 0 0 0 0 0 0 0 0 0)), ((cm 3), .inl (E 0, 16, .inl (fun _ => -5)))]) [22, 24] rfl) rfl rfl 0 rfl (fun r_7 hw_6 => ?_)
    rcases hw_6 with ⟨hr_7, hw_6⟩ | ⟨hr_7, hw_6⟩
    ·
      refine W_top (y := .int (-2)) (by rw [hr_7]) ?_
      exfalso; omega
    ·
      refine W_top (y := .int (-1)) (by rw [hr_7]) ?_
      refine lv_icmp_eq (tgt := 1550) hx hb dL_law_1043 (by decide) (fun c_8 => ?_) (fun c_8 => absurd rfl c_8)
      exact law_end hx hb hr hml hown htb hX hbl hlocks hS (lv_sub hl [0, 3] rfl) (Nat.le_of_ble_eq_true rfl) (Nat.le_of_ble_eq_true rfl)
set_option maxHeartbeats 4000000 in
set_option maxRecDepth 100000 in
theorem law_22 {p : Program} {l : Launch} {e : Env} {s : State} {m : MethodId} {below : List Frame} {meth : Method} {c : Code} {D : va_G} {E : Nat → Nat} {b : Nat} {xs : Nat → Int32} {qx : Nat} {ax : Nat → Nat} {bx : Nat → Nat → Nat} {fw : Nat → Int32} {qm : Nat} {cm : Nat → Nat} {fm : Nat → Int32} {H : Heap} {locs : List Loc} {ls : Array Slot} (hx : p.tables.exec = Jvm.exec) (hb : c.code = code) (hr : meth.sig.returnType = ret) (hml : c.maxLocals = 4) (hown : s.vm.findClass R_law = some m.cls) (htb : ∀ w ∈ tb, w.before #[Value.ref b] s = true) (hK : KX D E s) (hX : va_X b 6 xs s s.heap) (hbl : b < s.heap.size) (hlocks : meth.locks = false) (hP : va_P D vwCl (LW E qx ax bx fw qm cm fm) H) (hD : va_D (fun q : Nat => s.heap.size ≤ q) (LW E qx ax bx fw qm cm fm)) (hS : va_S (fun q : Nat => s.heap.size ≤ q) s.heap H locs) (hl : lv_has ls 4 [(3, .int 0), (2, .ref qm), (1, .ref qx), (0, .ref b)]) : W p l e room_1 s m #[Value.ref b] below meth c H locs 123 44666 (lw_Z below #[Value.ref b] s) (F0 m 1048 ls []) := by
  have hA : ∀ q : Nat, s.heap.size ≤ q → (fun q : Nat => s.heap.size ≤ q) q := fun _ h => h
  have hbA : ¬ (fun q : Nat => s.heap.size ≤ q) b := Nat.not_le.mpr hbl
  refine lv_aload_n hx hb dL_law_1048 rfl (lv_at hl 2 rfl) ?_
  refine lv_aload_n hx hb dL_law_1049 rfl (lv_at hl 3 rfl) ?_
  refine lv_iload_n hx hb dL_law_1050 rfl (lv_at hl 0 rfl) ?_
  refine lv_iconst (v := 1) hx hb dL_law_1051 (by decide) ?_
  refine lv_iadd hx hb dL_law_1052 ?_
  refine W_top (y := .int 1) (by decide) ?_
  refine va_sld hx hb hX hbl hbA hS (g_in t_1 (by decide) (by decide)) dL_law_1053 ?_
  refine W_top (y := .int (xs 1)) (congrArg (fun n => Value.int (xs n)) (by decide : (1 : Int32).toNatClampNeg = 1)) ?_
  refine lv_aload_n hx hb dL_law_1054 rfl (lv_at hl 3 rfl) ?_
  refine lv_iload_n hx hb dL_law_1055 rfl (lv_at hl 0 rfl) ?_
  refine lv_iconst (v := 2) hx hb dL_law_1056 (by decide) ?_
  refine lv_iadd hx hb dL_law_1057 ?_
  refine W_top (y := .int 2) (by decide) ?_
  refine va_sld hx hb hX hbl hbA hS (g_in t_2 (by decide) (by decide)) dL_law_1058 ?_
  refine W_top (y := .int (xs 2)) (congrArg (fun n => Value.int (xs n)) (by decide : (2 : Int32).toNatClampNeg = 2)) ?_
  refine lv_aload_n hx hb dL_law_1059 rfl (lv_at hl 3 rfl) ?_
  refine lv_iload_n hx hb dL_law_1060 rfl (lv_at hl 0 rfl) ?_
  refine lv_iconst (v := 3) hx hb dL_law_1061 (by decide) ?_
  refine lv_iadd hx hb dL_law_1062 ?_
  refine W_top (y := .int 3) (by decide) ?_
  refine va_sld hx hb hX hbl hbA hS (g_in t_3 (by decide) (by decide)) dL_law_1063 ?_
  refine W_top (y := .int (xs 3)) (congrArg (fun n => Value.int (xs n)) (by decide : (3 : Int32).toNatClampNeg = 3)) ?_
  refine lv_aload_n hx hb dL_law_1064 rfl (lv_at hl 3 rfl) ?_
  refine lv_iload_n hx hb dL_law_1065 rfl (lv_at hl 0 rfl) ?_
  refine lv_iconst (v := 4) hx hb dL_law_1066 (by decide) ?_
  refine lv_iadd hx hb dL_law_1067 ?_
  refine W_top (y := .int 4) (by decide) ?_
  refine va_sld hx hb hX hbl hbA hS (g_in t_4 (by decide) (by decide)) dL_law_1068 ?_
  refine W_top (y := .int (xs 4)) (congrArg (fun n => Value.int (xs n)) (by decide : (4 : Int32).toNatClampNeg = 4)) ?_
  refine callRV (rest := []) (As := [.int (xs 1), .int (xs 2), .int (xs 3), .int (xs 4)]) hx hb hml hown htb hK (c_X8_sail l D E qx ax (xs 1) (xs 2) (xs 3) (xs 4) ) ok_X8_sail k_769 k_770 k_771 k_1 k_772 ⟨(Nat.le_of_ble_eq_true rfl), (Nat.le_of_ble_eq_true rfl)⟩ ⟨(Nat.le_of_ble_eq_true rfl), (Nat.le_of_ble_eq_true rfl)⟩ hl.1 (Nat.le_of_ble_eq_true rfl) rfl rfl dL_law_1069 (hP.sub (ws' := [(qx, .inr (8, xF ax 0)), ((ax 1), .inl (E 0, 16, .inl (fun _ => -5)))]) [0, 2] rfl) rfl rfl 0 rfl (fun r_2 hw_1 => ?_)
  rcases hw_1 with ⟨hr_2, hw_1⟩ | ⟨hr_2, hw_1⟩
  ·
    refine W_top (y := .int (-2)) (by rw [hr_2]) ?_
    refine lv_aload_n hx hb dL_law_1072 rfl (lv_at hl 1 rfl) ?_
    refine lv_aload_n hx hb dL_law_1073 rfl (lv_at hl 3 rfl) ?_
    refine lv_iload_n hx hb dL_law_1074 rfl (lv_at hl 0 rfl) ?_
    refine lv_iconst (v := 1) hx hb dL_law_1075 (by decide) ?_
    refine lv_iadd hx hb dL_law_1076 ?_
    refine W_top (y := .int 1) (by decide) ?_
    refine va_sld hx hb hX hbl hbA hS (g_in t_1 (by decide) (by decide)) dL_law_1077 ?_
    refine W_top (y := .int (xs 1)) (congrArg (fun n => Value.int (xs n)) (by decide : (1 : Int32).toNatClampNeg = 1)) ?_
    refine lv_aload_n hx hb dL_law_1078 rfl (lv_at hl 3 rfl) ?_
    refine lv_iload_n hx hb dL_law_1079 rfl (lv_at hl 0 rfl) ?_
    refine lv_iconst (v := 2) hx hb dL_law_1080 (by decide) ?_
    refine lv_iadd hx hb dL_law_1081 ?_
    refine W_top (y := .int 2) (by decide) ?_
    refine va_sld hx hb hX hbl hbA hS (g_in t_2 (by decide) (by decide)) dL_law_1082 ?_
    refine W_top (y := .int (xs 2)) (congrArg (fun n => Value.int (xs n)) (by decide : (2 : Int32).toNatClampNeg = 2)) ?_
    refine lv_aload_n hx hb dL_law_1083 rfl (lv_at hl 3 rfl) ?_
    refine lv_iload_n hx hb dL_law_1084 rfl (lv_at hl 0 rfl) ?_
    refine lv_iconst (v := 3) hx hb dL_law_1085 (by decide) ?_
    refine lv_iadd hx hb dL_law_1086 ?_
    refine W_top (y := .int 3) (by decide) ?_
    refine va_sld hx hb hX hbl hbA hS (g_in t_3 (by decide) (by decide)) dL_law_1087 ?_
    refine W_top (y := .int (xs 3)) (congrArg (fun n => Value.int (xs n)) (by decide : (3 : Int32).toNatClampNeg = 3)) ?_
    refine lv_aload_n hx hb dL_law_1088 rfl (lv_at hl 3 rfl) ?_
    refine lv_iload_n hx hb dL_law_1089 rfl (lv_at hl 0 rfl) ?_
    refine lv_iconst (v := 4) hx hb dL_law_1090 (by decide) ?_
    refine lv_iadd hx hb dL_law_1091 ?_
    refine W_top (y := .int 4) (by decide) ?_
    refine va_sld hx hb hX hbl hbA hS (g_in t_4 (by decide) (by decide)) dL_law_1092 ?_
    refine W_top (y := .int (xs 4)) (congrArg (fun n => Value.int (xs n)) (by decide : (4 : Int32).toNatClampNeg = 4)) ?_
    have hPc := hP.sub (ws' := [(qm, .inr (9, mF cm 0 0 0 0 0 0 0 0 0)), ((cm 3), .inl (E 0, 16, .inl (fun _ => -5))), ((cm 58), .inl (E 0, 3, .inl (fun _ => 0)))]) [22, 24, 38] rfl
    have hDc := hD.sub (ws' := [(qm, .inr (9, mF cm 0 0 0 0 0 0 0 0 0)), ((cm 3), .inl (E 0, 16, .inl (fun _ => -5))), ((cm 58), .inl (E 0, 3, .inl (fun _ => 0)))]) [22, 24, 38] (by decide) rfl
    refine aft_i (runMV (rest := [.int (-2)]) (As := [.int (xs 1), .int (xs 2), .int (xs 3), .int (xs 4)]) hx hb hml hown htb hK (c_X9_sail l D E qm cm (xs 1) (xs 2) (xs 3) (xs 4) _ ) ok_X9_sail k_1410 k_1411 k_1412 k_9 k_1413 ⟨(Nat.le_of_ble_eq_true rfl), (Nat.le_of_ble_eq_true rfl)⟩ ⟨(Nat.le_of_ble_eq_true rfl), (Nat.le_of_ble_eq_true rfl)⟩ hl.1 (Nat.le_of_ble_eq_true rfl) rfl rfl dL_law_1093 hPc hDc rfl rfl 0 rfl) hP hD hS hA [22, 24, 38] [0, 1, 2, 3, 4, 5, 6, 7, 8, 9, 10, 11, 12, 13, 14, 15, 16, 17, 18, 19, 20, 21, 23, 25, 26, 27, 28, 29, 30, 31, 32, 33, 34, 35, 36, 37, 39] (wr := [(qx, .inr (8, xF ax 0)), ((ax 0), .inl (E 0, 400, .inl fw)), ((ax 1), .inl (E 0, 16, .inl (fun _ => -5))), ((ax 2), .inl (E 0, 16, .inl (fun _ => 0))), ((ax 3), .inl (E 3, 16, .inr (.inr (.inr (.inr (fun _ => none)))))), ((ax 4), .inl (E 4, 5, .inr (.inr (.inr (.inr (fun j => some (ax (13 + j)))))))), ((ax 13), .inr (5, sF (bx 0))), ((ax 14), .inr (5, sF (bx 1))), ((ax 15), .inr (5, sF (bx 2))), ((ax 16), .inr (5, sF (bx 3))), ((ax 17), .inr (5, sF (bx 4))), ((ax 6), .inr (2, [.ref (ax 18), .ref (ax 19), .ref (ax 20), .ref (ax 21), .ref (ax 22), .int 0])), ((ax 18), .inl (E 0, 60, .inl (fun _ => 0))), ((ax 19), .inl (E 0, 60, .inl (fun _ => 0))), ((ax 20), .inl (E 0, 60, .inl (fun _ => 0))), ((ax 21), .inl (E 0, 60, .inl (fun _ => 0))), ((ax 22), .inl (E 0, 60, .inl (fun _ => 0))), ((ax 9), .inr (6, [.ref (ax 23), .int 0, .ref (ax 24), .ref (E 5), .int 0, .int 0, .int 0, .int 0])), ((ax 23), .inl (E 0, 120, .inl (fun _ => 0))), ((ax 24), .inr (4, [.ref (ax 25), .ref (ax 26), .ref (ax 27), .int 0])), ((ax 10), .inr (0, [.ref (ax 28), .ref (ax 29), .ref (ax 30), .ref (ax 31), .ref (ax 32), .int 0, .int 0, .int 0, .int 0])), ((ax 28), .inl (E 0, 9, .inl (fun _ => 0))), ((cm 2), .inl (E 0, 400, .inl fm)), ((cm 4), .inl (E 0, 16, .inl (fun _ => 0))), ((cm 5), .inl (E 1, 6400, .inl (fun _ => 0))), ((cm 8), .inl (E 1, 6400, .inl (fun _ => 0))), ((cm 9), .inl (E 1, 6400, .inl (fun _ => 0))), ((cm 10), .inl (E 0, 6400, .inl (fun _ => 0))), ((cm 12), .inl (E 0, 60, .inl (fun _ => 0))), ((cm 13), .inl (E 0, 60, .inl (fun _ => 0))), ((cm 14), .inl (E 0, 60, .inl (fun _ => 0))), ((cm 15), .inl (E 0, 60, .inl (fun _ => 0))), ((cm 16), .inl (E 0, 60, .inl (fun _ => 0))), ((cm 32), .inl (E 2, 120, .inl (fun _ => 0))), ((cm 47), .inl (E 0, 5, .inl (fun _ => 0))), ((cm 55), .inl (E 0, 5, .inl (fun _ => 0))), ((cm 62), .inl (E 0, 9, .inl (fun _ => 0)))]) rfl rfl (by decide) (by decide) (fun r_5 u_3 H locs hw_4 hP hD hS => ?_)
    clear hPc hDc
    have hP : va_P D vwCl [(qx, .inr (8, xF ax 0)), ((ax 0), .inl (E 0, 400, .inl fw)), ((ax 1), .inl (E 0, 16, .inl (fun _ => -5))), ((ax 2), .inl (E 0, 16, .inl (fun _ => 0))), ((ax 3), .inl (E 3, 16, .inr (.inr (.inr (.inr (fun _ => none)))))), ((ax 4), .inl (E 4, 5, .inr (.inr (.inr (.inr (fun j => some (ax (13 + j)))))))), ((ax 13), .inr (5, sF (bx 0))), ((ax 14), .inr (5, sF (bx 1))), ((ax 15), .inr (5, sF (bx 2))), ((ax 16), .inr (5, sF (bx 3))), ((ax 17), .inr (5, sF (bx 4))), ((ax 6), .inr (2, [.ref (ax 18), .ref (ax 19), .ref (ax 20), .ref (ax 21), .ref (ax 22), .int 0])), ((ax 18), .inl (E 0, 60, .inl (fun _ => 0))), ((ax 19), .inl (E 0, 60, .inl (fun _ => 0))), ((ax 20), .inl (E 0, 60, .inl (fun _ => 0))), ((ax 21), .inl (E 0, 60, .inl (fun _ => 0))), ((ax 22), .inl (E 0, 60, .inl (fun _ => 0))), ((ax 9), .inr (6, [.ref (ax 23), .int 0, .ref (ax 24), .ref (E 5), .int 0, .int 0, .int 0, .int 0])), ((ax 23), .inl (E 0, 120, .inl (fun _ => 0))), ((ax 24), .inr (4, [.ref (ax 25), .ref (ax 26), .ref (ax 27), .int 0])), ((ax 10), .inr (0, [.ref (ax 28), .ref (ax 29), .ref (ax 30), .ref (ax 31), .ref (ax 32), .int 0, .int 0, .int 0, .int 0])), ((ax 28), .inl (E 0, 9, .inl (fun _ => 0))), ((cm 2), .inl (E 0, 400, .inl fm)), ((cm 4), .inl (E 0, 16, .inl (fun _ => 0))), ((cm 5), .inl (E 1, 6400, .inl (fun _ => 0))), ((cm 8), .inl (E 1, 6400, .inl (fun _ => 0))), ((cm 9), .inl (E 1, 6400, .inl (fun _ => 0))), ((cm 10), .inl (E 0, 6400, .inl (fun _ => 0))), ((cm 12), .inl (E 0, 60, .inl (fun _ => 0))), ((cm 13), .inl (E 0, 60, .inl (fun _ => 0))), ((cm 14), .inl (E 0, 60, .inl (fun _ => 0))), ((cm 15), .inl (E 0, 60, .inl (fun _ => 0))), ((cm 16), .inl (E 0, 60, .inl (fun _ => 0))), ((cm 32), .inl (E 2, 120, .inl (fun _ => 0))), ((cm 47), .inl (E 0, 5, .inl (fun _ => 0))), ((cm 55), .inl (E 0, 5, .inl (fun _ => 0))), ((cm 62), .inl (E 0, 9, .inl (fun _ => 0)))] H := hP
    have hD : va_D (fun q : Nat => s.heap.size ≤ q) [(qx, .inr (8, xF ax 0)), ((ax 0), .inl (E 0, 400, .inl fw)), ((ax 1), .inl (E 0, 16, .inl (fun _ => -5))), ((ax 2), .inl (E 0, 16, .inl (fun _ => 0))), ((ax 3), .inl (E 3, 16, .inr (.inr (.inr (.inr (fun _ => none)))))), ((ax 4), .inl (E 4, 5, .inr (.inr (.inr (.inr (fun j => some (ax (13 + j)))))))), ((ax 13), .inr (5, sF (bx 0))), ((ax 14), .inr (5, sF (bx 1))), ((ax 15), .inr (5, sF (bx 2))), ((ax 16), .inr (5, sF (bx 3))), ((ax 17), .inr (5, sF (bx 4))), ((ax 6), .inr (2, [.ref (ax 18), .ref (ax 19), .ref (ax 20), .ref (ax 21), .ref (ax 22), .int 0])), ((ax 18), .inl (E 0, 60, .inl (fun _ => 0))), ((ax 19), .inl (E 0, 60, .inl (fun _ => 0))), ((ax 20), .inl (E 0, 60, .inl (fun _ => 0))), ((ax 21), .inl (E 0, 60, .inl (fun _ => 0))), ((ax 22), .inl (E 0, 60, .inl (fun _ => 0))), ((ax 9), .inr (6, [.ref (ax 23), .int 0, .ref (ax 24), .ref (E 5), .int 0, .int 0, .int 0, .int 0])), ((ax 23), .inl (E 0, 120, .inl (fun _ => 0))), ((ax 24), .inr (4, [.ref (ax 25), .ref (ax 26), .ref (ax 27), .int 0])), ((ax 10), .inr (0, [.ref (ax 28), .ref (ax 29), .ref (ax 30), .ref (ax 31), .ref (ax 32), .int 0, .int 0, .int 0, .int 0])), ((ax 28), .inl (E 0, 9, .inl (fun _ => 0))), ((cm 2), .inl (E 0, 400, .inl fm)), ((cm 4), .inl (E 0, 16, .inl (fun _ => 0))), ((cm 5), .inl (E 1, 6400, .inl (fun _ => 0))), ((cm 8), .inl (E 1, 6400, .inl (fun _ => 0))), ((cm 9), .inl (E 1, 6400, .inl (fun _ => 0))), ((cm 10), .inl (E 0, 6400, .inl (fun _ => 0))), ((cm 12), .inl (E 0, 60, .inl (fun _ => 0))), ((cm 13), .inl (E 0, 60, .inl (fun _ => 0))), ((cm 14), .inl (E 0, 60, .inl (fun _ => 0))), ((cm 15), .inl (E 0, 60, .inl (fun _ => 0))), ((cm 16), .inl (E 0, 60, .inl (fun _ => 0))), ((cm 32), .inl (E 2, 120, .inl (fun _ => 0))), ((cm 47), .inl (E 0, 5, .inl (fun _ => 0))), ((cm 55), .inl (E 0, 5, .inl (fun _ => 0))), ((cm 62), .inl (E 0, 9, .inl (fun _ => 0)))] := hD
    rcases hw_4 with ⟨hr_5, hw_4⟩ | ⟨hr_5, hw_4⟩
    ·
      refine W_top (y := .int (-2)) (by rw [hr_5]) ?_
      refine lv_icmp_eq (tgt := 1550) hx hb dL_law_1096 (by decide) (fun c_6 => ?_) (fun c_6 => absurd rfl c_6)
      exact law_end hx hb hr hml hown htb hX hbl hlocks hS (lv_sub hl [0, 3] rfl) (Nat.le_of_ble_eq_true rfl) (Nat.le_of_ble_eq_true rfl)
    ·
      refine W_top (y := .int (-1)) (by rw [hr_5]) ?_
      exfalso; omega
  ·
    refine W_top (y := .int (-1)) (by rw [hr_2]) ?_
    refine lv_aload_n hx hb dL_law_1072 rfl (lv_at hl 1 rfl) ?_
    refine lv_aload_n hx hb dL_law_1073 rfl (lv_at hl 3 rfl) ?_
    refine lv_iload_n hx hb dL_law_1074 rfl (lv_at hl 0 rfl) ?_
    refine lv_iconst (v := 1) hx hb dL_law_1075 (by decide) ?_
    refine lv_iadd hx hb dL_law_1076 ?_
    refine W_top (y := .int 1) (by decide) ?_
    refine va_sld hx hb hX hbl hbA hS (g_in t_1 (by decide) (by decide)) dL_law_1077 ?_
    refine W_top (y := .int (xs 1)) (congrArg (fun n => Value.int (xs n)) (by decide : (1 : Int32).toNatClampNeg = 1)) ?_
    refine lv_aload_n hx hb dL_law_1078 rfl (lv_at hl 3 rfl) ?_
    refine lv_iload_n hx hb dL_law_1079 rfl (lv_at hl 0 rfl) ?_
    refine lv_iconst (v := 2) hx hb dL_law_1080 (by decide) ?_
    refine lv_iadd hx hb dL_law_1081 ?_
    refine W_top (y := .int 2) (by decide) ?_
    refine va_sld hx hb hX hbl hbA hS (g_in t_2 (by decide) (by decide)) dL_law_1082 ?_
    refine W_top (y := .int (xs 2)) (congrArg (fun n => Value.int (xs n)) (by decide : (2 : Int32).toNatClampNeg = 2)) ?_
    refine lv_aload_n hx hb dL_law_1083 rfl (lv_at hl 3 rfl) ?_
    refine lv_iload_n hx hb dL_law_1084 rfl (lv_at hl 0 rfl) ?_
    refine lv_iconst (v := 3) hx hb dL_law_1085 (by decide) ?_
    refine lv_iadd hx hb dL_law_1086 ?_
    refine W_top (y := .int 3) (by decide) ?_
    refine va_sld hx hb hX hbl hbA hS (g_in t_3 (by decide) (by decide)) dL_law_1087 ?_
    refine W_top (y := .int (xs 3)) (congrArg (fun n => Value.int (xs n)) (by decide : (3 : Int32).toNatClampNeg = 3)) ?_
    refine lv_aload_n hx hb dL_law_1088 rfl (lv_at hl 3 rfl) ?_
    refine lv_iload_n hx hb dL_law_1089 rfl (lv_at hl 0 rfl) ?_
    refine lv_iconst (v := 4) hx hb dL_law_1090 (by decide) ?_
    refine lv_iadd hx hb dL_law_1091 ?_
    refine W_top (y := .int 4) (by decide) ?_
    refine va_sld hx hb hX hbl hbA hS (g_in t_4 (by decide) (by decide)) dL_law_1092 ?_
    refine W_top (y := .int (xs 4)) (congrArg (fun n => Value.int (xs n)) (by decide : (4 : Int32).toNatClampNeg = 4)) ?_
    have hPc := hP.sub (ws' := [(qm, .inr (9, mF cm 0 0 0 0 0 0 0 0 0)), ((cm 3), .inl (E 0, 16, .inl (fun _ => -5))), ((cm 58), .inl (E 0, 3, .inl (fun _ => 0)))]) [22, 24, 38] rfl
    have hDc := hD.sub (ws' := [(qm, .inr (9, mF cm 0 0 0 0 0 0 0 0 0)), ((cm 3), .inl (E 0, 16, .inl (fun _ => -5))), ((cm 58), .inl (E 0, 3, .inl (fun _ => 0)))]) [22, 24, 38] (by decide) rfl
    refine aft_i (runMV (rest := [.int (-1)]) (As := [.int (xs 1), .int (xs 2), .int (xs 3), .int (xs 4)]) hx hb hml hown htb hK (c_X9_sail l D E qm cm (xs 1) (xs 2) (xs 3) (xs 4) _ ) ok_X9_sail k_1410 k_1411 k_1412 k_9 k_1413 ⟨(Nat.le_of_ble_eq_true rfl), (Nat.le_of_ble_eq_true rfl)⟩ ⟨(Nat.le_of_ble_eq_true rfl), (Nat.le_of_ble_eq_true rfl)⟩ hl.1 (Nat.le_of_ble_eq_true rfl) rfl rfl dL_law_1093 hPc hDc rfl rfl 0 rfl) hP hD hS hA [22, 24, 38] [0, 1, 2, 3, 4, 5, 6, 7, 8, 9, 10, 11, 12, 13, 14, 15, 16, 17, 18, 19, 20, 21, 23, 25, 26, 27, 28, 29, 30, 31, 32, 33, 34, 35, 36, 37, 39] (wr := [(qx, .inr (8, xF ax 0)), ((ax 0), .inl (E 0, 400, .inl fw)), ((ax 1), .inl (E 0, 16, .inl (fun _ => -5))), ((ax 2), .inl (E 0, 16, .inl (fun _ => 0))), ((ax 3), .inl (E 3, 16, .inr (.inr (.inr (.inr (fun _ => none)))))), ((ax 4), .inl (E 4, 5, .inr (.inr (.inr (.inr (fun j => some (ax (13 + j)))))))), ((ax 13), .inr (5, sF (bx 0))), ((ax 14), .inr (5, sF (bx 1))), ((ax 15), .inr (5, sF (bx 2))), ((ax 16), .inr (5, sF (bx 3))), ((ax 17), .inr (5, sF (bx 4))), ((ax 6), .inr (2, [.ref (ax 18), .ref (ax 19), .ref (ax 20), .ref (ax 21), .ref (ax 22), .int 0])), ((ax 18), .inl (E 0, 60, .inl (fun _ => 0))), ((ax 19), .inl (E 0, 60, .inl (fun _ => 0))), ((ax 20), .inl (E 0, 60, .inl (fun _ => 0))), ((ax 21), .inl (E 0, 60, .inl (fun _ => 0))), ((ax 22), .inl (E 0, 60, .inl (fun _ => 0))), ((ax 9), .inr (6, [.ref (ax 23), .int 0, .ref (ax 24), .ref (E 5), .int 0, .int 0, .int 0, .int 0])), ((ax 23), .inl (E 0, 120, .inl (fun _ => 0))), ((ax 24), .inr (4, [.ref (ax 25), .ref (ax 26), .ref (ax 27), .int 0])), ((ax 10), .inr (0, [.ref (ax 28), .ref (ax 29), .ref (ax 30), .ref (ax 31), .ref (ax 32), .int 0, .int 0, .int 0, .int 0])), ((ax 28), .inl (E 0, 9, .inl (fun _ => 0))), ((cm 2), .inl (E 0, 400, .inl fm)), ((cm 4), .inl (E 0, 16, .inl (fun _ => 0))), ((cm 5), .inl (E 1, 6400, .inl (fun _ => 0))), ((cm 8), .inl (E 1, 6400, .inl (fun _ => 0))), ((cm 9), .inl (E 1, 6400, .inl (fun _ => 0))), ((cm 10), .inl (E 0, 6400, .inl (fun _ => 0))), ((cm 12), .inl (E 0, 60, .inl (fun _ => 0))), ((cm 13), .inl (E 0, 60, .inl (fun _ => 0))), ((cm 14), .inl (E 0, 60, .inl (fun _ => 0))), ((cm 15), .inl (E 0, 60, .inl (fun _ => 0))), ((cm 16), .inl (E 0, 60, .inl (fun _ => 0))), ((cm 32), .inl (E 2, 120, .inl (fun _ => 0))), ((cm 47), .inl (E 0, 5, .inl (fun _ => 0))), ((cm 55), .inl (E 0, 5, .inl (fun _ => 0))), ((cm 62), .inl (E 0, 9, .inl (fun _ => 0)))]) rfl rfl (by decide) (by decide) (fun r_9 u_7 H locs hw_8 hP hD hS => ?_)
    clear hPc hDc
    have hP : va_P D vwCl [(qx, .inr (8, xF ax 0)), ((ax 0), .inl (E 0, 400, .inl fw)), ((ax 1), .inl (E 0, 16, .inl (fun _ => -5))), ((ax 2), .inl (E 0, 16, .inl (fun _ => 0))), ((ax 3), .inl (E 3, 16, .inr (.inr (.inr (.inr (fun _ => none)))))), ((ax 4), .inl (E 4, 5, .inr (.inr (.inr (.inr (fun j => some (ax (13 + j)))))))), ((ax 13), .inr (5, sF (bx 0))), ((ax 14), .inr (5, sF (bx 1))), ((ax 15), .inr (5, sF (bx 2))), ((ax 16), .inr (5, sF (bx 3))), ((ax 17), .inr (5, sF (bx 4))), ((ax 6), .inr (2, [.ref (ax 18), .ref (ax 19), .ref (ax 20), .ref (ax 21), .ref (ax 22), .int 0])), ((ax 18), .inl (E 0, 60, .inl (fun _ => 0))), ((ax 19), .inl (E 0, 60, .inl (fun _ => 0))), ((ax 20), .inl (E 0, 60, .inl (fun _ => 0))), ((ax 21), .inl (E 0, 60, .inl (fun _ => 0))), ((ax 22), .inl (E 0, 60, .inl (fun _ => 0))), ((ax 9), .inr (6, [.ref (ax 23), .int 0, .ref (ax 24), .ref (E 5), .int 0, .int 0, .int 0, .int 0])), ((ax 23), .inl (E 0, 120, .inl (fun _ => 0))), ((ax 24), .inr (4, [.ref (ax 25), .ref (ax 26), .ref (ax 27), .int 0])), ((ax 10), .inr (0, [.ref (ax 28), .ref (ax 29), .ref (ax 30), .ref (ax 31), .ref (ax 32), .int 0, .int 0, .int 0, .int 0])), ((ax 28), .inl (E 0, 9, .inl (fun _ => 0))), ((cm 2), .inl (E 0, 400, .inl fm)), ((cm 4), .inl (E 0, 16, .inl (fun _ => 0))), ((cm 5), .inl (E 1, 6400, .inl (fun _ => 0))), ((cm 8), .inl (E 1, 6400, .inl (fun _ => 0))), ((cm 9), .inl (E 1, 6400, .inl (fun _ => 0))), ((cm 10), .inl (E 0, 6400, .inl (fun _ => 0))), ((cm 12), .inl (E 0, 60, .inl (fun _ => 0))), ((cm 13), .inl (E 0, 60, .inl (fun _ => 0))), ((cm 14), .inl (E 0, 60, .inl (fun _ => 0))), ((cm 15), .inl (E 0, 60, .inl (fun _ => 0))), ((cm 16), .inl (E 0, 60, .inl (fun _ => 0))), ((cm 32), .inl (E 2, 120, .inl (fun _ => 0))), ((cm 47), .inl (E 0, 5, .inl (fun _ => 0))), ((cm 55), .inl (E 0, 5, .inl (fun _ => 0))), ((cm 62), .inl (E 0, 9, .inl (fun _ => 0)))] H := hP
    have hD : va_D (fun q : Nat => s.heap.size ≤ q) [(qx, .inr (8, xF ax 0)), ((ax 0), .inl (E 0, 400, .inl fw)), ((ax 1), .inl (E 0, 16, .inl (fun _ => -5))), ((ax 2), .inl (E 0, 16, .inl (fun _ => 0))), ((ax 3), .inl (E 3, 16, .inr (.inr (.inr (.inr (fun _ => none)))))), ((ax 4), .inl (E 4, 5, .inr (.inr (.inr (.inr (fun j => some (ax (13 + j)))))))), ((ax 13), .inr (5, sF (bx 0))), ((ax 14), .inr (5, sF (bx 1))), ((ax 15), .inr (5, sF (bx 2))), ((ax 16), .inr (5, sF (bx 3))), ((ax 17), .inr (5, sF (bx 4))), ((ax 6), .inr (2, [.ref (ax 18), .ref (ax 19), .ref (ax 20), .ref (ax 21), .ref (ax 22), .int 0])), ((ax 18), .inl (E 0, 60, .inl (fun _ => 0))), ((ax 19), .inl (E 0, 60, .inl (fun _ => 0))), ((ax 20), .inl (E 0, 60, .inl (fun _ => 0))), ((ax 21), .inl (E 0, 60, .inl (fun _ => 0))), ((ax 22), .inl (E 0, 60, .inl (fun _ => 0))), ((ax 9), .inr (6, [.ref (ax 23), .int 0, .ref (ax 24), .ref (E 5), .int 0, .int 0, .int 0, .int 0])), ((ax 23), .inl (E 0, 120, .inl (fun _ => 0))), ((ax 24), .inr (4, [.ref (ax 25), .ref (ax 26), .ref (ax 27), .int 0])), ((ax 10), .inr (0, [.ref (ax 28), .ref (ax 29), .ref (ax 30), .ref (ax 31), .ref (ax 32), .int 0, .int 0, .int 0, .int 0])), ((ax 28), .inl (E 0, 9, .inl (fun _ => 0))), ((cm 2), .inl (E 0, 400, .inl fm)), ((cm 4), .inl (E 0, 16, .inl (fun _ => 0))), ((cm 5), .inl (E 1, 6400, .inl (fun _ => 0))), ((cm 8), .inl (E 1, 6400, .inl (fun _ => 0))), ((cm 9), .inl (E 1, 6400, .inl (fun _ => 0))), ((cm 10), .inl (E 0, 6400, .inl (fun _ => 0))), ((cm 12), .inl (E 0, 60, .inl (fun _ => 0))), ((cm 13), .inl (E 0, 60, .inl (fun _ => 0))), ((cm 14), .inl (E 0, 60, .inl (fun _ => 0))), ((cm 15), .inl (E 0, 60, .inl (fun _ => 0))), ((cm 16), .inl (E 0, 60, .inl (fun _ => 0))), ((cm 32), .inl (E 2, 120, .inl (fun _ => 0))), ((cm 47), .inl (E 0, 5, .inl (fun _ => 0))), ((cm 55), .inl (E 0, 5, .inl (fun _ => 0))), ((cm 62), .inl (E 0, 9, .inl (fun _ => 0)))] := hD
    rcases hw_8 with ⟨hr_9, hw_8⟩ | ⟨hr_9, hw_8⟩
    ·
      refine W_top (y := .int (-2)) (by rw [hr_9]) ?_
      exfalso; omega
    ·
      refine W_top (y := .int (-1)) (by rw [hr_9]) ?_
      refine lv_icmp_eq (tgt := 1550) hx hb dL_law_1096 (by decide) (fun c_10 => ?_) (fun c_10 => absurd rfl c_10)
      exact law_end hx hb hr hml hown htb hX hbl hlocks hS (lv_sub hl [0, 3] rfl) (Nat.le_of_ble_eq_true rfl) (Nat.le_of_ble_eq_true rfl)
set_option maxHeartbeats 4000000 in
set_option maxRecDepth 100000 in
theorem law_23 {p : Program} {l : Launch} {e : Env} {s : State} {m : MethodId} {below : List Frame} {meth : Method} {c : Code} {D : va_G} {E : Nat → Nat} {b : Nat} {xs : Nat → Int32} {qx : Nat} {ax : Nat → Nat} {bx : Nat → Nat → Nat} {fw : Nat → Int32} {qm : Nat} {cm : Nat → Nat} {fm : Nat → Int32} {H : Heap} {locs : List Loc} {ls : Array Slot} (hx : p.tables.exec = Jvm.exec) (hb : c.code = code) (hr : meth.sig.returnType = ret) (hml : c.maxLocals = 4) (hown : s.vm.findClass R_law = some m.cls) (htb : ∀ w ∈ tb, w.before #[Value.ref b] s = true) (hK : KX D E s) (hX : va_X b 6 xs s s.heap) (hbl : b < s.heap.size) (hlocks : meth.locks = false) (hP : va_P D vwCl (LW E qx ax bx fw qm cm fm) H) (hD : va_D (fun q : Nat => s.heap.size ≤ q) (LW E qx ax bx fw qm cm fm)) (hS : va_S (fun q : Nat => s.heap.size ≤ q) s.heap H locs) (hl : lv_has ls 4 [(3, .int 0), (2, .ref qm), (1, .ref qx), (0, .ref b)]) : W p l e room_1 s m #[Value.ref b] below meth c H locs 123 44666 (lw_Z below #[Value.ref b] s) (F0 m 1101 ls []) := by
  have hA : ∀ q : Nat, s.heap.size ≤ q → (fun q : Nat => s.heap.size ≤ q) q := fun _ h => h
  have hbA : ¬ (fun q : Nat => s.heap.size ≤ q) b := Nat.not_le.mpr hbl
  refine lv_aload_n hx hb dL_law_1101 rfl (lv_at hl 2 rfl) ?_
  refine lv_aload_n hx hb dL_law_1102 rfl (lv_at hl 3 rfl) ?_
  refine lv_iload_n hx hb dL_law_1103 rfl (lv_at hl 0 rfl) ?_
  refine lv_iconst (v := 1) hx hb dL_law_1104 (by decide) ?_
  refine lv_iadd hx hb dL_law_1105 ?_
  refine W_top (y := .int 1) (by decide) ?_
  refine va_sld hx hb hX hbl hbA hS (g_in t_1 (by decide) (by decide)) dL_law_1106 ?_
  refine W_top (y := .int (xs 1)) (congrArg (fun n => Value.int (xs n)) (by decide : (1 : Int32).toNatClampNeg = 1)) ?_
  refine lv_aload_n hx hb dL_law_1107 rfl (lv_at hl 3 rfl) ?_
  refine lv_iload_n hx hb dL_law_1108 rfl (lv_at hl 0 rfl) ?_
  refine lv_iconst (v := 2) hx hb dL_law_1109 (by decide) ?_
  refine lv_iadd hx hb dL_law_1110 ?_
  refine W_top (y := .int 2) (by decide) ?_
  refine va_sld hx hb hX hbl hbA hS (g_in t_2 (by decide) (by decide)) dL_law_1111 ?_
  refine W_top (y := .int (xs 2)) (congrArg (fun n => Value.int (xs n)) (by decide : (2 : Int32).toNatClampNeg = 2)) ?_
  refine lv_aload_n hx hb dL_law_1112 rfl (lv_at hl 3 rfl) ?_
  refine lv_iload_n hx hb dL_law_1113 rfl (lv_at hl 0 rfl) ?_
  refine lv_iconst (v := 3) hx hb dL_law_1114 (by decide) ?_
  refine lv_iadd hx hb dL_law_1115 ?_
  refine W_top (y := .int 3) (by decide) ?_
  refine va_sld hx hb hX hbl hbA hS (g_in t_3 (by decide) (by decide)) dL_law_1116 ?_
  refine W_top (y := .int (xs 3)) (congrArg (fun n => Value.int (xs n)) (by decide : (3 : Int32).toNatClampNeg = 3)) ?_
  refine callRV (rest := []) (As := [.int (xs 1), .int (xs 2), .int (xs 3)]) hx hb hml hown htb hK (c_X8_carried l D E qx ax bx (xs 1) (xs 2) (xs 3) ) ok_X8_carried k_808 k_809 k_810 k_1 k_811 ⟨(Nat.le_of_ble_eq_true rfl), (Nat.le_of_ble_eq_true rfl)⟩ ⟨(Nat.le_of_ble_eq_true rfl), (Nat.le_of_ble_eq_true rfl)⟩ hl.1 (Nat.le_of_ble_eq_true rfl) rfl rfl dL_law_1117 (hP.sub (ws' := [(qx, .inr (8, xF ax 0)), ((ax 4), .inl (E 4, 5, .inr (.inr (.inr (.inr (fun j => some (ax (13 + j)))))))), ((ax 13), .inr (5, sF (bx 0))), ((ax 14), .inr (5, sF (bx 1))), ((ax 15), .inr (5, sF (bx 2))), ((ax 16), .inr (5, sF (bx 3))), ((ax 17), .inr (5, sF (bx 4)))]) [0, 5, 6, 7, 8, 9, 10] rfl) rfl rfl 0 rfl (fun r_2 hw_1 => ?_)
  obtain ⟨hr_2, hw_1⟩ := hw_1
  refine W_top (y := .int (-2000000000)) (by rw [hr_2]) ?_
  refine lv_aload_n hx hb dL_law_1120 rfl (lv_at hl 1 rfl) ?_
  refine lv_aload_n hx hb dL_law_1121 rfl (lv_at hl 3 rfl) ?_
  refine lv_iload_n hx hb dL_law_1122 rfl (lv_at hl 0 rfl) ?_
  refine lv_iconst (v := 1) hx hb dL_law_1123 (by decide) ?_
  refine lv_iadd hx hb dL_law_1124 ?_
  refine W_top (y := .int 1) (by decide) ?_
  refine va_sld hx hb hX hbl hbA hS (g_in t_1 (by decide) (by decide)) dL_law_1125 ?_
  refine W_top (y := .int (xs 1)) (congrArg (fun n => Value.int (xs n)) (by decide : (1 : Int32).toNatClampNeg = 1)) ?_
  refine lv_aload_n hx hb dL_law_1126 rfl (lv_at hl 3 rfl) ?_
  refine lv_iload_n hx hb dL_law_1127 rfl (lv_at hl 0 rfl) ?_
  refine lv_iconst (v := 2) hx hb dL_law_1128 (by decide) ?_
  refine lv_iadd hx hb dL_law_1129 ?_
  refine W_top (y := .int 2) (by decide) ?_
  refine va_sld hx hb hX hbl hbA hS (g_in t_2 (by decide) (by decide)) dL_law_1130 ?_
  refine W_top (y := .int (xs 2)) (congrArg (fun n => Value.int (xs n)) (by decide : (2 : Int32).toNatClampNeg = 2)) ?_
  refine lv_aload_n hx hb dL_law_1131 rfl (lv_at hl 3 rfl) ?_
  refine lv_iload_n hx hb dL_law_1132 rfl (lv_at hl 0 rfl) ?_
  refine lv_iconst (v := 3) hx hb dL_law_1133 (by decide) ?_
  refine lv_iadd hx hb dL_law_1134 ?_
  refine W_top (y := .int 3) (by decide) ?_
  refine va_sld hx hb hX hbl hbA hS (g_in t_3 (by decide) (by decide)) dL_law_1135 ?_
  refine W_top (y := .int (xs 3)) (congrArg (fun n => Value.int (xs n)) (by decide : (3 : Int32).toNatClampNeg = 3)) ?_
  refine callRV (rest := [.int (-2000000000)]) (As := [.int (xs 1), .int (xs 2), .int (xs 3)]) hx hb hml hown htb hK (c_X9_carried l D E qm cm (xs 1) (xs 2) (xs 3) ) ok_X9_carried k_1425 k_1426 k_1427 k_9 k_1428 ⟨(Nat.le_of_ble_eq_true rfl), (Nat.le_of_ble_eq_true rfl)⟩ ⟨(Nat.le_of_ble_eq_true rfl), (Nat.le_of_ble_eq_true rfl)⟩ hl.1 (Nat.le_of_ble_eq_true rfl) rfl rfl dL_law_1136 (hP.sub (ws' := [(qm, .inr (9, mF cm 0 0 0 0 0 0 0 0 0)), ((cm 47), .inl (E 0, 5, .inl (fun _ => 0)))]) [22, 36] rfl) rfl rfl 0 rfl (fun r_4 hw_3 => ?_)
  obtain ⟨hr_4, hw_3⟩ := hw_3
  refine W_top (y := .int (-2000000000)) (by rw [hr_4]) ?_
  refine lv_icmp_eq (tgt := 1550) hx hb dL_law_1139 (by decide) (fun c_5 => ?_) (fun c_5 => absurd rfl c_5)
  exact law_end hx hb hr hml hown htb hX hbl hlocks hS (lv_sub hl [0, 3] rfl) (Nat.le_of_ble_eq_true rfl) (Nat.le_of_ble_eq_true rfl)
