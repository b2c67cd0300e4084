set_option maxHeartbeats 4000000 in
set_option maxRecDepth 100000 in
theorem law_24 {p : Program} {l : Launch} {e : Env} {s : State} {m : MethodId} {below : List Frame} {meth : Method} {c : Code} {D : va_G} {E : Nat → Nat} {b : Nat} {xs : Nat → Int32} {qx : Nat} {ax : Nat → Nat} {bx : Nat → Nat → Nat} {fw : Nat → Int32} {qm : Nat} {cm : Nat → Nat} {fm : Nat → Int32} {H : Heap} {locs : List Loc} {ls : Array Slot} (hx : p.tables.exec = Jvm.exec) (hb : c.code = code) (hr : meth.sig.returnType = ret) (hml : c.maxLocals = 4) (hown : s.vm.findClass R_law = some m.cls) (htb : ∀ w ∈ tb, w.before #[Value.ref b] s = true) (hK : KX D E s) (hX : va_X b 6 xs s s.heap) (hbl : b < s.heap.size) (hlocks : meth.locks = false) (hP : va_P D vwCl (LW E qx ax bx fw qm cm fm) H) (hD : va_D (fun q : Nat => s.heap.size ≤ q) (LW E qx ax bx fw qm cm fm)) (hS : va_S (fun q : Nat => s.heap.size ≤ q) s.heap H locs) (hl : lv_has ls 4 [(3, .int 0), (2, .ref qm), (1, .ref qx), (0, .ref b)]) : W p l e room_1 s m #[Value.ref b] below meth c H locs 123 44666 (lw_Z below #[Value.ref b] s) (F0 m 1144 ls []) := by
  have hA : ∀ q : Nat, s.heap.size ≤ q → (fun q : Nat => s.heap.size ≤ q) q := fun _ h => h
  have hbA : ¬ (fun q : Nat => s.heap.size ≤ q) b := Nat.not_le.mpr hbl
  refine lv_aload_n hx hb dL_law_1144 rfl (lv_at hl 2 rfl) ?_
  refine lv_aload_n hx hb dL_law_1145 rfl (lv_at hl 3 rfl) ?_
  refine lv_iload_n hx hb dL_law_1146 rfl (lv_at hl 0 rfl) ?_
  refine lv_iconst (v := 1) hx hb dL_law_1147 (by decide) ?_
  refine lv_iadd hx hb dL_law_1148 ?_
  refine W_top (y := .int 1) (by decide) ?_
  refine va_sld hx hb hX hbl hbA hS (g_in t_1 (by decide) (by decide)) dL_law_1149 ?_
  refine W_top (y := .int (xs 1)) (congrArg (fun n => Value.int (xs n)) (by decide : (1 : Int32).toNatClampNeg = 1)) ?_
  refine lv_aload_n hx hb dL_law_1150 rfl (lv_at hl 3 rfl) ?_
  refine lv_iload_n hx hb dL_law_1151 rfl (lv_at hl 0 rfl) ?_
  refine lv_iconst (v := 2) hx hb dL_law_1152 (by decide) ?_
  refine lv_iadd hx hb dL_law_1153 ?_
  refine W_top (y := .int 2) (by decide) ?_
  refine va_sld hx hb hX hbl hbA hS (g_in t_2 (by decide) (by decide)) dL_law_1154 ?_
  refine W_top (y := .int (xs 2)) (congrArg (fun n => Value.int (xs n)) (by decide : (2 : Int32).toNatClampNeg = 2)) ?_
  refine lv_aload_n hx hb dL_law_1155 rfl (lv_at hl 3 rfl) ?_
  refine lv_iload_n hx hb dL_law_1156 rfl (lv_at hl 0 rfl) ?_
  refine lv_iconst (v := 3) hx hb dL_law_1157 (by decide) ?_
  refine lv_iadd hx hb dL_law_1158 ?_
  refine W_top (y := .int 3) (by decide) ?_
  refine va_sld hx hb hX hbl hbA hS (g_in t_3 (by decide) (by decide)) dL_law_1159 ?_
  refine W_top (y := .int (xs 3)) (congrArg (fun n => Value.int (xs n)) (by decide : (3 : Int32).toNatClampNeg = 3)) ?_
  refine lv_aload_n hx hb dL_law_1160 rfl (lv_at hl 3 rfl) ?_
  refine lv_iload_n hx hb dL_law_1161 rfl (lv_at hl 0 rfl) ?_
  refine lv_iconst (v := 4) hx hb dL_law_1162 (by decide) ?_
  refine lv_iadd hx hb dL_law_1163 ?_
  refine W_top (y := .int 4) (by decide) ?_
  refine va_sld hx hb hX hbl hbA hS (g_in t_4 (by decide) (by decide)) dL_law_1164 ?_
  refine W_top (y := .int (xs 4)) (congrArg (fun n => Value.int (xs n)) (by decide : (4 : Int32).toNatClampNeg = 4)) ?_
  refine lv_aload_n hx hb dL_law_1165 rfl (lv_at hl 3 rfl) ?_
  refine lv_iload_n hx hb dL_law_1166 rfl (lv_at hl 0 rfl) ?_
  refine lv_iconst (v := 5) hx hb dL_law_1167 (by decide) ?_
  refine lv_iadd hx hb dL_law_1168 ?_
  refine W_top (y := .int 5) (by decide) ?_
  refine va_sld hx hb hX hbl hbA hS (g_in t_5 (by decide) (by decide)) dL_law_1169 ?_
  refine W_top (y := .int (xs 5)) (congrArg (fun n => Value.int (xs n)) (by decide : (5 : Int32).toNatClampNeg = 5)) ?_
  refine callRV (rest := []) (As := [.int (xs 1), .int (xs 2), .int (xs 3), .int (xs 4), .int (xs 5)]) hx hb hml hown htb hK (c_X8_sight l D E qx ax bx (xs 1) (xs 2) (xs 3) (xs 4) (xs 5) ) ok_X8_sight k_812 k_813 k_814 k_1 k_815 ⟨(Nat.le_of_ble_eq_true rfl), (Nat.le_of_ble_eq_true rfl)⟩ ⟨(Nat.le_of_ble_eq_true rfl), (Nat.le_of_ble_eq_true rfl)⟩ hl.1 (Nat.le_of_ble_eq_true rfl) rfl rfl dL_law_1170 (hP.sub (ws' := [(qx, .inr (8, xF ax 0)), ((ax 4), .inl (E 4, 5, .inr (.inr (.inr (.inr (fun j => some (ax (13 + j)))))))), ((ax 13), .inr (5, sF (bx 0))), ((ax 14), .inr (5, sF (bx 1))), ((ax 15), .inr (5, sF (bx 2))), ((ax 16), .inr (5, sF (bx 3))), ((ax 17), .inr (5, sF (bx 4)))]) [0, 5, 6, 7, 8, 9, 10] rfl) rfl rfl 0 rfl (fun r_2 hw_1 => ?_)
  rcases hw_1 with ⟨hr_2, hw_1⟩ | ⟨hr_2, hw_1⟩
  ·
    refine W_top (y := .int (-4)) (by rw [hr_2]) ?_
    refine lv_aload_n hx hb dL_law_1173 rfl (lv_at hl 1 rfl) ?_
    refine lv_aload_n hx hb dL_law_1174 rfl (lv_at hl 3 rfl) ?_
    refine lv_iload_n hx hb dL_law_1175 rfl (lv_at hl 0 rfl) ?_
    refine lv_iconst (v := 1) hx hb dL_law_1176 (by decide) ?_
    refine lv_iadd hx hb dL_law_1177 ?_
    refine W_top (y := .int 1) (by decide) ?_
    refine va_sld hx hb hX hbl hbA hS (g_in t_1 (by decide) (by decide)) dL_law_1178 ?_
    refine W_top (y := .int (xs 1)) (congrArg (fun n => Value.int (xs n)) (by decide : (1 : Int32).toNatClampNeg = 1)) ?_
    refine lv_aload_n hx hb dL_law_1179 rfl (lv_at hl 3 rfl) ?_
    refine lv_iload_n hx hb dL_law_1180 rfl (lv_at hl 0 rfl) ?_
    refine lv_iconst (v := 2) hx hb dL_law_1181 (by decide) ?_
    refine lv_iadd hx hb dL_law_1182 ?_
    refine W_top (y := .int 2) (by decide) ?_
    refine va_sld hx hb hX hbl hbA hS (g_in t_2 (by decide) (by decide)) dL_law_1183 ?_
    refine W_top (y := .int (xs 2)) (congrArg (fun n => Value.int (xs n)) (by decide : (2 : Int32).toNatClampNeg = 2)) ?_
    refine lv_aload_n hx hb dL_law_1184 rfl (lv_at hl 3 rfl) ?_
    refine lv_iload_n hx hb dL_law_1185 rfl (lv_at hl 0 rfl) ?_
    refine lv_iconst (v := 3) hx hb dL_law_1186 (by decide) ?_
    refine lv_iadd hx hb dL_law_1187 ?_
    refine W_top (y := .int 3) (by decide) ?_
    refine va_sld hx hb hX hbl hbA hS (g_in t_3 (by decide) (by decide)) dL_law_1188 ?_
    refine W_top (y := .int (xs 3)) (congrArg (fun n => Value.int (xs n)) (by decide : (3 : Int32).toNatClampNeg = 3)) ?_
    refine lv_aload_n hx hb dL_law_1189 rfl (lv_at hl 3 rfl) ?_
    refine lv_iload_n hx hb dL_law_1190 rfl (lv_at hl 0 rfl) ?_
    refine lv_iconst (v := 4) hx hb dL_law_1191 (by decide) ?_
    refine lv_iadd hx hb dL_law_1192 ?_
    refine W_top (y := .int 4) (by decide) ?_
    refine va_sld hx hb hX hbl hbA hS (g_in t_4 (by decide) (by decide)) dL_law_1193 ?_
    refine W_top (y := .int (xs 4)) (congrArg (fun n => Value.int (xs n)) (by decide : (4 : Int32).toNatClampNeg = 4)) ?_
    refine lv_aload_n hx hb dL_law_1194 rfl (lv_at hl 3 rfl) ?_
    refine lv_iload_n hx hb dL_law_1195 rfl (lv_at hl 0 rfl) ?_
    refine lv_iconst (v := 5) hx hb dL_law_1196 (by decide) ?_
    refine lv_iadd hx hb dL_law_1197 ?_
    refine W_top (y := .int 5) (by decide) ?_
    refine va_sld hx hb hX hbl hbA hS (g_in t_5 (by decide) (by decide)) dL_law_1198 ?_
    refine W_top (y := .int (xs 5)) (congrArg (fun n => Value.int (xs n)) (by decide : (5 : Int32).toNatClampNeg = 5)) ?_
    refine callRV (rest := [.int (-4)]) (As := [.int (xs 1), .int (xs 2), .int (xs 3), .int (xs 4), .int (xs 5)]) hx hb hml hown htb hK (c_X9_sight l D E qm cm (xs 1) (xs 2) (xs 3) (xs 4) (xs 5) ) ok_X9_sight k_1429 k_1430 k_1431 k_9 k_1432 ⟨(Nat.le_of_ble_eq_true rfl), (Nat.le_of_ble_eq_true rfl)⟩ ⟨(Nat.le_of_ble_eq_true rfl), (Nat.le_of_ble_eq_true rfl)⟩ hl.1 (Nat.le_of_ble_eq_true rfl) rfl rfl dL_law_1199 (hP.sub (ws' := [(qm, .inr (9, mF cm 0 0 0 0 0 0 0 0 0)), ((cm 47), .inl (E 0, 5, .inl (fun _ => 0)))]) [22, 36] rfl) rfl rfl 0 rfl (fun r_4 hw_3 => ?_)
    rcases hw_3 with ⟨hr_4, hw_3⟩ | ⟨hr_4, hw_3⟩
    ·
      refine W_top (y := .int (-4)) (by rw [hr_4]) ?_
      refine lv_icmp_eq (tgt := 1550) hx hb dL_law_1202 (by decide) (fun c_5 => ?_) (fun c_5 => absurd rfl c_5)
      exact law_end hx hb hr hml hown htb hX hbl hlocks hS (lv_sub hl [0, 3] rfl) (Nat.le_of_ble_eq_true rfl) (Nat.le_of_ble_eq_true rfl)
    ·
      refine W_top (y := .int (-1)) (by rw [hr_4]) ?_
      exfalso; omega
  ·
    refine W_top (y := .int (-1)) (by rw [hr_2]) ?_
    refine lv_aload_n hx hb dL_law_1173 rfl (lv_at hl 1 rfl) ?_
    refine lv_aload_n hx hb dL_law_1174 rfl (lv_at hl 3 rfl) ?_
    refine lv_iload_n hx hb dL_law_1175 rfl (lv_at hl 0 rfl) ?_
    refine lv_iconst (v := 1) hx hb dL_law_1176 (by decide) ?_
    refine lv_iadd hx hb dL_law_1177 ?_
    refine W_top (y := .int 1) (by decide) ?_
    refine va_sld hx hb hX hbl hbA hS (g_in t_1 (by decide) (by decide)) dL_law_1178 ?_
    refine W_top (y := .int (xs 1)) (congrArg (fun n => Value.int (xs n)) (by decide : (1 : Int32).toNatClampNeg = 1)) ?_
    refine lv_aload_n hx hb dL_law_1179 rfl (lv_at hl 3 rfl) ?_
    refine lv_iload_n hx hb dL_law_1180 rfl (lv_at hl 0 rfl) ?_
    refine lv_iconst (v := 2) hx hb dL_law_1181 (by decide) ?_
    refine lv_iadd hx hb dL_law_1182 ?_
    refine W_top (y := .int 2) (by decide) ?_
    refine va_sld hx hb hX hbl hbA hS (g_in t_2 (by decide) (by decide)) dL_law_1183 ?_
    refine W_top (y := .int (xs 2)) (congrArg (fun n => Value.int (xs n)) (by decide : (2 : Int32).toNatClampNeg = 2)) ?_
    refine lv_aload_n hx hb dL_law_1184 rfl (lv_at hl 3 rfl) ?_
    refine lv_iload_n hx hb dL_law_1185 rfl (lv_at hl 0 rfl) ?_
    refine lv_iconst (v := 3) hx hb dL_law_1186 (by decide) ?_
    refine lv_iadd hx hb dL_law_1187 ?_
    refine W_top (y := .int 3) (by decide) ?_
    refine va_sld hx hb hX hbl hbA hS (g_in t_3 (by decide) (by decide)) dL_law_1188 ?_
    refine W_top (y := .int (xs 3)) (congrArg (fun n => Value.int (xs n)) (by decide : (3 : Int32).toNatClampNeg = 3)) ?_
    refine lv_aload_n hx hb dL_law_1189 rfl (lv_at hl 3 rfl) ?_
    refine lv_iload_n hx hb dL_law_1190 rfl (lv_at hl 0 rfl) ?_
    refine lv_iconst (v := 4) hx hb dL_law_1191 (by decide) ?_
    refine lv_iadd hx hb dL_law_1192 ?_
    refine W_top (y := .int 4) (by decide) ?_
    refine va_sld hx hb hX hbl hbA hS (g_in t_4 (by decide) (by decide)) dL_law_1193 ?_
    refine W_top (y := .int (xs 4)) (congrArg (fun n => Value.int (xs n)) (by decide : (4 : Int32).toNatClampNeg = 4)) ?_
    refine lv_aload_n hx hb dL_law_1194 rfl (lv_at hl 3 rfl) ?_
    refine lv_iload_n hx hb dL_law_1195 rfl (lv_at hl 0 rfl) ?_
    refine lv_iconst (v := 5) hx hb dL_law_1196 (by decide) ?_
    refine lv_iadd hx hb dL_law_1197 ?_
    refine W_top (y := .int 5) (by decide) ?_
    refine va_sld hx hb hX hbl hbA hS (g_in t_5 (by decide) (by decide)) dL_law_1198 ?_
    refine W_top (y := .int (xs 5)) (congrArg (fun n => Value.int (xs n)) (by decide : (5 : Int32).toNatClampNeg = 5)) ?_
    refine callRV (rest := [.int (-1)]) (As := [.int (xs 1), .int (xs 2), .int (xs 3), .int (xs 4), .int (xs 5)]) hx hb hml hown htb hK (c_X9_sight l D E qm cm (xs 1) (xs 2) (xs 3) (xs 4) (xs 5) ) ok_X9_sight k_1429 k_1430 k_1431 k_9 k_1432 ⟨(Nat.le_of_ble_eq_true rfl), (Nat.le_of_ble_eq_true rfl)⟩ ⟨(Nat.le_of_ble_eq_true rfl), (Nat.le_of_ble_eq_true rfl)⟩ hl.1 (Nat.le_of_ble_eq_true rfl) rfl rfl dL_law_1199 (hP.sub (ws' := [(qm, .inr (9, mF cm 0 0 0 0 0 0 0 0 0)), ((cm 47), .inl (E 0, 5, .inl (fun _ => 0)))]) [22, 36] rfl) rfl rfl 0 rfl (fun r_7 hw_6 => ?_)
    rcases hw_6 with ⟨hr_7, hw_6⟩ | ⟨hr_7, hw_6⟩
    ·
      refine W_top (y := .int (-4)) (by rw [hr_7]) ?_
      exfalso; omega
    ·
      refine W_top (y := .int (-1)) (by rw [hr_7]) ?_
      refine lv_icmp_eq (tgt := 1550) hx hb dL_law_1202 (by decide) (fun c_8 => ?_) (fun c_8 => absurd rfl c_8)
      exact law_end hx hb hr hml hown htb hX hbl hlocks hS (lv_sub hl [0, 3] rfl) (Nat.le_of_ble_eq_true rfl) (Nat.le_of_ble_eq_true rfl)
set_option maxHeartbeats 4000000 in
set_option maxRecDepth 100000 in
theorem law_25 {p : Program} {l : Launch} {e : Env} {s : State} {m : MethodId} {below : List Frame} {meth : Method} {c : Code} {D : va_G} {E : Nat → Nat} {b : Nat} {xs : Nat → Int32} {qx : Nat} {ax : Nat → Nat} {bx : Nat → Nat → Nat} {fw : Nat → Int32} {qm : Nat} {cm : Nat → Nat} {fm : Nat → Int32} {H : Heap} {locs : List Loc} {ls : Array Slot} (hx : p.tables.exec = Jvm.exec) (hb : c.code = code) (hr : meth.sig.returnType = ret) (hml : c.maxLocals = 4) (hown : s.vm.findClass R_law = some m.cls) (htb : ∀ w ∈ tb, w.before #[Value.ref b] s = true) (hK : KX D E s) (hX : va_X b 6 xs s s.heap) (hbl : b < s.heap.size) (hlocks : meth.locks = false) (hP : va_P D vwCl (LW E qx ax bx fw qm cm fm) H) (hD : va_D (fun q : Nat => s.heap.size ≤ q) (LW E qx ax bx fw qm cm fm)) (hS : va_S (fun q : Nat => s.heap.size ≤ q) s.heap H locs) (hl : lv_has ls 4 [(3, .int 0), (2, .ref qm), (1, .ref qx), (0, .ref b)]) : W p l e room_1 s m #[Value.ref b] below meth c H locs 123 44666 (lw_Z below #[Value.ref b] s) (F0 m 1207 ls []) := by
  have hA : ∀ q : Nat, s.heap.size ≤ q → (fun q : Nat => s.heap.size ≤ q) q := fun _ h => h
  have hbA : ¬ (fun q : Nat => s.heap.size ≤ q) b := Nat.not_le.mpr hbl
  refine lv_aload_n hx hb dL_law_1207 rfl (lv_at hl 2 rfl) ?_
  refine lv_aload_n hx hb dL_law_1208 rfl (lv_at hl 3 rfl) ?_
  refine lv_iload_n hx hb dL_law_1209 rfl (lv_at hl 0 rfl) ?_
  refine lv_iconst (v := 1) hx hb dL_law_1210 (by decide) ?_
  refine lv_iadd hx hb dL_law_1211 ?_
  refine W_top (y := .int 1) (by decide) ?_
  refine va_sld hx hb hX hbl hbA hS (g_in t_1 (by decide) (by decide)) dL_law_1212 ?_
  refine W_top (y := .int (xs 1)) (congrArg (fun n => Value.int (xs n)) (by decide : (1 : Int32).toNatClampNeg = 1)) ?_
  refine lv_aload_n hx hb dL_law_1213 rfl (lv_at hl 3 rfl) ?_
  refine lv_iload_n hx hb dL_law_1214 rfl (lv_at hl 0 rfl) ?_
  refine lv_iconst (v := 2) hx hb dL_law_1215 (by decide) ?_
  refine lv_iadd hx hb dL_law_1216 ?_
  refine W_top (y := .int 2) (by decide) ?_
  refine va_sld hx hb hX hbl hbA hS (g_in t_2 (by decide) (by decide)) dL_law_1217 ?_
  refine W_top (y := .int (xs 2)) (congrArg (fun n => Value.int (xs n)) (by decide : (2 : Int32).toNatClampNeg = 2)) ?_
  refine lv_aload_n hx hb dL_law_1218 rfl (lv_at hl 3 rfl) ?_
  refine lv_iload_n hx hb dL_law_1219 rfl (lv_at hl 0 rfl) ?_
  refine lv_iconst (v := 3) hx hb dL_law_1220 (by decide) ?_
  refine lv_iadd hx hb dL_law_1221 ?_
  refine W_top (y := .int 3) (by decide) ?_
  refine va_sld hx hb hX hbl hbA hS (g_in t_3 (by decide) (by decide)) dL_law_1222 ?_
  refine W_top (y := .int (xs 3)) (congrArg (fun n => Value.int (xs n)) (by decide : (3 : Int32).toNatClampNeg = 3)) ?_
  refine callRV (rest := []) (As := [.int (xs 1), .int (xs 2), .int (xs 3)]) hx hb hml hown htb hK (c_X8_told l D E qx ax bx (xs 1) (xs 2) (xs 3) ) ok_X8_told k_825 k_826 k_827 k_1 k_828 ⟨(Nat.le_of_ble_eq_true rfl), (Nat.le_of_ble_eq_true rfl)⟩ ⟨(Nat.le_of_ble_eq_true rfl), (Nat.le_of_ble_eq_true rfl)⟩ hl.1 (Nat.le_of_ble_eq_true rfl) rfl rfl dL_law_1223 (hP.sub (ws' := [(qx, .inr (8, xF ax 0)), ((ax 4), .inl (E 4, 5, .inr (.inr (.inr (.inr (fun j => some (ax (13 + j)))))))), ((ax 13), .inr (5, sF (bx 0))), ((ax 14), .inr (5, sF (bx 1))), ((ax 15), .inr (5, sF (bx 2))), ((ax 16), .inr (5, sF (bx 3))), ((ax 17), .inr (5, sF (bx 4)))]) [0, 5, 6, 7, 8, 9, 10] rfl) rfl rfl 0 rfl (fun r_2 hw_1 => ?_)
  obtain ⟨hr_2, hw_1⟩ := hw_1
  refine W_top (y := .int (-2000000000)) (by rw [hr_2]) ?_
  refine lv_aload_n hx hb dL_law_1226 rfl (lv_at hl 1 rfl) ?_
  refine lv_aload_n hx hb dL_law_1227 rfl (lv_at hl 3 rfl) ?_
  refine lv_iload_n hx hb dL_law_1228 rfl (lv_at hl 0 rfl) ?_
  refine lv_iconst (v := 1) hx hb dL_law_1229 (by decide) ?_
  refine lv_iadd hx hb dL_law_1230 ?_
  refine W_top (y := .int 1) (by decide) ?_
  refine va_sld hx hb hX hbl hbA hS (g_in t_1 (by decide) (by decide)) dL_law_1231 ?_
  refine W_top (y := .int (xs 1)) (congrArg (fun n => Value.int (xs n)) (by decide : (1 : Int32).toNatClampNeg = 1)) ?_
  refine lv_aload_n hx hb dL_law_1232 rfl (lv_at hl 3 rfl) ?_
  refine lv_iload_n hx hb dL_law_1233 rfl (lv_at hl 0 rfl) ?_
  refine lv_iconst (v := 2) hx hb dL_law_1234 (by decide) ?_
  refine lv_iadd hx hb dL_law_1235 ?_
  refine W_top (y := .int 2) (by decide) ?_
  refine va_sld hx hb hX hbl hbA hS (g_in t_2 (by decide) (by decide)) dL_law_1236 ?_
  refine W_top (y := .int (xs 2)) (congrArg (fun n => Value.int (xs n)) (by decide : (2 : Int32).toNatClampNeg = 2)) ?_
  refine lv_aload_n hx hb dL_law_1237 rfl (lv_at hl 3 rfl) ?_
  refine lv_iload_n hx hb dL_law_1238 rfl (lv_at hl 0 rfl) ?_
  refine lv_iconst (v := 3) hx hb dL_law_1239 (by decide) ?_
  refine lv_iadd hx hb dL_law_1240 ?_
  refine W_top (y := .int 3) (by decide) ?_
  refine va_sld hx hb hX hbl hbA hS (g_in t_3 (by decide) (by decide)) dL_law_1241 ?_
  refine W_top (y := .int (xs 3)) (congrArg (fun n => Value.int (xs n)) (by decide : (3 : Int32).toNatClampNeg = 3)) ?_
  refine callRV (rest := [.int (-2000000000)]) (As := [.int (xs 1), .int (xs 2), .int (xs 3)]) hx hb hml hown htb hK (c_X9_told l D E qm cm (xs 1) (xs 2) (xs 3) ) ok_X9_told k_1438 k_1439 k_1440 k_9 k_1441 ⟨(Nat.le_of_ble_eq_true rfl), (Nat.le_of_ble_eq_true rfl)⟩ ⟨(Nat.le_of_ble_eq_true rfl), (Nat.le_of_ble_eq_true rfl)⟩ hl.1 (Nat.le_of_ble_eq_true rfl) rfl rfl dL_law_1242 (hP.sub (ws' := [(qm, .inr (9, mF cm 0 0 0 0 0 0 0 0 0)), ((cm 55), .inl (E 0, 5, .inl (fun _ => 0)))]) [22, 37] rfl) rfl rfl 0 rfl (fun r_4 hw_3 => ?_)
  obtain ⟨hr_4, hw_3⟩ := hw_3
  refine W_top (y := .int (-2000000000)) (by rw [hr_4]) ?_
  refine lv_icmp_eq (tgt := 1550) hx hb dL_law_1245 (by decide) (fun c_5 => ?_) (fun c_5 => absurd rfl c_5)
  exact law_end hx hb hr hml hown htb hX hbl hlocks hS (lv_sub hl [0, 3] rfl) (Nat.le_of_ble_eq_true rfl) (Nat.le_of_ble_eq_true rfl)
set_option maxHeartbeats 4000000 in
set_option maxRecDepth 100000 in
theorem law_26 {p : Program} {l : Launch} {e : Env} {s : State} {m : MethodId} {below : List Frame} {meth : Method} {c : Code} {D : va_G} {E : Nat → Nat} {b : Nat} {xs : Nat → Int32} {qx : Nat} {ax : Nat → Nat} {bx : Nat → Nat → Nat} {fw : Nat → Int32} {qm : Nat} {cm : Nat → Nat} {fm : Nat → Int32} {H : Heap} {locs : List Loc} {ls : Array Slot} (hx : p.tables.exec = Jvm.exec) (hb : c.code = code) (hr : meth.sig.returnType = ret) (hml : c.maxLocals = 4) (hown : s.vm.findClass R_law = some m.cls) (htb : ∀ w ∈ tb, w.before #[Value.ref b] s = true) (hK : KX D E s) (hX : va_X b 6 xs s s.heap) (hbl : b < s.heap.size) (hlocks : meth.locks = false) (hP : va_P D vwCl (LW E qx ax bx fw qm cm fm) H) (hD : va_D (fun q : Nat => s.heap.size ≤ q) (LW E qx ax bx fw qm cm fm)) (hS : va_S (fun q : Nat => s.heap.size ≤ q) s.heap H locs) (hl : lv_has ls 4 [(3, .int 0), (2, .ref qm), (1, .ref qx), (0, .ref b)]) : W p l e room_1 s m #[Value.ref b] below meth c H locs 123 44666 (lw_Z below #[Value.ref b] s) (F0 m 1250 ls []) := by
  have hA : ∀ q : Nat, s.heap.size ≤ q → (fun q : Nat => s.heap.size ≤ q) q := fun _ h => h
  have hbA : ¬ (fun q : Nat => s.heap.size ≤ q) b := Nat.not_le.mpr hbl
  refine lv_aload_n hx hb dL_law_1250 rfl (lv_at hl 2 rfl) ?_
  refine lv_aload_n hx hb dL_law_1251 rfl (lv_at hl 3 rfl) ?_
  refine lv_iload_n hx hb dL_law_1252 rfl (lv_at hl 0 rfl) ?_
  refine lv_iconst (v := 1) hx hb dL_law_1253 (by decide) ?_
  refine lv_iadd hx hb dL_law_1254 ?_
  refine W_top (y := .int 1) (by decide) ?_
  refine va_sld hx hb hX hbl hbA hS (g_in t_1 (by decide) (by decide)) dL_law_1255 ?_
  refine W_top (y := .int (xs 1)) (congrArg (fun n => Value.int (xs n)) (by decide : (1 : Int32).toNatClampNeg = 1)) ?_
  refine lv_aload_n hx hb dL_law_1256 rfl (lv_at hl 3 rfl) ?_
  refine lv_iload_n hx hb dL_law_1257 rfl (lv_at hl 0 rfl) ?_
  refine lv_iconst (v := 2) hx hb dL_law_1258 (by decide) ?_
  refine lv_iadd hx hb dL_law_1259 ?_
  refine W_top (y := .int 2) (by decide) ?_
  refine va_sld hx hb hX hbl hbA hS (g_in t_2 (by decide) (by decide)) dL_law_1260 ?_
  refine W_top (y := .int (xs 2)) (congrArg (fun n => Value.int (xs n)) (by decide : (2 : Int32).toNatClampNeg = 2)) ?_
  refine lv_aload_n hx hb dL_law_1261 rfl (lv_at hl 3 rfl) ?_
  refine lv_iload_n hx hb dL_law_1262 rfl (lv_at hl 0 rfl) ?_
  refine lv_iconst (v := 3) hx hb dL_law_1263 (by decide) ?_
  refine lv_iadd hx hb dL_law_1264 ?_
  refine W_top (y := .int 3) (by decide) ?_
  refine va_sld hx hb hX hbl hbA hS (g_in t_3 (by decide) (by decide)) dL_law_1265 ?_
  refine W_top (y := .int (xs 3)) (congrArg (fun n => Value.int (xs n)) (by decide : (3 : Int32).toNatClampNeg = 3)) ?_
  refine lv_aload_n hx hb dL_law_1266 rfl (lv_at hl 3 rfl) ?_
  refine lv_iload_n hx hb dL_law_1267 rfl (lv_at hl 0 rfl) ?_
  refine lv_iconst (v := 4) hx hb dL_law_1268 (by decide) ?_
  refine lv_iadd hx hb dL_law_1269 ?_
  refine W_top (y := .int 4) (by decide) ?_
  refine va_sld hx hb hX hbl hbA hS (g_in t_4 (by decide) (by decide)) dL_law_1270 ?_
  refine W_top (y := .int (xs 4)) (congrArg (fun n => Value.int (xs n)) (by decide : (4 : Int32).toNatClampNeg = 4)) ?_
  refine callRV (rest := []) (As := [.int (xs 1), .int (xs 2), .int (xs 3), .int (xs 4)]) hx hb hml hown htb hK (c_X8_back l D E qx ax bx (xs 1) (xs 2) (xs 3) (xs 4) ) ok_X8_back k_870 k_871 k_872 k_1 k_873 ⟨(Nat.le_of_ble_eq_true rfl), (Nat.le_of_ble_eq_true rfl)⟩ ⟨(Nat.le_of_ble_eq_true rfl), (Nat.le_of_ble_eq_true rfl)⟩ hl.1 (Nat.le_of_ble_eq_true rfl) rfl rfl dL_law_1271 (hP.sub (ws' := [(qx, .inr (8, xF ax 0)), ((ax 4), .inl (E 4, 5, .inr (.inr (.inr (.inr (fun j => some (ax (13 + j)))))))), ((ax 13), .inr (5, sF (bx 0))), ((ax 14), .inr (5, sF (bx 1))), ((ax 15), .inr (5, sF (bx 2))), ((ax 16), .inr (5, sF (bx 3))), ((ax 17), .inr (5, sF (bx 4)))]) [0, 5, 6, 7, 8, 9, 10] rfl) rfl rfl 0 rfl (fun r_2 hw_1 => ?_)
  rcases hw_1 with ⟨hr_2, hw_1⟩ | ⟨hr_2, hw_1⟩
  ·
    refine W_top (y := .int (-4)) (by rw [hr_2]) ?_
    refine lv_aload_n hx hb dL_law_1274 rfl (lv_at hl 1 rfl) ?_
    refine lv_aload_n hx hb dL_law_1275 rfl (lv_at hl 3 rfl) ?_
    refine lv_iload_n hx hb dL_law_1276 rfl (lv_at hl 0 rfl) ?_
    refine lv_iconst (v := 1) hx hb dL_law_1277 (by decide) ?_
    refine lv_iadd hx hb dL_law_1278 ?_
    refine W_top (y := .int 1) (by decide) ?_
    refine va_sld hx hb hX hbl hbA hS (g_in t_1 (by decide) (by decide)) dL_law_1279 ?_
    refine W_top (y := .int (xs 1)) (congrArg (fun n => Value.int (xs n)) (by decide : (1 : Int32).toNatClampNeg = 1)) ?_
    refine lv_aload_n hx hb dL_law_1280 rfl (lv_at hl 3 rfl) ?_
    refine lv_iload_n hx hb dL_law_1281 rfl (lv_at hl 0 rfl) ?_
    refine lv_iconst (v := 2) hx hb dL_law_1282 (by decide) ?_
    refine lv_iadd hx hb dL_law_1283 ?_
    refine W_top (y := .int 2) (by decide) ?_
    refine va_sld hx hb hX hbl hbA hS (g_in t_2 (by decide) (by decide)) dL_law_1284 ?_
    refine W_top (y := .int (xs 2)) (congrArg (fun n => Value.int (xs n)) (by decide : (2 : Int32).toNatClampNeg = 2)) ?_
    refine lv_aload_n hx hb dL_law_1285 rfl (lv_at hl 3 rfl) ?_
    refine lv_iload_n hx hb dL_law_1286 rfl (lv_at hl 0 rfl) ?_
    refine lv_iconst (v := 3) hx hb dL_law_1287 (by decide) ?_
    refine lv_iadd hx hb dL_law_1288 ?_
    refine W_top (y := .int 3) (by decide) ?_
    refine va_sld hx hb hX hbl hbA hS (g_in t_3 (by decide) (by decide)) dL_law_1289 ?_
    refine W_top (y := .int (xs 3)) (congrArg (fun n => Value.int (xs n)) (by decide : (3 : Int32).toNatClampNeg = 3)) ?_
    refine lv_aload_n hx hb dL_law_1290 rfl (lv_at hl 3 rfl) ?_
    refine lv_iload_n hx hb dL_law_1291 rfl (lv_at hl 0 rfl) ?_
    refine lv_iconst (v := 4) hx hb dL_law_1292 (by decide) ?_
    refine lv_iadd hx hb dL_law_1293 ?_
    refine W_top (y := .int 4) (by decide) ?_
    refine va_sld hx hb hX hbl hbA hS (g_in t_4 (by decide) (by decide)) dL_law_1294 ?_
    refine W_top (y := .int (xs 4)) (congrArg (fun n => Value.int (xs n)) (by decide : (4 : Int32).toNatClampNeg = 4)) ?_
    refine callRV (rest := [.int (-4)]) (As := [.int (xs 1), .int (xs 2), .int (xs 3), .int (xs 4)]) hx hb hml hown htb hK (c_X9_back l D E qm cm (xs 1) (xs 2) (xs 3) (xs 4) ) ok_X9_back k_1448 k_1449 k_1450 k_9 k_1451 ⟨(Nat.le_of_ble_eq_true rfl), (Nat.le_of_ble_eq_true rfl)⟩ ⟨(Nat.le_of_ble_eq_true rfl), (Nat.le_of_ble_eq_true rfl)⟩ hl.1 (Nat.le_of_ble_eq_true rfl) rfl rfl dL_law_1295 (hP.sub (ws' := [(qm, .inr (9, mF cm 0 0 0 0 0 0 0 0 0)), ((cm 47), .inl (E 0, 5, .inl (fun _ => 0)))]) [22, 36] rfl) rfl rfl 0 rfl (fun r_4 hw_3 => ?_)
    rcases hw_3 with ⟨hr_4, hw_3⟩ | ⟨hr_4, hw_3⟩
    ·
      refine W_top (y := .int (-4)) (by rw [hr_4]) ?_
      refine lv_icmp_eq (tgt := 1550) hx hb dL_law_1298 (by decide) (fun c_5 => ?_) (fun c_5 => absurd rfl c_5)
      exact law_end hx hb hr hml hown htb hX hbl hlocks hS (lv_sub hl [0, 3] rfl) (Nat.le_of_ble_eq_true rfl) (Nat.le_of_ble_eq_true rfl)
    ·
      refine W_top (y := .int (-1)) (by rw [hr_4]) ?_
      exfalso; omega
  ·
    refine W_top (y := .int (-1)) (by rw [hr_2]) ?_
    refine lv_aload_n hx hb dL_law_1274 rfl (lv_at hl 1 rfl) ?_
    refine lv_aload_n hx hb dL_law_1275 rfl (lv_at hl 3 rfl) ?_
    refine lv_iload_n hx hb dL_law_1276 rfl (lv_at hl 0 rfl) ?_
    refine lv_iconst (v := 1) hx hb dL_law_1277 (by decide) ?_
    refine lv_iadd hx hb dL_law_1278 ?_
    refine W_top (y := .int 1) (by decide) ?_
    refine va_sld hx hb hX hbl hbA hS (g_in t_1 (by decide) (by decide)) dL_law_1279 ?_
    refine W_top (y := .int (xs 1)) (congrArg (fun n => Value.int (xs n)) (by decide : (1 : Int32).toNatClampNeg = 1)) ?_
    refine lv_aload_n hx hb dL_law_1280 rfl (lv_at hl 3 rfl) ?_
    refine lv_iload_n hx hb dL_law_1281 rfl (lv_at hl 0 rfl) ?_
    refine lv_iconst (v := 2) hx hb dL_law_1282 (by decide) ?_
    refine lv_iadd hx hb dL_law_1283 ?_
    refine W_top (y := .int 2) (by decide) ?_
    refine va_sld hx hb hX hbl hbA hS (g_in t_2 (by decide) (by decide)) dL_law_1284 ?_
    refine W_top (y := .int (xs 2)) (congrArg (fun n => Value.int (xs n)) (by decide : (2 : Int32).toNatClampNeg = 2)) ?_
    refine lv_aload_n hx hb dL_law_1285 rfl (lv_at hl 3 rfl) ?_
    refine lv_iload_n hx hb dL_law_1286 rfl (lv_at hl 0 rfl) ?_
    refine lv_iconst (v := 3) hx hb dL_law_1287 (by decide) ?_
    refine lv_iadd hx hb dL_law_1288 ?_
    refine W_top (y := .int 3) (by decide) ?_
    refine va_sld hx hb hX hbl hbA hS (g_in t_3 (by decide) (by decide)) dL_law_1289 ?_
    refine W_top (y := .int (xs 3)) (congrArg (fun n => Value.int (xs n)) (by decide : (3 : Int32).toNatClampNeg = 3)) ?_
    refine lv_aload_n hx hb dL_law_1290 rfl (lv_at hl 3 rfl) ?_
    refine lv_iload_n hx hb dL_law_1291 rfl (lv_at hl 0 rfl) ?_
    refine lv_iconst (v := 4) hx hb dL_law_1292 (by decide) ?_
    refine lv_iadd hx hb dL_law_1293 ?_
    refine W_top (y := .int 4) (by decide) ?_
    refine va_sld hx hb hX hbl hbA hS (g_in t_4 (by decide) (by decide)) dL_law_1294 ?_
    refine W_top (y := .int (xs 4)) (congrArg (fun n => Value.int (xs n)) (by decide : (4 : Int32).toNatClampNeg = 4)) ?_
    refine callRV (rest := [.int (-1)]) (As := [.int (xs 1), .int (xs 2), .int (xs 3), .int (xs 4)]) hx hb hml hown htb hK (c_X9_back l D E qm cm (xs 1) (xs 2) (xs 3) (xs 4) ) ok_X9_back k_1448 k_1449 k_1450 k_9 k_1451 ⟨(Nat.le_of_ble_eq_true rfl), (Nat.le_of_ble_eq_true rfl)⟩ ⟨(Nat.le_of_ble_eq_true rfl), (Nat.le_of_ble_eq_true rfl)⟩ hl.1 (Nat.le_of_ble_eq_true rfl) rfl rfl dL_law_1295 (hP.sub (ws' := [(qm, .inr (9, mF cm 0 0 0 0 0 0 0 0 0)), ((cm 47), .inl (E 0, 5, .inl (fun _ => 0)))]) [22, 36] rfl) rfl rfl 0 rfl (fun r_7 hw_6 => ?_)
    rcases hw_6 with ⟨hr_7, hw_6⟩ | ⟨hr_7, hw_6⟩
    ·
      refine W_top (y := .int (-4)) (by rw [hr_7]) ?_
      exfalso; omega
    ·
      refine W_top (y := .int (-1)) (by rw [hr_7]) ?_
      refine lv_icmp_eq (tgt := 1550) hx hb dL_law_1298 (by decide) (fun c_8 => ?_) (fun c_8 => absurd rfl c_8)
      exact law_end hx hb hr hml hown htb hX hbl hlocks hS (lv_sub hl [0, 3] rfl) (Nat.le_of_ble_eq_true rfl) (Nat.le_of_ble_eq_true rfl)
set_option maxHeartbeats 4000000 in
set_option maxRecDepth 100000 in
theorem law_27 {p : Program} {l : Launch} {e : Env} {s : State} {m : MethodId} {below : List Frame} {meth : Method} {c : Code} {D : va_G} {E : Nat → Nat} {b : Nat} {xs : Nat → Int32} {qx : Nat} {ax : Nat → Nat} {bx : Nat → Nat → Nat} {fw : Nat → Int32} {qm : Nat} {cm : Nat → Nat} {fm : Nat → Int32} {H : Heap} {locs : List Loc} {ls : Array Slot} (hx : p.tables.exec = Jvm.exec) (hb : c.code = code) (hr : meth.sig.returnType = ret) (hml : c.maxLocals = 4) (hown : s.vm.findClass R_law = some m.cls) (htb : ∀ w ∈ tb, w.before #[Value.ref b] s = true) (hK : KX D E s) (hX : va_X b 6 xs s s.heap) (hbl : b < s.heap.size) (hlocks : meth.locks = false) (hP : va_P D vwCl (LW E qx ax bx fw qm cm fm) H) (hD : va_D (fun q : Nat => s.heap.size ≤ q) (LW E qx ax bx fw qm cm fm)) (hS : va_S (fun q : Nat => s.heap.size ≤ q) s.heap H locs) (hl : lv_has ls 4 [(3, .int 0), (2, .ref qm), (1, .ref qx), (0, .ref b)]) : W p l e room_1 s m #[Value.ref b] below meth c H locs 123 44666 (lw_Z below #[Value.ref b] s) (F0 m 1303 ls []) := by
  have hA : ∀ q : Nat, s.heap.size ≤ q → (fun q : Nat => s.heap.size ≤ q) q := fun _ h => h
  have hbA : ¬ (fun q : Nat => s.heap.size ≤ q) b := Nat.not_le.mpr hbl
  refine lv_aload_n hx hb dL_law_1303 rfl (lv_at hl 2 rfl) ?_
  refine lv_aload_n hx hb dL_law_1304 rfl (lv_at hl 3 rfl) ?_
  refine lv_iload_n hx hb dL_law_1305 rfl (lv_at hl 0 rfl) ?_
  refine lv_iconst (v := 1) hx hb dL_law_1306 (by decide) ?_
  refine lv_iadd hx hb dL_law_1307 ?_
  refine W_top (y := .int 1) (by decide) ?_
  refine va_sld hx hb hX hbl hbA hS (g_in t_1 (by decide) (by decide)) dL_law_1308 ?_
  refine W_top (y := .int (xs 1)) (congrArg (fun n => Value.int (xs n)) (by decide : (1 : Int32).toNatClampNeg = 1)) ?_
  refine callRV (rest := []) (As := [.int (xs 1)]) hx hb hml hown htb hK (c_X8_state l D E qx ax bx (xs 1) ) ok_X8_state k_882 k_883 k_884 k_1 k_885 ⟨(Nat.le_of_ble_eq_true rfl), (Nat.le_of_ble_eq_true rfl)⟩ ⟨(Nat.le_of_ble_eq_true rfl), (Nat.le_of_ble_eq_true rfl)⟩ hl.1 (Nat.le_of_ble_eq_true rfl) rfl rfl dL_law_1309 (hP.sub (ws' := [(qx, .inr (8, xF ax 0)), ((ax 4), .inl (E 4, 5, .inr (.inr (.inr (.inr (fun j => some (ax (13 + j)))))))), ((ax 13), .inr (5, sF (bx 0))), ((ax 14), .inr (5, sF (bx 1))), ((ax 15), .inr (5, sF (bx 2))), ((ax 16), .inr (5, sF (bx 3))), ((ax 17), .inr (5, sF (bx 4)))]) [0, 5, 6, 7, 8, 9, 10] rfl) rfl rfl 0 rfl (fun r_2 hw_1 => ?_)
  rcases hw_1 with ⟨hr_2, hw_1⟩ | ⟨hr_2, hw_1⟩
  ·
    refine W_top (y := .int 0) (by rw [hr_2]) ?_
    refine lv_aload_n hx hb dL_law_1312 rfl (lv_at hl 1 rfl) ?_
    refine lv_aload_n hx hb dL_law_1313 rfl (lv_at hl 3 rfl) ?_
    refine lv_iload_n hx hb dL_law_1314 rfl (lv_at hl 0 rfl) ?_
    refine lv_iconst (v := 1) hx hb dL_law_1315 (by decide) ?_
    refine lv_iadd hx hb dL_law_1316 ?_
    refine W_top (y := .int 1) (by decide) ?_
    refine va_sld hx hb hX hbl hbA hS (g_in t_1 (by decide) (by decide)) dL_law_1317 ?_
    refine W_top (y := .int (xs 1)) (congrArg (fun n => Value.int (xs n)) (by decide : (1 : Int32).toNatClampNeg = 1)) ?_
    refine callRV (rest := [.int 0]) (As := [.int (xs 1)]) hx hb hml hown htb hK (c_X9_state l D E qm cm (xs 1) ) ok_X9_state k_1452 k_1453 k_1454 k_9 k_1455 ⟨(Nat.le_of_ble_eq_true rfl), (Nat.le_of_ble_eq_true rfl)⟩ ⟨(Nat.le_of_ble_eq_true rfl), (Nat.le_of_ble_eq_true rfl)⟩ hl.1 (Nat.le_of_ble_eq_true rfl) rfl rfl dL_law_1318 (hP.sub (ws' := [(qm, .inr (9, mF cm 0 0 0 0 0 0 0 0 0)), ((cm 47), .inl (E 0, 5, .inl (fun _ => 0)))]) [22, 36] rfl) rfl rfl 0 rfl (fun r_4 hw_3 => ?_)
    rcases hw_3 with ⟨hr_4, hw_3⟩ | ⟨hr_4, hw_3⟩
    ·
      refine W_top (y := .int 0) (by rw [hr_4]) ?_
      refine lv_icmp_eq (tgt := 1550) hx hb dL_law_1321 (by decide) (fun c_5 => ?_) (fun c_5 => absurd rfl c_5)
      exact law_end hx hb hr hml hown htb hX hbl hlocks hS (lv_sub hl [0, 3] rfl) (Nat.le_of_ble_eq_true rfl) (Nat.le_of_ble_eq_true rfl)
    ·
      refine W_top (y := .int (-1)) (by rw [hr_4]) ?_
      exfalso; omega
  ·
    refine W_top (y := .int (-1)) (by rw [hr_2]) ?_
    refine lv_aload_n hx hb dL_law_1312 rfl (lv_at hl 1 rfl) ?_
    refine lv_aload_n hx hb dL_law_1313 rfl (lv_at hl 3 rfl) ?_
    refine lv_iload_n hx hb dL_law_1314 rfl (lv_at hl 0 rfl) ?_
    refine lv_iconst (v := 1) hx hb dL_law_1315 (by decide) ?_
    refine lv_iadd hx hb dL_law_1316 ?_
    refine W_top (y := .int 1) (by decide) ?_
    refine va_sld hx hb hX hbl hbA hS (g_in t_1 (by decide) (by decide)) dL_law_1317 ?_
    refine W_top (y := .int (xs 1)) (congrArg (fun n => Value.int (xs n)) (by decide : (1 : Int32).toNatClampNeg = 1)) ?_
    refine callRV (rest := [.int (-1)]) (As := [.int (xs 1)]) hx hb hml hown htb hK (c_X9_state l D E qm cm (xs 1) ) ok_X9_state k_1452 k_1453 k_1454 k_9 k_1455 ⟨(Nat.le_of_ble_eq_true rfl), (Nat.le_of_ble_eq_true rfl)⟩ ⟨(Nat.le_of_ble_eq_true rfl), (Nat.le_of_ble_eq_true rfl)⟩ hl.1 (Nat.le_of_ble_eq_true rfl) rfl rfl dL_law_1318 (hP.sub (ws' := [(qm, .inr (9, mF cm 0 0 0 0 0 0 0 0 0)), ((cm 47), .inl (E 0, 5, .inl (fun _ => 0)))]) [22, 36] rfl) rfl rfl 0 rfl (fun r_7 hw_6 => ?_)
    rcases hw_6 with ⟨hr_7, hw_6⟩ | ⟨hr_7, hw_6⟩
    ·
      refine W_top (y := .int 0) (by rw [hr_7]) ?_
      exfalso; omega
    ·
      refine W_top (y := .int (-1)) (by rw [hr_7]) ?_
      refine lv_icmp_eq (tgt := 1550) hx hb dL_law_1321 (by decide) (fun c_8 => ?_) (fun c_8 => absurd rfl c_8)
      exact law_end hx hb hr hml hown htb hX hbl hlocks hS (lv_sub hl [0, 3] rfl) (Nat.le_of_ble_eq_true rfl) (Nat.le_of_ble_eq_true rfl)
set_option maxHeartbeats 4000000 in
set_option maxRecDepth 100000 in
theorem law_28 {p : Program} {l : Launch} {e : Env} {s : State} {m : MethodId} {below : List Frame} {meth : Method} {c : Code} {D : va_G} {E : Nat → Nat} {b : Nat} {xs : Nat → Int32} {qx : Nat} {ax : Nat → Nat} {bx : Nat → Nat → Nat} {fw : Nat → Int32} {qm : Nat} {cm : Nat → Nat} {fm : Nat → Int32} {H : Heap} {locs : List Loc} {ls : Array Slot} (hx : p.tables.exec = Jvm.exec) (hb : c.code = code) (hr : meth.sig.returnType = ret) (hml : c.maxLocals = 4) (hown : s.vm.findClass R_law = some m.cls) (htb : ∀ w ∈ tb, w.before #[Value.ref b] s = true) (hK : KX D E s) (hX : va_X b 6 xs s s.heap) (hbl : b < s.heap.size) (hlocks : meth.locks = false) (hP : va_P D vwCl (LW E qx ax bx fw qm cm fm) H) (hD : va_D (fun q : Nat => s.heap.size ≤ q) (LW E qx ax bx fw qm cm fm)) (hS : va_S (fun q : Nat => s.heap.size ≤ q) s.heap H locs) (hl : lv_has ls 4 [(3, .int 0), (2, .ref qm), (1, .ref qx), (0, .ref b)]) : W p l e room_1 s m #[Value.ref b] below meth c H locs 123 44666 (lw_Z below #[Value.ref b] s) (F0 m 1326 ls []) := by
  have hA : ∀ q : Nat, s.heap.size ≤ q → (fun q : Nat => s.heap.size ≤ q) q := fun _ h => h
  have hbA : ¬ (fun q : Nat => s.heap.size ≤ q) b := Nat.not_le.mpr hbl
  refine lv_aload_n hx hb dL_law_1326 rfl (lv_at hl 2 rfl) ?_
  refine lv_aload_n hx hb dL_law_1327 rfl (lv_at hl 3 rfl) ?_
  refine lv_iload_n hx hb dL_law_1328 rfl (lv_at hl 0 rfl) ?_
  refine lv_iconst (v := 1) hx hb dL_law_1329 (by decide) ?_
  refine lv_iadd hx hb dL_law_1330 ?_
  refine W_top (y := .int 1) (by decide) ?_
  refine va_sld hx hb hX hbl hbA hS (g_in t_1 (by decide) (by decide)) dL_law_1331 ?_
  refine W_top (y := .int (xs 1)) (congrArg (fun n => Value.int (xs n)) (by decide : (1 : Int32).toNatClampNeg = 1)) ?_
  have hPc := hP.sub (ws' := [(qx, .inr (8, xF ax 0)), ((ax 10), .inr (0, [.ref (ax 28), .ref (ax 29), .ref (ax 30), .ref (ax 31), .ref (ax 32), .int 0, .int 0, .int 0, .int 0])), ((ax 28), .inl (E 0, 9, .inl (fun _ => 0)))]) [0, 20, 21] rfl
  have hDc := hD.sub (ws' := [(qx, .inr (8, xF ax 0)), ((ax 10), .inr (0, [.ref (ax 28), .ref (ax 29), .ref (ax 30), .ref (ax 31), .ref (ax 32), .int 0, .int 0, .int 0, .int 0])), ((ax 28), .inl (E 0, 9, .inl (fun _ => 0)))]) [0, 20, 21] (by decide) rfl
  refine aft_i (runMV (rest := []) (As := [.int (xs 1)]) hx hb hml hown htb hK (c_X8_doubt l D E qx ax (xs 1) _ ) ok_X8_doubt k_886 k_887 k_888 k_1 k_889 ⟨(Nat.le_of_ble_eq_true rfl), (Nat.le_of_ble_eq_true rfl)⟩ ⟨(Nat.le_of_ble_eq_true rfl), (Nat.le_of_ble_eq_true rfl)⟩ hl.1 (Nat.le_of_ble_eq_true rfl) rfl rfl dL_law_1332 hPc hDc rfl rfl 0 rfl) hP hD hS hA [0, 20, 21] [1, 2, 3, 4, 5, 6, 7, 8, 9, 10, 11, 12, 13, 14, 15, 16, 17, 18, 19, 22, 23, 24, 25, 26, 27, 28, 29, 30, 31, 32, 33, 34, 35, 36, 37, 38, 39] (wr := [((ax 0), .inl (E 0, 400, .inl fw)), ((ax 1), .inl (E 0, 16, .inl (fun _ => -5))), ((ax 2), .inl (E 0, 16, .inl (fun _ => 0))), ((ax 3), .inl (E 3, 16, .inr (.inr (.inr (.inr (fun _ => none)))))), ((ax 4), .inl (E 4, 5, .inr (.inr (.inr (.inr (fun j => some (ax (13 + j)))))))), ((ax 13), .inr (5, sF (bx 0))), ((ax 14), .inr (5, sF (bx 1))), ((ax 15), .inr (5, sF (bx 2))), ((ax 16), .inr (5, sF (bx 3))), ((ax 17), .inr (5, sF (bx 4))), ((ax 6), .inr (2, [.ref (ax 18), .ref (ax 19), .ref (ax 20), .ref (ax 21), .ref (ax 22), .int 0])), ((ax 18), .inl (E 0, 60, .inl (fun _ => 0))), ((ax 19), .inl (E 0, 60, .inl (fun _ => 0))), ((ax 20), .inl (E 0, 60, .inl (fun _ => 0))), ((ax 21), .inl (E 0, 60, .inl (fun _ => 0))), ((ax 22), .inl (E 0, 60, .inl (fun _ => 0))), ((ax 9), .inr (6, [.ref (ax 23), .int 0, .ref (ax 24), .ref (E 5), .int 0, .int 0, .int 0, .int 0])), ((ax 23), .inl (E 0, 120, .inl (fun _ => 0))), ((ax 24), .inr (4, [.ref (ax 25), .ref (ax 26), .ref (ax 27), .int 0])), (qm, .inr (9, mF cm 0 0 0 0 0 0 0 0 0)), ((cm 2), .inl (E 0, 400, .inl fm)), ((cm 3), .inl (E 0, 16, .inl (fun _ => -5))), ((cm 4), .inl (E 0, 16, .inl (fun _ => 0))), ((cm 5), .inl (E 1, 6400, .inl (fun _ => 0))), ((cm 8), .inl (E 1, 6400, .inl (fun _ => 0))), ((cm 9), .inl (E 1, 6400, .inl (fun _ => 0))), ((cm 10), .inl (E 0, 6400, .inl (fun _ => 0))), ((cm 12), .inl (E 0, 60, .inl (fun _ => 0))), ((cm 13), .inl (E 0, 60, .inl (fun _ => 0))), ((cm 14), .inl (E 0, 60, .inl (fun _ => 0))), ((cm 15), .inl (E 0, 60, .inl (fun _ => 0))), ((cm 16), .inl (E 0, 60, .inl (fun _ => 0))), ((cm 32), .inl (E 2, 120, .inl (fun _ => 0))), ((cm 47), .inl (E 0, 5, .inl (fun _ => 0))), ((cm 55), .inl (E 0, 5, .inl (fun _ => 0))), ((cm 58), .inl (E 0, 3, .inl (fun _ => 0))), ((cm 62), .inl (E 0, 9, .inl (fun _ => 0)))]) rfl rfl (by decide) (by decide) (fun r_3 u_1 H locs hw_2 hP hD hS => ?_)
  clear hPc hDc
  have hP : va_P D vwCl [((ax 0), .inl (E 0, 400, .inl fw)), ((ax 1), .inl (E 0, 16, .inl (fun _ => -5))), ((ax 2), .inl (E 0, 16, .inl (fun _ => 0))), ((ax 3), .inl (E 3, 16, .inr (.inr (.inr (.inr (fun _ => none)))))), ((ax 4), .inl (E 4, 5, .inr (.inr (.inr (.inr (fun j => some (ax (13 + j)))))))), ((ax 13), .inr (5, sF (bx 0))), ((ax 14), .inr (5, sF (bx 1))), ((ax 15), .inr (5, sF (bx 2))), ((ax 16), .inr (5, sF (bx 3))), ((ax 17), .inr (5, sF (bx 4))), ((ax 6), .inr (2, [.ref (ax 18), .ref (ax 19), .ref (ax 20), .ref (ax 21), .ref (ax 22), .int 0])), ((ax 18), .inl (E 0, 60, .inl (fun _ => 0))), ((ax 19), .inl (E 0, 60, .inl (fun _ => 0))), ((ax 20), .inl (E 0, 60, .inl (fun _ => 0))), ((ax 21), .inl (E 0, 60, .inl (fun _ => 0))), ((ax 22), .inl (E 0, 60, .inl (fun _ => 0))), ((ax 9), .inr (6, [.ref (ax 23), .int 0, .ref (ax 24), .ref (E 5), .int 0, .int 0, .int 0, .int 0])), ((ax 23), .inl (E 0, 120, .inl (fun _ => 0))), ((ax 24), .inr (4, [.ref (ax 25), .ref (ax 26), .ref (ax 27), .int 0])), (qm, .inr (9, mF cm 0 0 0 0 0 0 0 0 0)), ((cm 2), .inl (E 0, 400, .inl fm)), ((cm 3), .inl (E 0, 16, .inl (fun _ => -5))), ((cm 4), .inl (E 0, 16, .inl (fun _ => 0))), ((cm 5), .inl (E 1, 6400, .inl (fun _ => 0))), ((cm 8), .inl (E 1, 6400, .inl (fun _ => 0))), ((cm 9), .inl (E 1, 6400, .inl (fun _ => 0))), ((cm 10), .inl (E 0, 6400, .inl (fun _ => 0))), ((cm 12), .inl (E 0, 60, .inl (fun _ => 0))), ((cm 13), .inl (E 0, 60, .inl (fun _ => 0))), ((cm 14), .inl (E 0, 60, .inl (fun _ => 0))), ((cm 15), .inl (E 0, 60, .inl (fun _ => 0))), ((cm 16), .inl (E 0, 60, .inl (fun _ => 0))), ((cm 32), .inl (E 2, 120, .inl (fun _ => 0))), ((cm 47), .inl (E 0, 5, .inl (fun _ => 0))), ((cm 55), .inl (E 0, 5, .inl (fun _ => 0))), ((cm 58), .inl (E 0, 3, .inl (fun _ => 0))), ((cm 62), .inl (E 0, 9, .inl (fun _ => 0)))] H := hP
  have hD : va_D (fun q : Nat => s.heap.size ≤ q) [((ax 0), .inl (E 0, 400, .inl fw)), ((ax 1), .inl (E 0, 16, .inl (fun _ => -5))), ((ax 2), .inl (E 0, 16, .inl (fun _ => 0))), ((ax 3), .inl (E 3, 16, .inr (.inr (.inr (.inr (fun _ => none)))))), ((ax 4), .inl (E 4, 5, .inr (.inr (.inr (.inr (fun j => some (ax (13 + j)))))))), ((ax 13), .inr (5, sF (bx 0))), ((ax 14), .inr (5, sF (bx 1))), ((ax 15), .inr (5, sF (bx 2))), ((ax 16), .inr (5, sF (bx 3))), ((ax 17), .inr (5, sF (bx 4))), ((ax 6), .inr (2, [.ref (ax 18), .ref (ax 19), .ref (ax 20), .ref (ax 21), .ref (ax 22), .int 0])), ((ax 18), .inl (E 0, 60, .inl (fun _ => 0))), ((ax 19), .inl (E 0, 60, .inl (fun _ => 0))), ((ax 20), .inl (E 0, 60, .inl (fun _ => 0))), ((ax 21), .inl (E 0, 60, .inl (fun _ => 0))), ((ax 22), .inl (E 0, 60, .inl (fun _ => 0))), ((ax 9), .inr (6, [.ref (ax 23), .int 0, .ref (ax 24), .ref (E 5), .int 0, .int 0, .int 0, .int 0])), ((ax 23), .inl (E 0, 120, .inl (fun _ => 0))), ((ax 24), .inr (4, [.ref (ax 25), .ref (ax 26), .ref (ax 27), .int 0])), (qm, .inr (9, mF cm 0 0 0 0 0 0 0 0 0)), ((cm 2), .inl (E 0, 400, .inl fm)), ((cm 3), .inl (E 0, 16, .inl (fun _ => -5))), ((cm 4), .inl (E 0, 16, .inl (fun _ => 0))), ((cm 5), .inl (E 1, 6400, .inl (fun _ => 0))), ((cm 8), .inl (E 1, 6400, .inl (fun _ => 0))), ((cm 9), .inl (E 1, 6400, .inl (fun _ => 0))), ((cm 10), .inl (E 0, 6400, .inl (fun _ => 0))), ((cm 12), .inl (E 0, 60, .inl (fun _ => 0))), ((cm 13), .inl (E 0, 60, .inl (fun _ => 0))), ((cm 14), .inl (E 0, 60, .inl (fun _ => 0))), ((cm 15), .inl (E 0, 60, .inl (fun _ => 0))), ((cm 16), .inl (E 0, 60, .inl (fun _ => 0))), ((cm 32), .inl (E 2, 120, .inl (fun _ => 0))), ((cm 47), .inl (E 0, 5, .inl (fun _ => 0))), ((cm 55), .inl (E 0, 5, .inl (fun _ => 0))), ((cm 58), .inl (E 0, 3, .inl (fun _ => 0))), ((cm 62), .inl (E 0, 9, .inl (fun _ => 0)))] := hD
  rcases hw_2 with ⟨hr_3, hw_2⟩ | ⟨hr_3, hw_2⟩
  ·
    refine W_top (y := .int 1) (by rw [hr_3]) ?_
    refine lv_aload_n hx hb dL_law_1335 rfl (lv_at hl 1 rfl) ?_
    refine lv_aload_n hx hb dL_law_1336 rfl (lv_at hl 3 rfl) ?_
    refine lv_iload_n hx hb dL_law_1337 rfl (lv_at hl 0 rfl) ?_
    refine lv_iconst (v := 1) hx hb dL_law_1338 (by decide) ?_
    refine lv_iadd hx hb dL_law_1339 ?_
    refine W_top (y := .int 1) (by decide) ?_
    refine va_sld hx hb hX hbl hbA hS (g_in t_1 (by decide) (by decide)) dL_law_1340 ?_
    refine W_top (y := .int (xs 1)) (congrArg (fun n => Value.int (xs n)) (by decide : (1 : Int32).toNatClampNeg = 1)) ?_
    have hPc := hP.sub (ws' := [(qm, .inr (9, mF cm 0 0 0 0 0 0 0 0 0)), ((cm 62), .inl (E 0, 9, .inl (fun _ => 0)))]) [19, 36] rfl
    have hDc := hD.sub (ws' := [(qm, .inr (9, mF cm 0 0 0 0 0 0 0 0 0)), ((cm 62), .inl (E 0, 9, .inl (fun _ => 0)))]) [19, 36] (by decide) rfl
    refine aft_i (runMV (rest := [.int 1]) (As := [.int (xs 1)]) hx hb hml hown htb hK (c_X9_doubt l D E qm cm (xs 1) _ ) ok_X9_doubt k_1456 k_1457 k_1458 k_9 k_1459 ⟨(Nat.le_of_ble_eq_true rfl), (Nat.le_of_ble_eq_true rfl)⟩ ⟨(Nat.le_of_ble_eq_true rfl), (Nat.le_of_ble_eq_true rfl)⟩ hl.1 (Nat.le_of_ble_eq_true rfl) rfl rfl dL_law_1341 hPc hDc rfl rfl 0 rfl) hP hD hS hA [19, 36] [0, 1, 2, 3, 4, 5, 6, 7, 8, 9, 10, 11, 12, 13, 14, 15, 16, 17, 18, 20, 21, 22, 23, 24, 25, 26, 27, 28, 29, 30, 31, 32, 33, 34, 35] (wr := [((ax 0), .inl (E 0, 400, .inl fw)), ((ax 1), .inl (E 0, 16, .inl (fun _ => -5))), ((ax 2), .inl (E 0, 16, .inl (fun _ => 0))), ((ax 3), .inl (E 3, 16, .inr (.inr (.inr (.inr (fun _ => none)))))), ((ax 4), .inl (E 4, 5, .inr (.inr (.inr (.inr (fun j => some (ax (13 + j)))))))), ((ax 13), .inr (5, sF (bx 0))), ((ax 14), .inr (5, sF (bx 1))), ((ax 15), .inr (5, sF (bx 2))), ((ax 16), .inr (5, sF (bx 3))), ((ax 17), .inr (5, sF (bx 4))), ((ax 6), .inr (2, [.ref (ax 18), .ref (ax 19), .ref (ax 20), .ref (ax 21), .ref (ax 22), .int 0])), ((ax 18), .inl (E 0, 60, .inl (fun _ => 0))), ((ax 19), .inl (E 0, 60, .inl (fun _ => 0))), ((ax 20), .inl (E 0, 60, .inl (fun _ => 0))), ((ax 21), .inl (E 0, 60, .inl (fun _ => 0))), ((ax 22), .inl (E 0, 60, .inl (fun _ => 0))), ((ax 9), .inr (6, [.ref (ax 23), .int 0, .ref (ax 24), .ref (E 5), .int 0, .int 0, .int 0, .int 0])), ((ax 23), .inl (E 0, 120, .inl (fun _ => 0))), ((ax 24), .inr (4, [.ref (ax 25), .ref (ax 26), .ref (ax 27), .int 0])), ((cm 2), .inl (E 0, 400, .inl fm)), ((cm 3), .inl (E 0, 16, .inl (fun _ => -5))), ((cm 4), .inl (E 0, 16, .inl (fun _ => 0))), ((cm 5), .inl (E 1, 6400, .inl (fun _ => 0))), ((cm 8), .inl (E 1, 6400, .inl (fun _ => 0))), ((cm 9), .inl (E 1, 6400, .inl (fun _ => 0))), ((cm 10), .inl (E 0, 6400, .inl (fun _ => 0))), ((cm 12), .inl (E 0, 60, .inl (fun _ => 0))), ((cm 13), .inl (E 0, 60, .inl (fun _ => 0))), ((cm 14), .inl (E 0, 60, .inl (fun _ => 0))), ((cm 15), .inl (E 0, 60, .inl (fun _ => 0))), ((cm 16), .inl (E 0, 60, .inl (fun _ => 0))), ((cm 32), .inl (E 2, 120, .inl (fun _ => 0))), ((cm 47), .inl (E 0, 5, .inl (fun _ => 0))), ((cm 55), .inl (E 0, 5, .inl (fun _ => 0))), ((cm 58), .inl (E 0, 3, .inl (fun _ => 0)))]) rfl rfl (by decide) (by decide) (fun r_6 u_4 H locs hw_5 hP hD hS => ?_)
    clear hPc hDc
    have hP : va_P D vwCl [((ax 0), .inl (E 0, 400, .inl fw)), ((ax 1), .inl (E 0, 16, .inl (fun _ => -5))), ((ax 2), .inl (E 0, 16, .inl (fun _ => 0))), ((ax 3), .inl (E 3, 16, .inr (.inr (.inr (.inr (fun _ => none)))))), ((ax 4), .inl (E 4, 5, .inr (.inr (.inr (.inr (fun j => some (ax (13 + j)))))))), ((ax 13), .inr (5, sF (bx 0))), ((ax 14), .inr (5, sF (bx 1))), ((ax 15), .inr (5, sF (bx 2))), ((ax 16), .inr (5, sF (bx 3))), ((ax 17), .inr (5, sF (bx 4))), ((ax 6), .inr (2, [.ref (ax 18), .ref (ax 19), .ref (ax 20), .ref (ax 21), .ref (ax 22), .int 0])), ((ax 18), .inl (E 0, 60, .inl (fun _ => 0))), ((ax 19), .inl (E 0, 60, .inl (fun _ => 0))), ((ax 20), .inl (E 0, 60, .inl (fun _ => 0))), ((ax 21), .inl (E 0, 60, .inl (fun _ => 0))), ((ax 22), .inl (E 0, 60, .inl (fun _ => 0))), ((ax 9), .inr (6, [.ref (ax 23), .int 0, .ref (ax 24), .ref (E 5), .int 0, .int 0, .int 0, .int 0])), ((ax 23), .inl (E 0, 120, .inl (fun _ => 0))), ((ax 24), .inr (4, [.ref (ax 25), .ref (ax 26), .ref (ax 27), .int 0])), ((cm 2), .inl (E 0, 400, .inl fm)), ((cm 3), .inl (E 0, 16, .inl (fun _ => -5))), ((cm 4), .inl (E 0, 16, .inl (fun _ => 0))), ((cm 5), .inl (E 1, 6400, .inl (fun _ => 0))), ((cm 8), .inl (E 1, 6400, .inl (fun _ => 0))), ((cm 9), .inl (E 1, 6400, .inl (fun _ => 0))), ((cm 10), .inl (E 0, 6400, .inl (fun _ => 0))), ((cm 12), .inl (E 0, 60, .inl (fun _ => 0))), ((cm 13), .inl (E 0, 60, .inl (fun _ => 0))), ((cm 14), .inl (E 0, 60, .inl (fun _ => 0))), ((cm 15), .inl (E 0, 60, .inl (fun _ => 0))), ((cm 16), .inl (E 0, 60, .inl (fun _ => 0))), ((cm 32), .inl (E 2, 120, .inl (fun _ => 0))), ((cm 47), .inl (E 0, 5, .inl (fun _ => 0))), ((cm 55), .inl (E 0, 5, .inl (fun _ => 0))), ((cm 58), .inl (E 0, 3, .inl (fun _ => 0)))] H := hP
    have hD : va_D (fun q : Nat => s.heap.size ≤ q) [((ax 0), .inl (E 0, 400, .inl fw)), ((ax 1), .inl (E 0, 16, .inl (fun _ => -5))), ((ax 2), .inl (E 0, 16, .inl (fun _ => 0))), ((ax 3), .inl (E 3, 16, .inr (.inr (.inr (.inr (fun _ => none)))))), ((ax 4), .inl (E 4, 5, .inr (.inr (.inr (.inr (fun j => some (ax (13 + j)))))))), ((ax 13), .inr (5, sF (bx 0))), ((ax 14), .inr (5, sF (bx 1))), ((ax 15), .inr (5, sF (bx 2))), ((ax 16), .inr (5, sF (bx 3))), ((ax 17), .inr (5, sF (bx 4))), ((ax 6), .inr (2, [.ref (ax 18), .ref (ax 19), .ref (ax 20), .ref (ax 21), .ref (ax 22), .int 0])), ((ax 18), .inl (E 0, 60, .inl (fun _ => 0))), ((ax 19), .inl (E 0, 60, .inl (fun _ => 0))), ((ax 20), .inl (E 0, 60, .inl (fun _ => 0))), ((ax 21), .inl (E 0, 60, .inl (fun _ => 0))), ((ax 22), .inl (E 0, 60, .inl (fun _ => 0))), ((ax 9), .inr (6, [.ref (ax 23), .int 0, .ref (ax 24), .ref (E 5), .int 0, .int 0, .int 0, .int 0])), ((ax 23), .inl (E 0, 120, .inl (fun _ => 0))), ((ax 24), .inr (4, [.ref (ax 25), .ref (ax 26), .ref (ax 27), .int 0])), ((cm 2), .inl (E 0, 400, .inl fm)), ((cm 3), .inl (E 0, 16, .inl (fun _ => -5))), ((cm 4), .inl (E 0, 16, .inl (fun _ => 0))), ((cm 5), .inl (E 1, 6400, .inl (fun _ => 0))), ((cm 8), .inl (E 1, 6400, .inl (fun _ => 0))), ((cm 9), .inl (E 1, 6400, .inl (fun _ => 0))), ((cm 10), .inl (E 0, 6400, .inl (fun _ => 0))), ((cm 12), .inl (E 0, 60, .inl (fun _ => 0))), ((cm 13), .inl (E 0, 60, .inl (fun _ => 0))), ((cm 14), .inl (E 0, 60, .inl (fun _ => 0))), ((cm 15), .inl (E 0, 60, .inl (fun _ => 0))), ((cm 16), .inl (E 0, 60, .inl (fun _ => 0))), ((cm 32), .inl (E 2, 120, .inl (fun _ => 0))), ((cm 47), .inl (E 0, 5, .inl (fun _ => 0))), ((cm 55), .inl (E 0, 5, .inl (fun _ => 0))), ((cm 58), .inl (E 0, 3, .inl (fun _ => 0)))] := hD
    rcases hw_5 with ⟨hr_6, hw_5⟩ | ⟨hr_6, hw_5⟩
    ·
      refine W_top (y := .int 1) (by rw [hr_6]) ?_
      refine lv_icmp_eq (tgt := 1550) hx hb dL_law_1344 (by decide) (fun c_7 => ?_) (fun c_7 => absurd rfl c_7)
      exact law_end hx hb hr hml hown htb hX hbl hlocks hS (lv_sub hl [0, 3] rfl) (Nat.le_of_ble_eq_true rfl) (Nat.le_of_ble_eq_true rfl)
    ·
      refine W_top (y := .int (-1)) (by rw [hr_6]) ?_
      exfalso; omega
  ·
    refine W_top (y := .int (-1)) (by rw [hr_3]) ?_
    refine lv_aload_n hx hb dL_law_1335 rfl (lv_at hl 1 rfl) ?_
    refine lv_aload_n hx hb dL_law_1336 rfl (lv_at hl 3 rfl) ?_
    refine lv_iload_n hx hb dL_law_1337 rfl (lv_at hl 0 rfl) ?_
    refine lv_iconst (v := 1) hx hb dL_law_1338 (by decide) ?_
    refine lv_iadd hx hb dL_law_1339 ?_
    refine W_top (y := .int 1) (by decide) ?_
    refine va_sld hx hb hX hbl hbA hS (g_in t_1 (by decide) (by decide)) dL_law_1340 ?_
    refine W_top (y := .int (xs 1)) (congrArg (fun n => Value.int (xs n)) (by decide : (1 : Int32).toNatClampNeg = 1)) ?_
    have hPc := hP.sub (ws' := [(qm, .inr (9, mF cm 0 0 0 0 0 0 0 0 0)), ((cm 62), .inl (E 0, 9, .inl (fun _ => 0)))]) [19, 36] rfl
    have hDc := hD.sub (ws' := [(qm, .inr (9, mF cm 0 0 0 0 0 0 0 0 0)), ((cm 62), .inl (E 0, 9, .inl (fun _ => 0)))]) [19, 36] (by decide) rfl
    refine aft_i (runMV (rest := [.int (-1)]) (As := [.int (xs 1)]) hx hb hml hown htb hK (c_X9_doubt l D E qm cm (xs 1) _ ) ok_X9_doubt k_1456 k_1457 k_1458 k_9 k_1459 ⟨(Nat.le_of_ble_eq_true rfl), (Nat.le_of_ble_eq_true rfl)⟩ ⟨(Nat.le_of_ble_eq_true rfl), (Nat.le_of_ble_eq_true rfl)⟩ hl.1 (Nat.le_of_ble_eq_true rfl) rfl rfl dL_law_1341 hPc hDc rfl rfl 0 rfl) hP hD hS hA [19, 36] [0, 1, 2, 3, 4, 5, 6, 7, 8, 9, 10, 11, 12, 13, 14, 15, 16, 17, 18, 20, 21, 22, 23, 24, 25, 26, 27, 28, 29, 30, 31, 32, 33, 34, 35] (wr := [((ax 0), .inl (E 0, 400, .inl fw)), ((ax 1), .inl (E 0, 16, .inl (fun _ => -5))), ((ax 2), .inl (E 0, 16, .inl (fun _ => 0))), ((ax 3), .inl (E 3, 16, .inr (.inr (.inr (.inr (fun _ => none)))))), ((ax 4), .inl (E 4, 5, .inr (.inr (.inr (.inr (fun j => some (ax (13 + j)))))))), ((ax 13), .inr (5, sF (bx 0))), ((ax 14), .inr (5, sF (bx 1))), ((ax 15), .inr (5, sF (bx 2))), ((ax 16), .inr (5, sF (bx 3))), ((ax 17), .inr (5, sF (bx 4))), ((ax 6), .inr (2, [.ref (ax 18), .ref (ax 19), .ref (ax 20), .ref (ax 21), .ref (ax 22), .int 0])), ((ax 18), .inl (E 0, 60, .inl (fun _ => 0))), ((ax 19), .inl (E 0, 60, .inl (fun _ => 0))), ((ax 20), .inl (E 0, 60, .inl (fun _ => 0))), ((ax 21), .inl (E 0, 60, .inl (fun _ => 0))), ((ax 22), .inl (E 0, 60, .inl (fun _ => 0))), ((ax 9), .inr (6, [.ref (ax 23), .int 0, .ref (ax 24), .ref (E 5), .int 0, .int 0, .int 0, .int 0])), ((ax 23), .inl (E 0, 120, .inl (fun _ => 0))), ((ax 24), .inr (4, [.ref (ax 25), .ref (ax 26), .ref (ax 27), .int 0])), ((cm 2), .inl (E 0, 400, .inl fm)), ((cm 3), .inl (E 0, 16, .inl (fun _ => -5))), ((cm 4), .inl (E 0, 16, .inl (fun _ => 0))), ((cm 5), .inl (E 1, 6400, .inl (fun _ => 0))), ((cm 8), .inl (E 1, 6400, .inl (fun _ => 0))), ((cm 9), .inl (E 1, 6400, .inl (fun _ => 0))), ((cm 10), .inl (E 0, 6400, .inl (fun _ => 0))), ((cm 12), .inl (E 0, 60, .inl (fun _ => 0))), ((cm 13), .inl (E 0, 60, .inl (fun _ => 0))), ((cm 14), .inl (E 0, 60, .inl (fun _ => 0))), ((cm 15), .inl (E 0, 60, .inl (fun _ => 0))), ((cm 16), .inl (E 0, 60, .inl (fun _ => 0))), ((cm 32), .inl (E 2, 120, .inl (fun _ => 0))), ((cm 47), .inl (E 0, 5, .inl (fun _ => 0))), ((cm 55), .inl (E 0, 5, .inl (fun _ => 0))), ((cm 58), .inl (E 0, 3, .inl (fun _ => 0)))]) rfl rfl (by decide) (by decide) (fun r_10 u_8 H locs hw_9 hP hD hS => ?_)
    clear hPc hDc
    have hP : va_P D vwCl [((ax 0), .inl (E 0, 400, .inl fw)), ((ax 1), .inl (E 0, 16, .inl (fun _ => -5))), ((ax 2), .inl (E 0, 16, .inl (fun _ => 0))), ((ax 3), .inl (E 3, 16, .inr (.inr (.inr (.inr (fun _ => none)))))), ((ax 4), .inl (E 4, 5, .inr (.inr (.inr (.inr (fun j => some (ax (13 + j)))))))), ((ax 13), .inr (5, sF (bx 0))), ((ax 14), .inr (5, sF (bx 1))), ((ax 15), .inr (5, sF (bx 2))), ((ax 16), .inr (5, sF (bx 3))), ((ax 17), .inr (5, sF (bx 4))), ((ax 6), .inr (2, [.ref (ax 18), .ref (ax 19), .ref (ax 20), .ref (ax 21), .ref (ax 22), .int 0])), ((ax 18), .inl (E 0, 60, .inl (fun _ => 0))), ((ax 19), .inl (E 0, 60, .inl (fun _ => 0))), ((ax 20), .inl (E 0, 60, .inl (fun _ => 0))), ((ax 21), .inl (E 0, 60, .inl (fun _ => 0))), ((ax 22), .inl (E 0, 60, .inl (fun _ => 0))), ((ax 9), .inr (6, [.ref (ax 23), .int 0, .ref (ax 24), .ref (E 5), .int 0, .int 0, .int 0, .int 0])), ((ax 23), .inl (E 0, 120, .inl (fun _ => 0))), ((ax 24), .inr (4, [.ref (ax 25), .ref (ax 26), .ref (ax 27), .int 0])), ((cm 2), .inl (E 0, 400, .inl fm)), ((cm 3), .inl (E 0, 16, .inl (fun _ => -5))), ((cm 4), .inl (E 0, 16, .inl (fun _ => 0))), ((cm 5), .inl (E 1, 6400, .inl (fun _ => 0))), ((cm 8), .inl (E 1, 6400, .inl (fun _ => 0))), ((cm 9), .inl (E 1, 6400, .inl (fun _ => 0))), ((cm 10), .inl (E 0, 6400, .inl (fun _ => 0))), ((cm 12), .inl (E 0, 60, .inl (fun _ => 0))), ((cm 13), .inl (E 0, 60, .inl (fun _ => 0))), ((cm 14), .inl (E 0, 60, .inl (fun _ => 0))), ((cm 15), .inl (E 0, 60, .inl (fun _ => 0))), ((cm 16), .inl (E 0, 60, .inl (fun _ => 0))), ((cm 32), .inl (E 2, 120, .inl (fun _ => 0))), ((cm 47), .inl (E 0, 5, .inl (fun _ => 0))), ((cm 55), .inl (E 0, 5, .inl (fun _ => 0))), ((cm 58), .inl (E 0, 3, .inl (fun _ => 0)))] H := hP
    have hD : va_D (fun q : Nat => s.heap.size ≤ q) [((ax 0), .inl (E 0, 400, .inl fw)), ((ax 1), .inl (E 0, 16, .inl (fun _ => -5))), ((ax 2), .inl (E 0, 16, .inl (fun _ => 0))), ((ax 3), .inl (E 3, 16, .inr (.inr (.inr (.inr (fun _ => none)))))), ((ax 4), .inl (E 4, 5, .inr (.inr (.inr (.inr (fun j => some (ax (13 + j)))))))), ((ax 13), .inr (5, sF (bx 0))), ((ax 14), .inr (5, sF (bx 1))), ((ax 15), .inr (5, sF (bx 2))), ((ax 16), .inr (5, sF (bx 3))), ((ax 17), .inr (5, sF (bx 4))), ((ax 6), .inr (2, [.ref (ax 18), .ref (ax 19), .ref (ax 20), .ref (ax 21), .ref (ax 22), .int 0])), ((ax 18), .inl (E 0, 60, .inl (fun _ => 0))), ((ax 19), .inl (E 0, 60, .inl (fun _ => 0))), ((ax 20), .inl (E 0, 60, .inl (fun _ => 0))), ((ax 21), .inl (E 0, 60, .inl (fun _ => 0))), ((ax 22), .inl (E 0, 60, .inl (fun _ => 0))), ((ax 9), .inr (6, [.ref (ax 23), .int 0, .ref (ax 24), .ref (E 5), .int 0, .int 0, .int 0, .int 0])), ((ax 23), .inl (E 0, 120, .inl (fun _ => 0))), ((ax 24), .inr (4, [.ref (ax 25), .ref (ax 26), .ref (ax 27), .int 0])), ((cm 2), .inl (E 0, 400, .inl fm)), ((cm 3), .inl (E 0, 16, .inl (fun _ => -5))), ((cm 4), .inl (E 0, 16, .inl (fun _ => 0))), ((cm 5), .inl (E 1, 6400, .inl (fun _ => 0))), ((cm 8), .inl (E 1, 6400, .inl (fun _ => 0))), ((cm 9), .inl (E 1, 6400, .inl (fun _ => 0))), ((cm 10), .inl (E 0, 6400, .inl (fun _ => 0))), ((cm 12), .inl (E 0, 60, .inl (fun _ => 0))), ((cm 13), .inl (E 0, 60, .inl (fun _ => 0))), ((cm 14), .inl (E 0, 60, .inl (fun _ => 0))), ((cm 15), .inl (E 0, 60, .inl (fun _ => 0))), ((cm 16), .inl (E 0, 60, .inl (fun _ => 0))), ((cm 32), .inl (E 2, 120, .inl (fun _ => 0))), ((cm 47), .inl (E 0, 5, .inl (fun _ => 0))), ((cm 55), .inl (E 0, 5, .inl (fun _ => 0))), ((cm 58), .inl (E 0, 3, .inl (fun _ => 0)))] := hD
    rcases hw_9 with ⟨hr_10, hw_9⟩ | ⟨hr_10, hw_9⟩
    ·
      refine W_top (y := .int 1) (by rw [hr_10]) ?_
      exfalso; omega
    ·
      refine W_top (y := .int (-1)) (by rw [hr_10]) ?_
      refine lv_icmp_eq (tgt := 1550) hx hb dL_law_1344 (by decide) (fun c_11 => ?_) (fun c_11 => absurd rfl c_11)
      exact law_end hx hb hr hml hown htb hX hbl hlocks hS (lv_sub hl [0, 3] rfl) (Nat.le_of_ble_eq_true rfl) (Nat.le_of_ble_eq_true rfl)
set_option maxHeartbeats 4000000 in
set_option maxRecDepth 100000 in
theorem law_29 {p : Program} {l : Launch} {e : Env} {s : State} {m : MethodId} {below : List Frame} {meth : Method} {c : Code} {D : va_G} {E : Nat → Nat} {b : Nat} {xs : Nat → Int32} {qx : Nat} {ax : Nat → Nat} {bx : Nat → Nat → Nat} {fw : Nat → Int32} {qm : Nat} {cm : Nat → Nat} {fm : Nat → Int32} {H : Heap} {locs : List Loc} {ls : Array Slot} (hx : p.tables.exec = Jvm.exec) (hb : c.code = code) (hr : meth.sig.returnType = ret) (hml : c.maxLocals = 4) (hown : s.vm.findClass R_law = some m.cls) (htb : ∀ w ∈ tb, w.before #[Value.ref b] s = true) (hK : KX D E s) (hX : va_X b 6 xs s s.heap) (hbl : b < s.heap.size) (hlocks : meth.locks = false) (hP : va_P D vwCl (LW E qx ax bx fw qm cm fm) H) (hD : va_D (fun q : Nat => s.heap.size ≤ q) (LW E qx ax bx fw qm cm fm)) (hS : va_S (fun q : Nat => s.heap.size ≤ q) s.heap H locs) (hl : lv_has ls 4 [(3, .int 0), (2, .ref qm), (1, .ref qx), (0, .ref b)]) : W p l e room_1 s m #[Value.ref b] below meth c H locs 123 44666 (lw_Z below #[Value.ref b] s) (F0 m 1349 ls []) := by
  have hA : ∀ q : Nat, s.heap.size ≤ q → (fun q : Nat => s.heap.size ≤ q) q := fun _ h => h
  have hbA : ¬ (fun q : Nat => s.heap.size ≤ q) b := Nat.not_le.mpr hbl
  refine lv_aload_n hx hb dL_law_1349 rfl (lv_at hl 2 rfl) ?_
  refine lv_aload_n hx hb dL_law_1350 rfl (lv_at hl 3 rfl) ?_
  refine lv_iload_n hx hb dL_law_1351 rfl (lv_at hl 0 rfl) ?_
  refine lv_iconst (v := 1) hx hb dL_law_1352 (by decide) ?_
  refine lv_iadd hx hb dL_law_1353 ?_
  refine W_top (y := .int 1) (by decide) ?_
  refine va_sld hx hb hX hbl hbA hS (g_in t_1 (by decide) (by decide)) dL_law_1354 ?_
  refine W_top (y := .int (xs 1)) (congrArg (fun n => Value.int (xs n)) (by decide : (1 : Int32).toNatClampNeg = 1)) ?_
  refine lv_aload_n hx hb dL_law_1355 rfl (lv_at hl 3 rfl) ?_
  refine lv_iload_n hx hb dL_law_1356 rfl (lv_at hl 0 rfl) ?_
  refine lv_iconst (v := 2) hx hb dL_law_1357 (by decide) ?_
  refine lv_iadd hx hb dL_law_1358 ?_
  refine W_top (y := .int 2) (by decide) ?_
  refine va_sld hx hb hX hbl hbA hS (g_in t_2 (by decide) (by decide)) dL_law_1359 ?_
  refine W_top (y := .int (xs 2)) (congrArg (fun n => Value.int (xs n)) (by decide : (2 : Int32).toNatClampNeg = 2)) ?_
  refine lv_aload_n hx hb dL_law_1360 rfl (lv_at hl 3 rfl) ?_
  refine lv_iload_n hx hb dL_law_1361 rfl (lv_at hl 0 rfl) ?_
  refine lv_iconst (v := 3) hx hb dL_law_1362 (by decide) ?_
  refine lv_iadd hx hb dL_law_1363 ?_
  refine W_top (y := .int 3) (by decide) ?_
  refine va_sld hx hb hX hbl hbA hS (g_in t_3 (by decide) (by decide)) dL_law_1364 ?_
  refine W_top (y := .int (xs 3)) (congrArg (fun n => Value.int (xs n)) (by decide : (3 : Int32).toNatClampNeg = 3)) ?_
  refine callRV (rest := []) (As := [.int (xs 1), .int (xs 2), .int (xs 3)]) hx hb hml hown htb hK (c_X8_deal l D E qx ax (xs 1) (xs 2) (xs 3) ) ok_X8_deal k_894 k_895 k_896 k_1 k_897 ⟨(Nat.le_of_ble_eq_true rfl), (Nat.le_of_ble_eq_true rfl)⟩ ⟨(Nat.le_of_ble_eq_true rfl), (Nat.le_of_ble_eq_true rfl)⟩ hl.1 (Nat.le_of_ble_eq_true rfl) rfl rfl dL_law_1365 (hP.sub (ws' := [(qx, .inr (8, xF ax 0)), ((ax 10), .inr (0, [.ref (ax 28), .ref (ax 29), .ref (ax 30), .ref (ax 31), .ref (ax 32), .int 0, .int 0, .int 0, .int 0]))]) [0, 20] rfl) rfl rfl 0 rfl (fun r_2 hw_1 => ?_)
  rcases hw_1 with ⟨hr_2, hw_1⟩ | ⟨hr_2, hw_1⟩
  ·
    refine W_top (y := .int (-4)) (by rw [hr_2]) ?_
    refine lv_aload_n hx hb dL_law_1368 rfl (lv_at hl 1 rfl) ?_
    refine lv_aload_n hx hb dL_law_1369 rfl (lv_at hl 3 rfl) ?_
    refine lv_iload_n hx hb dL_law_1370 rfl (lv_at hl 0 rfl) ?_
    refine lv_iconst (v := 1) hx hb dL_law_1371 (by decide) ?_
    refine lv_iadd hx hb dL_law_1372 ?_
    refine W_top (y := .int 1) (by decide) ?_
    refine va_sld hx hb hX hbl hbA hS (g_in t_1 (by decide) (by decide)) dL_law_1373 ?_
    refine W_top (y := .int (xs 1)) (congrArg (fun n => Value.int (xs n)) (by decide : (1 : Int32).toNatClampNeg = 1)) ?_
    refine lv_aload_n hx hb dL_law_1374 rfl (lv_at hl 3 rfl) ?_
    refine lv_iload_n hx hb dL_law_1375 rfl (lv_at hl 0 rfl) ?_
    refine lv_iconst (v := 2) hx hb dL_law_1376 (by decide) ?_
    refine lv_iadd hx hb dL_law_1377 ?_
    refine W_top (y := .int 2) (by decide) ?_
    refine va_sld hx hb hX hbl hbA hS (g_in t_2 (by decide) (by decide)) dL_law_1378 ?_
    refine W_top (y := .int (xs 2)) (congrArg (fun n => Value.int (xs n)) (by decide : (2 : Int32).toNatClampNeg = 2)) ?_
    refine lv_aload_n hx hb dL_law_1379 rfl (lv_at hl 3 rfl) ?_
    refine lv_iload_n hx hb dL_law_1380 rfl (lv_at hl 0 rfl) ?_
    refine lv_iconst (v := 3) hx hb dL_law_1381 (by decide) ?_
    refine lv_iadd hx hb dL_law_1382 ?_
    refine W_top (y := .int 3) (by decide) ?_
    refine va_sld hx hb hX hbl hbA hS (g_in t_3 (by decide) (by decide)) dL_law_1383 ?_
    refine W_top (y := .int (xs 3)) (congrArg (fun n => Value.int (xs n)) (by decide : (3 : Int32).toNatClampNeg = 3)) ?_
    refine callRV (rest := [.int (-4)]) (As := [.int (xs 1), .int (xs 2), .int (xs 3)]) hx hb hml hown htb hK (c_X9_deal l D E qm cm (xs 1) (xs 2) (xs 3) ) ok_X9_deal k_1460 k_1461 k_1462 k_9 k_1463 ⟨(Nat.le_of_ble_eq_true rfl), (Nat.le_of_ble_eq_true rfl)⟩ ⟨(Nat.le_of_ble_eq_true rfl), (Nat.le_of_ble_eq_true rfl)⟩ hl.1 (Nat.le_of_ble_eq_true rfl) rfl rfl dL_law_1384 (hP.sub (ws' := [(qm, .inr (9, mF cm 0 0 0 0 0 0 0 0 0))]) [22] rfl) rfl rfl 0 rfl (fun r_4 hw_3 => ?_)
    rcases hw_3 with ⟨hr_4, hw_3⟩ | ⟨hr_4, hw_3⟩
    ·
      refine W_top (y := .int (-4)) (by rw [hr_4]) ?_
      refine lv_icmp_eq (tgt := 1550) hx hb dL_law_1387 (by decide) (fun c_5 => ?_) (fun c_5 => absurd rfl c_5)
      exact law_end hx hb hr hml hown htb hX hbl hlocks hS (lv_sub hl [0, 3] rfl) (Nat.le_of_ble_eq_true rfl) (Nat.le_of_ble_eq_true rfl)
    ·
      refine W_top (y := .int (-1)) (by rw [hr_4]) ?_
      exfalso; omega
  ·
    refine W_top (y := .int (-1)) (by rw [hr_2]) ?_
    refine lv_aload_n hx hb dL_law_1368 rfl (lv_at hl 1 rfl) ?_
    refine lv_aload_n hx hb dL_law_1369 rfl (lv_at hl 3 rfl) ?_
    refine lv_iload_n hx hb dL_law_1370 rfl (lv_at hl 0 rfl) ?_
    refine lv_iconst (v := 1) hx hb dL_law_1371 (by decide) ?_
    refine lv_iadd hx hb dL_law_1372 ?_
    refine W_top (y := .int 1) (by decide) ?_
    refine va_sld hx hb hX hbl hbA hS (g_in t_1 (by decide) (by decide)) dL_law_1373 ?_
    refine W_top (y := .int (xs 1)) (congrArg (fun n => Value.int (xs n)) (by decide : (1 : Int32).toNatClampNeg = 1)) ?_
    refine lv_aload_n hx hb dL_law_1374 rfl (lv_at hl 3 rfl) ?_
    refine lv_iload_n hx hb dL_law_1375 rfl (lv_at hl 0 rfl) ?_
    refine lv_iconst (v := 2) hx hb dL_law_1376 (by decide) ?_
    refine lv_iadd hx hb dL_law_1377 ?_
    refine W_top (y := .int 2) (by decide) ?_
    refine va_sld hx hb hX hbl hbA hS (g_in t_2 (by decide) (by decide)) dL_law_1378 ?_
    refine W_top (y := .int (xs 2)) (congrArg (fun n => Value.int (xs n)) (by decide : (2 : Int32).toNatClampNeg = 2)) ?_
    refine lv_aload_n hx hb dL_law_1379 rfl (lv_at hl 3 rfl) ?_
    refine lv_iload_n hx hb dL_law_1380 rfl (lv_at hl 0 rfl) ?_
    refine lv_iconst (v := 3) hx hb dL_law_1381 (by decide) ?_
    refine lv_iadd hx hb dL_law_1382 ?_
    refine W_top (y := .int 3) (by decide) ?_
    refine va_sld hx hb hX hbl hbA hS (g_in t_3 (by decide) (by decide)) dL_law_1383 ?_
    refine W_top (y := .int (xs 3)) (congrArg (fun n => Value.int (xs n)) (by decide : (3 : Int32).toNatClampNeg = 3)) ?_
    refine callRV (rest := [.int (-1)]) (As := [.int (xs 1), .int (xs 2), .int (xs 3)]) hx hb hml hown htb hK (c_X9_deal l D E qm cm (xs 1) (xs 2) (xs 3) ) ok_X9_deal k_1460 k_1461 k_1462 k_9 k_1463 ⟨(Nat.le_of_ble_eq_true rfl), (Nat.le_of_ble_eq_true rfl)⟩ ⟨(Nat.le_of_ble_eq_true rfl), (Nat.le_of_ble_eq_true rfl)⟩ hl.1 (Nat.le_of_ble_eq_true rfl) rfl rfl dL_law_1384 (hP.sub (ws' := [(qm, .inr (9, mF cm 0 0 0 0 0 0 0 0 0))]) [22] rfl) rfl rfl 0 rfl (fun r_7 hw_6 => ?_)
    rcases hw_6 with ⟨hr_7, hw_6⟩ | ⟨hr_7, hw_6⟩
    ·
      refine W_top (y := .int (-4)) (by rw [hr_7]) ?_
      exfalso; omega
    ·
      refine W_top (y := .int (-1)) (by rw [hr_7]) ?_
      refine lv_icmp_eq (tgt := 1550) hx hb dL_law_1387 (by decide) (fun c_8 => ?_) (fun c_8 => absurd rfl c_8)
      exact law_end hx hb hr hml hown htb hX hbl hlocks hS (lv_sub hl [0, 3] rfl) (Nat.le_of_ble_eq_true rfl) (Nat.le_of_ble_eq_true rfl)
set_option maxHeartbeats 4000000 in
set_option maxRecDepth 100000 in
theorem law_30 {p : Program} {l : Launch} {e : Env} {s : State} {m : MethodId} {below : List Frame} {meth : Method} {c : Code} {D : va_G} {E : Nat → Nat} {b : Nat} {xs : Nat → Int32} {qx : Nat} {ax : Nat → Nat} {bx : Nat → Nat → Nat} {fw : Nat → Int32} {qm : Nat} {cm : Nat → Nat} {fm : Nat → Int32} {H : Heap} {locs : List Loc} {ls : Array Slot} (hx : p.tables.exec = Jvm.exec) (hb : c.code = code) (hr : meth.sig.returnType = ret) (hml : c.maxLocals = 4) (hown : s.vm.findClass R_law = some m.cls) (htb : ∀ w ∈ tb, w.before #[Value.ref b] s = true) (hK : KX D E s) (hX : va_X b 6 xs s s.heap) (hbl : b < s.heap.size) (hlocks : meth.locks = false) (hP : va_P D vwCl (LW E qx ax bx fw qm cm fm) H) (hD : va_D (fun q : Nat => s.heap.size ≤ q) (LW E qx ax bx fw qm cm fm)) (hS : va_S (fun q : Nat => s.heap.size ≤ q) s.heap H locs) (hl : lv_has ls 4 [(3, .int 0), (2, .ref qm), (1, .ref qx), (0, .ref b)]) : W p l e room_1 s m #[Value.ref b] below meth c H locs 123 44666 (lw_Z below #[Value.ref b] s) (F0 m 1392 ls []) := by
  have hA : ∀ q : Nat, s.heap.size ≤ q → (fun q : Nat => s.heap.size ≤ q) q := fun _ h => h
  have hbA : ¬ (fun q : Nat => s.heap.size ≤ q) b := Nat.not_le.mpr hbl
  refine lv_aload_n hx hb dL_law_1392 rfl (lv_at hl 2 rfl) ?_
  refine lv_aload_n hx hb dL_law_1393 rfl (lv_at hl 3 rfl) ?_
  refine lv_iload_n hx hb dL_law_1394 rfl (lv_at hl 0 rfl) ?_
  refine lv_iconst (v := 1) hx hb dL_law_1395 (by decide) ?_
  refine lv_iadd hx hb dL_law_1396 ?_
  refine W_top (y := .int 1) (by decide) ?_
  refine va_sld hx hb hX hbl hbA hS (g_in t_1 (by decide) (by decide)) dL_law_1397 ?_
  refine W_top (y := .int (xs 1)) (congrArg (fun n => Value.int (xs n)) (by decide : (1 : Int32).toNatClampNeg = 1)) ?_
  refine callRV (rest := []) (As := [.int (xs 1)]) hx hb hml hown htb hK (c_X8_dealt l D E qx ax (xs 1) ) ok_X8_dealt k_917 k_918 k_919 k_1 k_920 ⟨(Nat.le_of_ble_eq_true rfl), (Nat.le_of_ble_eq_true rfl)⟩ ⟨(Nat.le_of_ble_eq_true rfl), (Nat.le_of_ble_eq_true rfl)⟩ hl.1 (Nat.le_of_ble_eq_true rfl) rfl rfl dL_law_1398 (hP.sub (ws' := [(qx, .inr (8, xF ax 0)), ((ax 10), .inr (0, [.ref (ax 28), .ref (ax 29), .ref (ax 30), .ref (ax 31), .ref (ax 32), .int 0, .int 0, .int 0, .int 0]))]) [0, 20] rfl) rfl rfl 0 rfl (fun r_2 hw_1 => ?_)
  obtain ⟨hr_2, hw_1⟩ := hw_1
  refine W_top (y := .int (-2000000000)) (by rw [hr_2]) ?_
  refine lv_aload_n hx hb dL_law_1401 rfl (lv_at hl 1 rfl) ?_
  refine lv_aload_n hx hb dL_law_1402 rfl (lv_at hl 3 rfl) ?_
  refine lv_iload_n hx hb dL_law_1403 rfl (lv_at hl 0 rfl) ?_
  refine lv_iconst (v := 1) hx hb dL_law_1404 (by decide) ?_
  refine lv_iadd hx hb dL_law_1405 ?_
  refine W_top (y := .int 1) (by decide) ?_
  refine va_sld hx hb hX hbl hbA hS (g_in t_1 (by decide) (by decide)) dL_law_1406 ?_
  refine W_top (y := .int (xs 1)) (congrArg (fun n => Value.int (xs n)) (by decide : (1 : Int32).toNatClampNeg = 1)) ?_
  refine callRV (rest := [.int (-2000000000)]) (As := [.int (xs 1)]) hx hb hml hown htb hK (c_X9_dealt l D E qm cm (xs 1) ) ok_X9_dealt k_1472 k_1473 k_1474 k_9 k_1475 ⟨(Nat.le_of_ble_eq_true rfl), (Nat.le_of_ble_eq_true rfl)⟩ ⟨(Nat.le_of_ble_eq_true rfl), (Nat.le_of_ble_eq_true rfl)⟩ hl.1 (Nat.le_of_ble_eq_true rfl) rfl rfl dL_law_1407 (hP.sub (ws' := [(qm, .inr (9, mF cm 0 0 0 0 0 0 0 0 0))]) [22] rfl) rfl rfl 0 rfl (fun r_4 hw_3 => ?_)
  obtain ⟨hr_4, hw_3⟩ := hw_3
  refine W_top (y := .int (-2000000000)) (by rw [hr_4]) ?_
  refine lv_icmp_eq (tgt := 1550) hx hb dL_law_1410 (by decide) (fun c_5 => ?_) (fun c_5 => absurd rfl c_5)
  exact law_end hx hb hr hml hown htb hX hbl hlocks hS (lv_sub hl [0, 3] rfl) (Nat.le_of_ble_eq_true rfl) (Nat.le_of_ble_eq_true rfl)
set_option maxHeartbeats 4000000 in
set_option maxRecDepth 100000 in
theorem law_31 {p : Program} {l : Launch} {e : Env} {s : State} {m : MethodId} {below : List Frame} {meth : Method} {c : Code} {D : va_G} {E : Nat → Nat} {b : Nat} {xs : Nat → Int32} {qx : Nat} {ax : Nat → Nat} {bx : Nat → Nat → Nat} {fw : Nat → Int32} {qm : Nat} {cm : Nat → Nat} {fm : Nat → Int32} {H : Heap} {locs : List Loc} {ls : Array Slot} (hx : p.tables.exec = Jvm.exec) (hb : c.code = code) (hr : meth.sig.returnType = ret) (hml : c.maxLocals = 4) (hown : s.vm.findClass R_law = some m.cls) (htb : ∀ w ∈ tb, w.before #[Value.ref b] s = true) (hK : KX D E s) (hX : va_X b 6 xs s s.heap) (hbl : b < s.heap.size) (hlocks : meth.locks = false) (hP : va_P D vwCl (LW E qx ax bx fw qm cm fm) H) (hD : va_D (fun q : Nat => s.heap.size ≤ q) (LW E qx ax bx fw qm cm fm)) (hS : va_S (fun q : Nat => s.heap.size ≤ q) s.heap H locs) (hl : lv_has ls 4 [(3, .int 0), (2, .ref qm), (1, .ref qx), (0, .ref b)]) : W p l e room_1 s m #[Value.ref b] below meth c H locs 123 44666 (lw_Z below #[Value.ref b] s) (F0 m 1415 ls []) := by
  have hA : ∀ q : Nat, s.heap.size ≤ q → (fun q : Nat => s.heap.size ≤ q) q := fun _ h => h
  have hbA : ¬ (fun q : Nat => s.heap.size ≤ q) b := Nat.not_le.mpr hbl
  refine lv_aload_n hx hb dL_law_1415 rfl (lv_at hl 2 rfl) ?_
  refine lv_aload_n hx hb dL_law_1416 rfl (lv_at hl 3 rfl) ?_
  refine lv_iload_n hx hb dL_law_1417 rfl (lv_at hl 0 rfl) ?_
  refine lv_iconst (v := 1) hx hb dL_law_1418 (by decide) ?_
  refine lv_iadd hx hb dL_law_1419 ?_
  refine W_top (y := .int 1) (by decide) ?_
  refine va_sld hx hb hX hbl hbA hS (g_in t_1 (by decide) (by decide)) dL_law_1420 ?_
  refine W_top (y := .int (xs 1)) (congrArg (fun n => Value.int (xs n)) (by decide : (1 : Int32).toNatClampNeg = 1)) ?_
  refine lv_aload_n hx hb dL_law_1421 rfl (lv_at hl 3 rfl) ?_
  refine lv_iload_n hx hb dL_law_1422 rfl (lv_at hl 0 rfl) ?_
  refine lv_iconst (v := 2) hx hb dL_law_1423 (by decide) ?_
  refine lv_iadd hx hb dL_law_1424 ?_
  refine W_top (y := .int 2) (by decide) ?_
  refine va_sld hx hb hX hbl hbA hS (g_in t_2 (by decide) (by decide)) dL_law_1425 ?_
  refine W_top (y := .int (xs 2)) (congrArg (fun n => Value.int (xs n)) (by decide : (2 : Int32).toNatClampNeg = 2)) ?_
  refine callRV (rest := []) (As := [.int (xs 1), .int (xs 2)]) hx hb hml hown htb hK (c_X8_lend l D E qx ax (xs 1) (xs 2) ) ok_X8_lend k_921 k_922 k_923 k_1 k_924 ⟨(Nat.le_of_ble_eq_true rfl), (Nat.le_of_ble_eq_true rfl)⟩ ⟨(Nat.le_of_ble_eq_true rfl), (Nat.le_of_ble_eq_true rfl)⟩ hl.1 (Nat.le_of_ble_eq_true rfl) rfl rfl dL_law_1426 (hP.sub (ws' := [(qx, .inr (8, xF ax 0)), ((ax 1), .inl (E 0, 16, .inl (fun _ => -5)))]) [0, 2] rfl) rfl rfl 0 rfl (fun r_2 hw_1 => ?_)
  rcases hw_1 with ⟨hr_2, hw_1⟩ | ⟨hr_2, hw_1⟩
  ·
    refine W_top (y := .int (-2)) (by rw [hr_2]) ?_
    refine lv_aload_n hx hb dL_law_1429 rfl (lv_at hl 1 rfl) ?_
    refine lv_aload_n hx hb dL_law_1430 rfl (lv_at hl 3 rfl) ?_
    refine lv_iload_n hx hb dL_law_1431 rfl (lv_at hl 0 rfl) ?_
    refine lv_iconst (v := 1) hx hb dL_law_1432 (by decide) ?_
    refine lv_iadd hx hb dL_law_1433 ?_
    refine W_top (y := .int 1) (by decide) ?_
    refine va_sld hx hb hX hbl hbA hS (g_in t_1 (by decide) (by decide)) dL_law_1434 ?_
    refine W_top (y := .int (xs 1)) (congrArg (fun n => Value.int (xs n)) (by decide : (1 : Int32).toNatClampNeg = 1)) ?_
    refine lv_aload_n hx hb dL_law_1435 rfl (lv_at hl 3 rfl) ?_
    refine lv_iload_n hx hb dL_law_1436 rfl (lv_at hl 0 rfl) ?_
    refine lv_iconst (v := 2) hx hb dL_law_1437 (by decide) ?_
    refine lv_iadd hx hb dL_law_1438 ?_
    refine W_top (y := .int 2) (by decide) ?_
    refine va_sld hx hb hX hbl hbA hS (g_in t_2 (by decide) (by decide)) dL_law_1439 ?_
    refine W_top (y := .int (xs 2)) (congrArg (fun n => Value.int (xs n)) (by decide : (2 : Int32).toNatClampNeg = 2)) ?_
    refine callRV (rest := [.int (-2)]) (As := [.int (xs 1), .int (xs 2)]) hx hb hml hown htb hK (c_X9_lend l D E qm cm (xs 1) (xs 2) ) ok_X9_lend k_1476 k_1477 k_1478 k_9 k_1479 ⟨(Nat.le_of_ble_eq_true rfl), (Nat.le_of_ble_eq_true rfl)⟩ ⟨(Nat.le_of_ble_eq_true rfl), (Nat.le_of_ble_eq_true rfl)⟩ hl.1 (Nat.le_of_ble_eq_true rfl) rfl rfl dL_law_1440 (hP.sub (ws' := [(qm, .inr (9, mF cm 0 0 0 0 0 0 0 0 0)), ((cm 3), .inl (E 0, 16, .inl (fun _ => -5)))]) [22, 24] rfl) rfl rfl 0 rfl (fun r_4 hw_3 => ?_)
    rcases hw_3 with ⟨hr_4, hw_3⟩ | ⟨hr_4, hw_3⟩
    ·
      refine W_top (y := .int (-2)) (by rw [hr_4]) ?_
      refine lv_icmp_eq (tgt := 1550) hx hb dL_law_1443 (by decide) (fun c_5 => ?_) (fun c_5 => absurd rfl c_5)
      exact law_end hx hb hr hml hown htb hX hbl hlocks hS (lv_sub hl [0, 3] rfl) (Nat.le_of_ble_eq_true rfl) (Nat.le_of_ble_eq_true rfl)
    ·
      refine W_top (y := .int (-1)) (by rw [hr_4]) ?_
      exfalso; omega
  ·
    refine W_top (y := .int (-1)) (by rw [hr_2]) ?_
    refine lv_aload_n hx hb dL_law_1429 rfl (lv_at hl 1 rfl) ?_
    refine lv_aload_n hx hb dL_law_1430 rfl (lv_at hl 3 rfl) ?_
    refine lv_iload_n hx hb dL_law_1431 rfl (lv_at hl 0 rfl) ?_
    refine lv_iconst (v := 1) hx hb dL_law_1432 (by decide) ?_
    refine lv_iadd hx hb dL_law_1433 ?_
    refine W_top (y := .int 1) (by decide) ?_
    refine va_sld hx hb hX hbl hbA hS (g_in t_1 (by decide) (by decide)) dL_law_1434 ?_
    refine W_top (y := .int (xs 1)) (congrArg (fun n => Value.int (xs n)) (by decide : (1 : Int32).toNatClampNeg = 1)) ?_
    refine lv_aload_n hx hb dL_law_1435 rfl (lv_at hl 3 rfl) ?_
    refine lv_iload_n hx hb dL_law_1436 rfl (lv_at hl 0 rfl) ?_
    refine lv_iconst (v := 2) hx hb dL_law_1437 (by decide) ?_
    refine lv_iadd hx hb dL_law_1438 ?_
    refine W_top (y := .int 2) (by decide) ?_
    refine va_sld hx hb hX hbl hbA hS (g_in t_2 (by decide) (by decide)) dL_law_1439 ?_
    refine W_top (y := .int (xs 2)) (congrArg (fun n => Value.int (xs n)) (by decide : (2 : Int32).toNatClampNeg = 2)) ?_
    refine callRV (rest := [.int (-1)]) (As := [.int (xs 1), .int (xs 2)]) hx hb hml hown htb hK (c_X9_lend l D E qm cm (xs 1) (xs 2) ) ok_X9_lend k_1476 k_1477 k_1478 k_9 k_1479 ⟨(Nat.le_of_ble_eq_true rfl), (Nat.le_of_ble_eq_true rfl)⟩ ⟨(Nat.le_of_ble_eq_true rfl), (Nat.le_of_ble_eq_true rfl)⟩ hl.1 (Nat.le_of_ble_eq_true rfl) rfl rfl dL_law_1440 (hP.sub (ws' := [(qm, .inr (9, mF cm 0 0 0 0 0 0 0 0 0)), ((cm 3), .inl (E 0, 16, .inl (fun _ => -5)))]) [22, 24] rfl) rfl rfl 0 rfl (fun r_7 hw_6 => ?_)
    rcases hw_6 with ⟨hr_7, hw_6⟩ | ⟨hr_7, hw_6⟩
    ·
      refine W_top (y := .int (-2)) (by rw [hr_7]) ?_
      exfalso; omega
    ·
      refine W_top (y := .int (-1)) (by rw [hr_7]) ?_
      refine lv_icmp_eq (tgt := 1550) hx hb dL_law_1443 (by decide) (fun c_8 => ?_) (fun c_8 => absurd rfl c_8)
      exact law_end hx hb hr hml hown htb hX hbl hlocks hS (lv_sub hl [0, 3] rfl) (Nat.le_of_ble_eq_true rfl) (Nat.le_of_ble_eq_true rfl)
set_option maxHeartbeats 4000000 in
set_option maxRecDepth 100000 in
theorem law_32 {p : Program} {l : Launch} {e : Env} {s : State} {m : MethodId} {below : List Frame} {meth : Method} {c : Code} {D : va_G} {E : Nat → Nat} {b : Nat} {xs : Nat → Int32} {qx : Nat} {ax : Nat → Nat} {bx : Nat → Nat → Nat} {fw : Nat → Int32} {qm : Nat} {cm : Nat → Nat} {fm : Nat → Int32} {H : Heap} {locs : List Loc} {ls : Array Slot} (hx : p.tables.exec = Jvm.exec) (hb : c.code = code) (hr : meth.sig.returnType = ret) (hml : c.maxLocals = 4) (hown : s.vm.findClass R_law = some m.cls) (htb : ∀ w ∈ tb, w.before #[Value.ref b] s = true) (hK : KX D E s) (hX : va_X b 6 xs s s.heap) (hbl : b < s.heap.size) (hlocks : meth.locks = false) (hP : va_P D vwCl (LW E qx ax bx fw qm cm fm) H) (hD : va_D (fun q : Nat => s.heap.size ≤ q) (LW E qx ax bx fw qm cm fm)) (hS : va_S (fun q : Nat => s.heap.size ≤ q) s.heap H locs) (hl : lv_has ls 4 [(3, .int 0), (2, .ref qm), (1, .ref qx), (0, .ref b)]) : W p l e room_1 s m #[Value.ref b] below meth c H locs 123 44666 (lw_Z below #[Value.ref b] s) (F0 m 1448 ls []) := by
  have hA : ∀ q : Nat, s.heap.size ≤ q → (fun q : Nat => s.heap.size ≤ q) q := fun _ h => h
  have hbA : ¬ (fun q : Nat => s.heap.size ≤ q) b := Nat.not_le.mpr hbl
  refine lv_aload_n hx hb dL_law_1448 rfl (lv_at hl 2 rfl) ?_
  refine lv_aload_n hx hb dL_law_1449 rfl (lv_at hl 3 rfl) ?_
  refine lv_iload_n hx hb dL_law_1450 rfl (lv_at hl 0 rfl) ?_
  refine lv_iconst (v := 1) hx hb dL_law_1451 (by decide) ?_
  refine lv_iadd hx hb dL_law_1452 ?_
  refine W_top (y := .int 1) (by decide) ?_
  refine va_sld hx hb hX hbl hbA hS (g_in t_1 (by decide) (by decide)) dL_law_1453 ?_
  refine W_top (y := .int (xs 1)) (congrArg (fun n => Value.int (xs n)) (by decide : (1 : Int32).toNatClampNeg = 1)) ?_
  refine callRV (rest := []) (As := [.int (xs 1)]) hx hb hml hown htb hK (c_X8_home l D E qx ax (xs 1) ) ok_X8_home k_925 k_926 k_927 k_1 k_928 ⟨(Nat.le_of_ble_eq_true rfl), (Nat.le_of_ble_eq_true rfl)⟩ ⟨(Nat.le_of_ble_eq_true rfl), (Nat.le_of_ble_eq_true rfl)⟩ hl.1 (Nat.le_of_ble_eq_true rfl) rfl rfl dL_law_1454 (hP.sub (ws' := [(qx, .inr (8, xF ax 0)), ((ax 1), .inl (E 0, 16, .inl (fun _ => -5)))]) [0, 2] rfl) rfl rfl 0 rfl (fun r_2 hw_1 => ?_)
  rcases hw_1 with ⟨hr_2, hw_1⟩ | ⟨hr_2, hw_1⟩
  ·
    refine W_top (y := .int (-2)) (by rw [hr_2]) ?_
    refine lv_aload_n hx hb dL_law_1457 rfl (lv_at hl 1 rfl) ?_
    refine lv_aload_n hx hb dL_law_1458 rfl (lv_at hl 3 rfl) ?_
    refine lv_iload_n hx hb dL_law_1459 rfl (lv_at hl 0 rfl) ?_
    refine lv_iconst (v := 1) hx hb dL_law_1460 (by decide) ?_
    refine lv_iadd hx hb dL_law_1461 ?_
    refine W_top (y := .int 1) (by decide) ?_
    refine va_sld hx hb hX hbl hbA hS (g_in t_1 (by decide) (by decide)) dL_law_1462 ?_
    refine W_top (y := .int (xs 1)) (congrArg (fun n => Value.int (xs n)) (by decide : (1 : Int32).toNatClampNeg = 1)) ?_
    refine callRV (rest := [.int (-2)]) (As := [.int (xs 1)]) hx hb hml hown htb hK (c_X9_home l D E qm cm (xs 1) ) ok_X9_home k_1480 k_1481 k_1482 k_9 k_1483 ⟨(Nat.le_of_ble_eq_true rfl), (Nat.le_of_ble_eq_true rfl)⟩ ⟨(Nat.le_of_ble_eq_true rfl), (Nat.le_of_ble_eq_true rfl)⟩ hl.1 (Nat.le_of_ble_eq_true rfl) rfl rfl dL_law_1463 (hP.sub (ws' := [(qm, .inr (9, mF cm 0 0 0 0 0 0 0 0 0)), ((cm 3), .inl (E 0, 16, .inl (fun _ => -5)))]) [22, 24] rfl) rfl rfl 0 rfl (fun r_4 hw_3 => ?_)
    rcases hw_3 with ⟨hr_4, hw_3⟩ | ⟨hr_4, hw_3⟩
    ·
      refine W_top (y := .int (-2)) (by rw [hr_4]) ?_
      refine lv_icmp_eq (tgt := 1550) hx hb dL_law_1466 (by decide) (fun c_5 => ?_) (fun c_5 => absurd rfl c_5)
      exact law_end hx hb hr hml hown htb hX hbl hlocks hS (lv_sub hl [0, 3] rfl) (Nat.le_of_ble_eq_true rfl) (Nat.le_of_ble_eq_true rfl)
    ·
      refine W_top (y := .int (-1)) (by rw [hr_4]) ?_
      exfalso; omega
  ·
    refine W_top (y := .int (-1)) (by rw [hr_2]) ?_
    refine lv_aload_n hx hb dL_law_1457 rfl (lv_at hl 1 rfl) ?_
    refine lv_aload_n hx hb dL_law_1458 rfl (lv_at hl 3 rfl) ?_
    refine lv_iload_n hx hb dL_law_1459 rfl (lv_at hl 0 rfl) ?_
    refine lv_iconst (v := 1) hx hb dL_law_1460 (by decide) ?_
    refine lv_iadd hx hb dL_law_1461 ?_
    refine W_top (y := .int 1) (by decide) ?_
    refine va_sld hx hb hX hbl hbA hS (g_in t_1 (by decide) (by decide)) dL_law_1462 ?_
    refine W_top (y := .int (xs 1)) (congrArg (fun n => Value.int (xs n)) (by decide : (1 : Int32).toNatClampNeg = 1)) ?_
    refine callRV (rest := [.int (-1)]) (As := [.int (xs 1)]) hx hb hml hown htb hK (c_X9_home l D E qm cm (xs 1) ) ok_X9_home k_1480 k_1481 k_1482 k_9 k_1483 ⟨(Nat.le_of_ble_eq_true rfl), (Nat.le_of_ble_eq_true rfl)⟩ ⟨(Nat.le_of_ble_eq_true rfl), (Nat.le_of_ble_eq_true rfl)⟩ hl.1 (Nat.le_of_ble_eq_true rfl) rfl rfl dL_law_1463 (hP.sub (ws' := [(qm, .inr (9, mF cm 0 0 0 0 0 0 0 0 0)), ((cm 3), .inl (E 0, 16, .inl (fun _ => -5)))]) [22, 24] rfl) rfl rfl 0 rfl (fun r_7 hw_6 => ?_)
    rcases hw_6 with ⟨hr_7, hw_6⟩ | ⟨hr_7, hw_6⟩
    ·
      refine W_top (y := .int (-2)) (by rw [hr_7]) ?_
      exfalso; omega
    ·
      refine W_top (y := .int (-1)) (by rw [hr_7]) ?_
      refine lv_icmp_eq (tgt := 1550) hx hb dL_law_1466 (by decide) (fun c_8 => ?_) (fun c_8 => absurd rfl c_8)
      exact law_end hx hb hr hml hown htb hX hbl hlocks hS (lv_sub hl [0, 3] rfl) (Nat.le_of_ble_eq_true rfl) (Nat.le_of_ble_eq_true rfl)
set_option maxHeartbeats 4000000 in
set_option maxRecDepth 100000 in
theorem law_33 {p : Program} {l : Launch} {e : Env} {s : State} {m : MethodId} {below : List Frame} {meth : Method} {c : Code} {D : va_G} {E : Nat → Nat} {b : Nat} {xs : Nat → Int32} {qx : Nat} {ax : Nat → Nat} {bx : Nat → Nat → Nat} {fw : Nat → Int32} {qm : Nat} {cm : Nat → Nat} {fm : Nat → Int32} {H : Heap} {locs : List Loc} {ls : Array Slot} (hx : p.tables.exec = Jvm.exec) (hb : c.code = code) (hr : meth.sig.returnType = ret) (hml : c.maxLocals = 4) (hown : s.vm.findClass R_law = some m.cls) (htb : ∀ w ∈ tb, w.before #[Value.ref b] s = true) (hK : KX D E s) (hX : va_X b 6 xs s s.heap) (hbl : b < s.heap.size) (hlocks : meth.locks = false) (hP : va_P D vwCl (LW E qx ax bx fw qm cm fm) H) (hD : va_D (fun q : Nat => s.heap.size ≤ q) (LW E qx ax bx fw qm cm fm)) (hS : va_S (fun q : Nat => s.heap.size ≤ q) s.heap H locs) (hl : lv_has ls 4 [(3, .int 0), (2, .ref qm), (1, .ref qx), (0, .ref b)]) : W p l e room_1 s m #[Value.ref b] below meth c H locs 123 44666 (lw_Z below #[Value.ref b] s) (F0 m 1471 ls []) := by
  have hA : ∀ q : Nat, s.heap.size ≤ q → (fun q : Nat => s.heap.size ≤ q) q := fun _ h => h
  have hbA : ¬ (fun q : Nat => s.heap.size ≤ q) b := Nat.not_le.mpr hbl
  refine lv_aload_n hx hb dL_law_1471 rfl (lv_at hl 2 rfl) ?_
  refine lv_aload_n hx hb dL_law_1472 rfl (lv_at hl 3 rfl) ?_
  refine lv_iload_n hx hb dL_law_1473 rfl (lv_at hl 0 rfl) ?_
  refine lv_iconst (v := 1) hx hb dL_law_1474 (by decide) ?_
  refine lv_iadd hx hb dL_law_1475 ?_
  refine W_top (y := .int 1) (by decide) ?_
  refine va_sld hx hb hX hbl hbA hS (g_in t_1 (by decide) (by decide)) dL_law_1476 ?_
  refine W_top (y := .int (xs 1)) (congrArg (fun n => Value.int (xs n)) (by decide : (1 : Int32).toNatClampNeg = 1)) ?_
  refine lv_aload_n hx hb dL_law_1477 rfl (lv_at hl 3 rfl) ?_
  refine lv_iload_n hx hb dL_law_1478 rfl (lv_at hl 0 rfl) ?_
  refine lv_iconst (v := 2) hx hb dL_law_1479 (by decide) ?_
  refine lv_iadd hx hb dL_law_1480 ?_
  refine W_top (y := .int 2) (by decide) ?_
  refine va_sld hx hb hX hbl hbA hS (g_in t_2 (by decide) (by decide)) dL_law_1481 ?_
  refine W_top (y := .int (xs 2)) (congrArg (fun n => Value.int (xs n)) (by decide : (2 : Int32).toNatClampNeg = 2)) ?_
  refine callRV (rest := []) (As := [.int (xs 1), .int (xs 2)]) hx hb hml hown htb hK (c_X8_holder l D E qx ax (xs 1) (xs 2) ) ok_X8_holder k_929 k_930 k_931 k_1 k_932 ⟨(Nat.le_of_ble_eq_true rfl), (Nat.le_of_ble_eq_true rfl)⟩ ⟨(Nat.le_of_ble_eq_true rfl), (Nat.le_of_ble_eq_true rfl)⟩ hl.1 (Nat.le_of_ble_eq_true rfl) rfl rfl dL_law_1482 (hP.sub (ws' := [(qx, .inr (8, xF ax 0)), ((ax 1), .inl (E 0, 16, .inl (fun _ => -5)))]) [0, 2] rfl) rfl rfl 0 rfl (fun r_2 hw_1 => ?_)
  obtain ⟨hr_2, hw_1⟩ := hw_1
  refine W_top (y := .int (-2000000000)) (by rw [hr_2]) ?_
  refine lv_aload_n hx hb dL_law_1485 rfl (lv_at hl 1 rfl) ?_
  refine lv_aload_n hx hb dL_law_1486 rfl (lv_at hl 3 rfl) ?_
  refine lv_iload_n hx hb dL_law_1487 rfl (lv_at hl 0 rfl) ?_
  refine lv_iconst (v := 1) hx hb dL_law_1488 (by decide) ?_
  refine lv_iadd hx hb dL_law_1489 ?_
  refine W_top (y := .int 1) (by decide) ?_
  refine va_sld hx hb hX hbl hbA hS (g_in t_1 (by decide) (by decide)) dL_law_1490 ?_
  refine W_top (y := .int (xs 1)) (congrArg (fun n => Value.int (xs n)) (by decide : (1 : Int32).toNatClampNeg = 1)) ?_
  refine lv_aload_n hx hb dL_law_1491 rfl (lv_at hl 3 rfl) ?_
  refine lv_iload_n hx hb dL_law_1492 rfl (lv_at hl 0 rfl) ?_
  refine lv_iconst (v := 2) hx hb dL_law_1493 (by decide) ?_
  refine lv_iadd hx hb dL_law_1494 ?_
  refine W_top (y := .int 2) (by decide) ?_
  refine va_sld hx hb hX hbl hbA hS (g_in t_2 (by decide) (by decide)) dL_law_1495 ?_
  refine W_top (y := .int (xs 2)) (congrArg (fun n => Value.int (xs n)) (by decide : (2 : Int32).toNatClampNeg = 2)) ?_
  refine callRV (rest := [.int (-2000000000)]) (As := [.int (xs 1), .int (xs 2)]) hx hb hml hown htb hK (c_X9_holder l D E qm cm (xs 1) (xs 2) ) ok_X9_holder k_1484 k_1485 k_1486 k_9 k_1487 ⟨(Nat.le_of_ble_eq_true rfl), (Nat.le_of_ble_eq_true rfl)⟩ ⟨(Nat.le_of_ble_eq_true rfl), (Nat.le_of_ble_eq_true rfl)⟩ hl.1 (Nat.le_of_ble_eq_true rfl) rfl rfl dL_law_1496 (hP.sub (ws' := [(qm, .inr (9, mF cm 0 0 0 0 0 0 0 0 0)), ((cm 3), .inl (E 0, 16, .inl (fun _ => -5)))]) [22, 24] rfl) rfl rfl 0 rfl (fun r_4 hw_3 => ?_)
  obtain ⟨hr_4, hw_3⟩ := hw_3
  refine W_top (y := .int (-2000000000)) (by rw [hr_4]) ?_
  refine lv_icmp_eq (tgt := 1550) hx hb dL_law_1499 (by decide) (fun c_5 => ?_) (fun c_5 => absurd rfl c_5)
  exact law_end hx hb hr hml hown htb hX hbl hlocks hS (lv_sub hl [0, 3] rfl) (Nat.le_of_ble_eq_true rfl) (Nat.le_of_ble_eq_true rfl)
set_option maxHeartbeats 4000000 in
set_option maxRecDepth 100000 in
theorem law_34 {p : Program} {l : Launch} {e : Env} {s : State} {m : MethodId} {below : List Frame} {meth : Method} {c : Code} {D : va_G} {E : Nat → Nat} {b : Nat} {xs : Nat → Int32} {qx : Nat} {ax : Nat → Nat} {bx : Nat → Nat → Nat} {fw : Nat → Int32} {qm : Nat} {cm : Nat → Nat} {fm : Nat → Int32} {H : Heap} {locs : List Loc} {ls : Array Slot} (hx : p.tables.exec = Jvm.exec) (hb : c.code = code) (hr : meth.sig.returnType = ret) (hml : c.maxLocals = 4) (hown : s.vm.findClass R_law = some m.cls) (htb : ∀ w ∈ tb, w.before #[Value.ref b] s = true) (hK : KX D E s) (hX : va_X b 6 xs s s.heap) (hbl : b < s.heap.size) (hlocks : meth.locks = false) (hP : va_P D vwCl (LW E qx ax bx fw qm cm fm) H) (hD : va_D (fun q : Nat => s.heap.size ≤ q) (LW E qx ax bx fw qm cm fm)) (hS : va_S (fun q : Nat => s.heap.size ≤ q) s.heap H locs) (hl : lv_has ls 4 [(3, .int 0), (2, .ref qm), (1, .ref qx), (0, .ref b)]) : W p l e room_1 s m #[Value.ref b] below meth c H locs 123 44666 (lw_Z below #[Value.ref b] s) (F0 m 1504 ls []) := by
  have hA : ∀ q : Nat, s.heap.size ≤ q → (fun q : Nat => s.heap.size ≤ q) q := fun _ h => h
  have hbA : ¬ (fun q : Nat => s.heap.size ≤ q) b := Nat.not_le.mpr hbl
  refine lv_aload_n hx hb dL_law_1504 rfl (lv_at hl 2 rfl) ?_
  refine lv_aload_n hx hb dL_law_1505 rfl (lv_at hl 3 rfl) ?_
  refine lv_iload_n hx hb dL_law_1506 rfl (lv_at hl 0 rfl) ?_
  refine lv_iconst (v := 1) hx hb dL_law_1507 (by decide) ?_
  refine lv_iadd hx hb dL_law_1508 ?_
  refine W_top (y := .int 1) (by decide) ?_
  refine va_sld hx hb hX hbl hbA hS (g_in t_1 (by decide) (by decide)) dL_law_1509 ?_
  refine W_top (y := .int (xs 1)) (congrArg (fun n => Value.int (xs n)) (by decide : (1 : Int32).toNatClampNeg = 1)) ?_
  refine callRV (rest := []) (As := [.int (xs 1)]) hx hb hml hown htb hK (c_X8_away l D E qx ax (xs 1) ) ok_X8_away k_933 k_934 k_935 k_1 k_936 ⟨(Nat.le_of_ble_eq_true rfl), (Nat.le_of_ble_eq_true rfl)⟩ ⟨(Nat.le_of_ble_eq_true rfl), (Nat.le_of_ble_eq_true rfl)⟩ hl.1 (Nat.le_of_ble_eq_true rfl) rfl rfl dL_law_1510 (hP.sub (ws' := [(qx, .inr (8, xF ax 0)), ((ax 1), .inl (E 0, 16, .inl (fun _ => -5)))]) [0, 2] rfl) rfl rfl 0 rfl (fun r_2 hw_1 => ?_)
  rcases hw_1 with ⟨hr_2, hw_1⟩ | ⟨hr_2, hw_1⟩
  ·
    refine W_top (y := .int (-2)) (by rw [hr_2]) ?_
    refine lv_aload_n hx hb dL_law_1513 rfl (lv_at hl 1 rfl) ?_
    refine lv_aload_n hx hb dL_law_1514 rfl (lv_at hl 3 rfl) ?_
    refine lv_iload_n hx hb dL_law_1515 rfl (lv_at hl 0 rfl) ?_
    refine lv_iconst (v := 1) hx hb dL_law_1516 (by decide) ?_
    refine lv_iadd hx hb dL_law_1517 ?_
    refine W_top (y := .int 1) (by decide) ?_
    refine va_sld hx hb hX hbl hbA hS (g_in t_1 (by decide) (by decide)) dL_law_1518 ?_
    refine W_top (y := .int (xs 1)) (congrArg (fun n => Value.int (xs n)) (by decide : (1 : Int32).toNatClampNeg = 1)) ?_
    refine callRV (rest := [.int (-2)]) (As := [.int (xs 1)]) hx hb hml hown htb hK (c_X9_away l D E qm cm (xs 1) ) ok_X9_away k_1488 k_1489 k_1490 k_9 k_1491 ⟨(Nat.le_of_ble_eq_true rfl), (Nat.le_of_ble_eq_true rfl)⟩ ⟨(Nat.le_of_ble_eq_true rfl), (Nat.le_of_ble_eq_true rfl)⟩ hl.1 (Nat.le_of_ble_eq_true rfl) rfl rfl dL_law_1519 (hP.sub (ws' := [(qm, .inr (9, mF cm 0 0 0 0 0 0 0 0 0)), ((cm 3), .inl (E 0, 16, .inl (fun _ => -5)))]) [22, 24] rfl) rfl rfl 0 rfl (fun r_4 hw_3 => ?_)
    rcases hw_3 with ⟨hr_4, hw_3⟩ | ⟨hr_4, hw_3⟩
    ·
      refine W_top (y := .int (-2)) (by rw [hr_4]) ?_
      refine lv_icmp_eq (tgt := 1550) hx hb dL_law_1522 (by decide) (fun c_5 => ?_) (fun c_5 => absurd rfl c_5)
      exact law_end hx hb hr hml hown htb hX hbl hlocks hS (lv_sub hl [0, 3] rfl) (Nat.le_of_ble_eq_true rfl) (Nat.le_of_ble_eq_true rfl)
    ·
      refine W_top (y := .int (-1)) (by rw [hr_4]) ?_
      exfalso; omega
  ·
    refine W_top (y := .int (-1)) (by rw [hr_2]) ?_
    refine lv_aload_n hx hb dL_law_1513 rfl (lv_at hl 1 rfl) ?_
    refine lv_aload_n hx hb dL_law_1514 rfl (lv_at hl 3 rfl) ?_
    refine lv_iload_n hx hb dL_law_1515 rfl (lv_at hl 0 rfl) ?_
    refine lv_iconst (v := 1) hx hb dL_law_1516 (by decide) ?_
    refine lv_iadd hx hb dL_law_1517 ?_
    refine W_top (y := .int 1) (by decide) ?_
    refine va_sld hx hb hX hbl hbA hS (g_in t_1 (by decide) (by decide)) dL_law_1518 ?_
    refine W_top (y := .int (xs 1)) (congrArg (fun n => Value.int (xs n)) (by decide : (1 : Int32).toNatClampNeg = 1)) ?_
    refine callRV (rest := [.int (-1)]) (As := [.int (xs 1)]) hx hb hml hown htb hK (c_X9_away l D E qm cm (xs 1) ) ok_X9_away k_1488 k_1489 k_1490 k_9 k_1491 ⟨(Nat.le_of_ble_eq_true rfl), (Nat.le_of_ble_eq_true rfl)⟩ ⟨(Nat.le_of_ble_eq_true rfl), (Nat.le_of_ble_eq_true rfl)⟩ hl.1 (Nat.le_of_ble_eq_true rfl) rfl rfl dL_law_1519 (hP.sub (ws' := [(qm, .inr (9, mF cm 0 0 0 0 0 0 0 0 0)), ((cm 3), .inl (E 0, 16, .inl (fun _ => -5)))]) [22, 24] rfl) rfl rfl 0 rfl (fun r_7 hw_6 => ?_)
    rcases hw_6 with ⟨hr_7, hw_6⟩ | ⟨hr_7, hw_6⟩
    ·
      refine W_top (y := .int (-2)) (by rw [hr_7]) ?_
      exfalso; omega
    ·
      refine W_top (y := .int (-1)) (by rw [hr_7]) ?_
      refine lv_icmp_eq (tgt := 1550) hx hb dL_law_1522 (by decide) (fun c_8 => ?_) (fun c_8 => absurd rfl c_8)
      exact law_end hx hb hr hml hown htb hX hbl hlocks hS (lv_sub hl [0, 3] rfl) (Nat.le_of_ble_eq_true rfl) (Nat.le_of_ble_eq_true rfl)
set_option maxHeartbeats 4000000 in
set_option maxRecDepth 100000 in
theorem law_35 {p : Program} {l : Launch} {e : Env} {s : State} {m : MethodId} {below : List Frame} {meth : Method} {c : Code} {D : va_G} {E : Nat → Nat} {b : Nat} {xs : Nat → Int32} {qx : Nat} {ax : Nat → Nat} {bx : Nat → Nat → Nat} {fw : Nat → Int32} {qm : Nat} {cm : Nat → Nat} {fm : Nat → Int32} {H : Heap} {locs : List Loc} {ls : Array Slot} (hx : p.tables.exec = Jvm.exec) (hb : c.code = code) (hr : meth.sig.returnType = ret) (hml : c.maxLocals = 4) (hown : s.vm.findClass R_law = some m.cls) (htb : ∀ w ∈ tb, w.before #[Value.ref b] s = true) (hK : KX D E s) (hX : va_X b 6 xs s s.heap) (hbl : b < s.heap.size) (hlocks : meth.locks = false) (hP : va_P D vwCl (LW E qx ax bx fw qm cm fm) H) (hD : va_D (fun q : Nat => s.heap.size ≤ q) (LW E qx ax bx fw qm cm fm)) (hS : va_S (fun q : Nat => s.heap.size ≤ q) s.heap H locs) (hl : lv_has ls 4 [(3, .int 0), (2, .ref qm), (1, .ref qx), (0, .ref b)]) : W p l e room_1 s m #[Value.ref b] below meth c H locs 123 44666 (lw_Z below #[Value.ref b] s) (F0 m 1527 ls []) := by
  have hA : ∀ q : Nat, s.heap.size ≤ q → (fun q : Nat => s.heap.size ≤ q) q := fun _ h => h
  have hbA : ¬ (fun q : Nat => s.heap.size ≤ q) b := Nat.not_le.mpr hbl
  refine lv_aload_n hx hb dL_law_1527 rfl (lv_at hl 2 rfl) ?_
  refine lv_aload_n hx hb dL_law_1528 rfl (lv_at hl 3 rfl) ?_
  refine lv_iload_n hx hb dL_law_1529 rfl (lv_at hl 0 rfl) ?_
  refine lv_iconst (v := 1) hx hb dL_law_1530 (by decide) ?_
  refine lv_iadd hx hb dL_law_1531 ?_
  refine W_top (y := .int 1) (by decide) ?_
  refine va_sld hx hb hX hbl hbA hS (g_in t_1 (by decide) (by decide)) dL_law_1532 ?_
  refine W_top (y := .int (xs 1)) (congrArg (fun n => Value.int (xs n)) (by decide : (1 : Int32).toNatClampNeg = 1)) ?_
  refine callRV (rest := []) (As := [.int (xs 1)]) hx hb hml hown htb hK (c_X8_count l D E qx ax bx (xs 1) ) ok_X8_count k_941 k_942 k_943 k_1 k_944 ⟨(Nat.le_of_ble_eq_true rfl), (Nat.le_of_ble_eq_true rfl)⟩ ⟨(Nat.le_of_ble_eq_true rfl), (Nat.le_of_ble_eq_true rfl)⟩ hl.1 (Nat.le_of_ble_eq_true rfl) rfl rfl dL_law_1533 (hP.sub (ws' := [(qx, .inr (8, xF ax 0)), ((ax 1), .inl (E 0, 16, .inl (fun _ => -5))), ((ax 4), .inl (E 4, 5, .inr (.inr (.inr (.inr (fun j => some (ax (13 + j)))))))), ((ax 13), .inr (5, sF (bx 0))), ((ax 14), .inr (5, sF (bx 1))), ((ax 15), .inr (5, sF (bx 2))), ((ax 16), .inr (5, sF (bx 3))), ((ax 17), .inr (5, sF (bx 4))), ((ax 6), .inr (2, [.ref (ax 18), .ref (ax 19), .ref (ax 20), .ref (ax 21), .ref (ax 22), .int 0])), ((ax 9), .inr (6, [.ref (ax 23), .int 0, .ref (ax 24), .ref (E 5), .int 0, .int 0, .int 0, .int 0])), ((ax 10), .inr (0, [.ref (ax 28), .ref (ax 29), .ref (ax 30), .ref (ax 31), .ref (ax 32), .int 0, .int 0, .int 0, .int 0]))]) [0, 2, 5, 6, 7, 8, 9, 10, 11, 17, 20] rfl) rfl rfl 0 rfl (fun r_2 hw_1 => ?_)
  rcases hw_1 with ⟨hr_2, hw_1⟩ | ⟨hr_2, hw_1⟩
  ·
    refine W_top (y := .int 0) (by rw [hr_2]) ?_
    refine lv_aload_n hx hb dL_law_1536 rfl (lv_at hl 1 rfl) ?_
    refine lv_aload_n hx hb dL_law_1537 rfl (lv_at hl 3 rfl) ?_
    refine lv_iload_n hx hb dL_law_1538 rfl (lv_at hl 0 rfl) ?_
    refine lv_iconst (v := 1) hx hb dL_law_1539 (by decide) ?_
    refine lv_iadd hx hb dL_law_1540 ?_
    refine W_top (y := .int 1) (by decide) ?_
    refine va_sld hx hb hX hbl hbA hS (g_in t_1 (by decide) (by decide)) dL_law_1541 ?_
    refine W_top (y := .int (xs 1)) (congrArg (fun n => Value.int (xs n)) (by decide : (1 : Int32).toNatClampNeg = 1)) ?_
    refine callRV (rest := [.int 0]) (As := [.int (xs 1)]) hx hb hml hown htb hK (c_X9_count l D E qm cm (xs 1) ) ok_X9_count k_1492 k_1493 k_1494 k_9 k_1495 ⟨(Nat.le_of_ble_eq_true rfl), (Nat.le_of_ble_eq_true rfl)⟩ ⟨(Nat.le_of_ble_eq_true rfl), (Nat.le_of_ble_eq_true rfl)⟩ hl.1 (Nat.le_of_ble_eq_true rfl) rfl rfl dL_law_1542 (hP.sub (ws' := [(qm, .inr (9, mF cm 0 0 0 0 0 0 0 0 0)), ((cm 3), .inl (E 0, 16, .inl (fun _ => -5))), ((cm 47), .inl (E 0, 5, .inl (fun _ => 0)))]) [22, 24, 36] rfl) rfl rfl 0 rfl (fun r_4 hw_3 => ?_)
    rcases hw_3 with ⟨hr_4, hw_3⟩ | ⟨hr_4, hw_3⟩
    ·
      refine W_top (y := .int 0) (by rw [hr_4]) ?_
      refine lv_icmp_eq (tgt := 1550) hx hb dL_law_1545 (by decide) (fun c_5 => ?_) (fun c_5 => absurd rfl c_5)
      exact law_end hx hb hr hml hown htb hX hbl hlocks hS (lv_sub hl [0, 3] rfl) (Nat.le_of_ble_eq_true rfl) (Nat.le_of_ble_eq_true rfl)
    ·
      refine W_top (y := .int (-1)) (by rw [hr_4]) ?_
      exfalso; omega
  ·
    refine W_top (y := .int (-1)) (by rw [hr_2]) ?_
    refine lv_aload_n hx hb dL_law_1536 rfl (lv_at hl 1 rfl) ?_
    refine lv_aload_n hx hb dL_law_1537 rfl (lv_at hl 3 rfl) ?_
    refine lv_iload_n hx hb dL_law_1538 rfl (lv_at hl 0 rfl) ?_
    refine lv_iconst (v := 1) hx hb dL_law_1539 (by decide) ?_
    refine lv_iadd hx hb dL_law_1540 ?_
    refine W_top (y := .int 1) (by decide) ?_
    refine va_sld hx hb hX hbl hbA hS (g_in t_1 (by decide) (by decide)) dL_law_1541 ?_
    refine W_top (y := .int (xs 1)) (congrArg (fun n => Value.int (xs n)) (by decide : (1 : Int32).toNatClampNeg = 1)) ?_
    refine callRV (rest := [.int (-1)]) (As := [.int (xs 1)]) hx hb hml hown htb hK (c_X9_count l D E qm cm (xs 1) ) ok_X9_count k_1492 k_1493 k_1494 k_9 k_1495 ⟨(Nat.le_of_ble_eq_true rfl), (Nat.le_of_ble_eq_true rfl)⟩ ⟨(Nat.le_of_ble_eq_true rfl), (Nat.le_of_ble_eq_true rfl)⟩ hl.1 (Nat.le_of_ble_eq_true rfl) rfl rfl dL_law_1542 (hP.sub (ws' := [(qm, .inr (9, mF cm 0 0 0 0 0 0 0 0 0)), ((cm 3), .inl (E 0, 16, .inl (fun _ => -5))), ((cm 47), .inl (E 0, 5, .inl (fun _ => 0)))]) [22, 24, 36] rfl) rfl rfl 0 rfl (fun r_7 hw_6 => ?_)
    rcases hw_6 with ⟨hr_7, hw_6⟩ | ⟨hr_7, hw_6⟩
    ·
      refine W_top (y := .int 0) (by rw [hr_7]) ?_
      exfalso; omega
    ·
      refine W_top (y := .int (-1)) (by rw [hr_7]) ?_
      refine lv_icmp_eq (tgt := 1550) hx hb dL_law_1545 (by decide) (fun c_8 => ?_) (fun c_8 => absurd rfl c_8)
      exact law_end hx hb hr hml hown htb hX hbl hlocks hS (lv_sub hl [0, 3] rfl) (Nat.le_of_ble_eq_true rfl) (Nat.le_of_ble_eq_true rfl)
