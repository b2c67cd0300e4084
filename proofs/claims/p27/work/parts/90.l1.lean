def LI (zx : XS) (zm : MS) : Prop := XI zx ∧ MI zm ∧ TR zx zm ∧ TRY zx zm ∧ TV zx zm
set_option maxHeartbeats 4000000 in
set_option maxRecDepth 100000 in
theorem law_0 {p : Program} {l : Launch} {e : Env} {s : State} {m : MethodId} {below : List Frame} {meth : Method} {c : Code} {D : va_G} {E : Nat → Nat} {b L : Nat} {xs : Nat → Int32} (hx : p.tables.exec = Jvm.exec) (hb : c.code = code) (hr : meth.sig.returnType = ret) (hml : c.maxLocals = 4) (hown : s.vm.findClass R_law = some m.cls) (htb : ∀ w ∈ tb, w.before #[Value.ref b] s = true) (hK : KX D E s) (hG : SGs [((E 6), (E 8), 60, tw6), ((E 7), (E 9), 35, tw7)] (fun q : Nat => s.heap.size ≤ q) s s.heap) (hX : va_X b L xs s s.heap) (hL : L ≤ 3072) (hbl : b < s.heap.size) (hlocks : meth.locks = false) {qx qm k : Nat} {i : Int32} (hk : k ≤ 512) (hi : i.toInt = 6 * (k : Int)) (hiL : i.toInt + 6 ≤ (L : Int)) {zx : XS} {zm : MS} {H : Heap} {locs : List Loc} {ls : Array Slot} (hI : LI zx zm) (hP : va_P D vwCl (XW E qx zx ++ MW E qm zm) H) (hD : va_D (fun q : Nat => s.heap.size ≤ q) (XW E qx zx ++ MW E qm zm)) (hS : va_S (fun q : Nat => s.heap.size ≤ q) s.heap H locs) (hl : lv_has ls 4 [(3, .int i), (2, .ref qm), (1, .ref qx), (0, .ref b)]) (next : ∀ (zx : XS) (zm : MS) (H : Heap) (locs : List Loc) (ls : Array Slot), LI zx zm → va_P D vwCl (XW E qx zx ++ MW E qm zm) H → va_D (fun q : Nat => s.heap.size ≤ q) (XW E qx zx ++ MW E qm zm) → va_S (fun q : Nat => s.heap.size ≤ q) s.heap H locs → lv_has ls 4 [(3, .int i), (2, .ref qm), (1, .ref qx), (0, .ref b)] → W p l e room_1 s m #[Value.ref b] below meth c H locs ((123 + 5 * k) + 5) ((44666 + 1604 * k) + 1604) (lw_Z below #[Value.ref b] s) (F0 m 1550 ls [])) : W p l e room_1 s m #[Value.ref b] below meth c H locs (123 + 5 * k) (44666 + 1604 * k) (lw_Z below #[Value.ref b] s) (F0 m 192 ls []) := by
  have hA : ∀ q : Nat, s.heap.size ≤ q → (fun q : Nat => s.heap.size ≤ q) q := fun _ h => h
  have hbA : ¬ (fun q : Nat => s.heap.size ≤ q) b := Nat.not_le.mpr hbl
  obtain ⟨hIx, hIm, hTR, hT2, hTV⟩ := hI
  have hI0 := hIx; have hM0 := hIm
  refine lv_aload_n hx hb dL_law_192 rfl (lv_at hl 2 rfl) ?_
  refine lv_aload_n hx hb dL_law_193 rfl (lv_at hl 3 rfl) ?_
  refine lv_iload_n hx hb dL_law_194 rfl (lv_at hl 0 rfl) ?_
  refine lv_iconst (v := 1) hx hb dL_law_195 (by decide) ?_
  refine lv_iadd hx hb dL_law_196 ?_
  refine va_sld hx hb hX hbl hbA hS (sc_in (by omega) t_1 (by omega) (by omega) (by omega)) dL_law_197 ?_
  refine aftU_i (runMG (rest := []) (As := [.int (xs (i + 1).toNatClampNeg)]) hx hb hml hown htb (U_X8_days l D E qx (xs (i + 1).toNatClampNeg) _ zx hIx) ok_X8_days k_315 k_316 k_317 k_1 k_318 ⟨(Nat.le_of_ble_eq_true rfl), (Nat.le_of_ble_eq_true rfl)⟩ ⟨(show (123 + 5 * k) + 0 ≤ 600000 by omega), (show (44666 + 1604 * k) + 0 ≤ 7302250 by omega)⟩ hl.1 (Nat.le_of_ble_eq_true rfl) rfl rfl dL_law_198 (pmU (List.Perm.refl _) hP hD hK (XW_c (lP hP)) rfl rfl 0 rfl)) (List.Perm.refl _) hP hD hS hA (fun r_1 zs_3 H locs hw_2 hP hD hS => ?_)
  obtain ⟨hIx, hw_2_0⟩ := hw_2
  refine lv_pop hx hb dL_law_201 rfl ?_
  refine lv_aload_n hx hb dL_law_202 rfl (lv_at hl 1 rfl) ?_
  refine lv_aload_n hx hb dL_law_203 rfl (lv_at hl 3 rfl) ?_
  refine lv_iload_n hx hb dL_law_204 rfl (lv_at hl 0 rfl) ?_
  refine lv_iconst (v := 1) hx hb dL_law_205 (by decide) ?_
  refine lv_iadd hx hb dL_law_206 ?_
  refine va_sld hx hb hX hbl hbA hS (sc_in (by omega) t_1 (by omega) (by omega) (by omega)) dL_law_207 ?_
  refine aftU_i (runMG (rest := []) (As := [.int (xs (i + 1).toNatClampNeg)]) hx hb hml hown htb (U_X9_days l D E qm (xs (i + 1).toNatClampNeg) _ zm hIm) ok_X9_days k_1164 k_1165 k_1166 k_9 k_1167 ⟨(Nat.le_of_ble_eq_true rfl), (Nat.le_of_ble_eq_true rfl)⟩ ⟨(show (123 + 5 * k) + 0 + 0 ≤ 600000 by omega), (show (44666 + 1604 * k) + 0 + 0 ≤ 7302250 by omega)⟩ hl.1 (Nat.le_of_ble_eq_true rfl) rfl rfl dL_law_208 (pmU List.perm_append_comm hP hD hK (rP hP) rfl rfl 0 rfl)) List.perm_append_comm hP hD hS hA (fun r_4 zs_6 H locs hw_5 hP hD hS => ?_)
  have hP := sw_P hP; have hD := sw_D hD
  obtain ⟨hIm, hw_5_0⟩ := hw_5
  refine lv_pop hx hb dL_law_211 rfl ?_
  refine lv_goto (tgt := 1550) hx hb dL_law_212 (by decide) ?_
  refine W.widen (k := (123 + 5 * k) + 5) (n := (44666 + 1604 * k) + 1604) (by omega) (by omega) ?_
  exact next zs_3 zs_6 _ _ _ ⟨hIx, hIm, (ST_days hI0 hTR hw_2_0 hw_5_0), ⟨(TR2_k hT2.1 (K2_X8_days hw_2_0) (K2_X9_days hw_5_0)), (TT_k hT2.2.1 (K3_X8_days hw_2_0) (K3_X9_days hw_5_0)), (TU_k hT2.2.2 (K4_X8_days hw_2_0) (K4_X9_days hw_5_0))⟩, (TV_k hTV (K5_X8_days hw_2_0) (K5_X9_days hw_5_0))⟩ hP hD hS (lv_sub hl [0, 1, 2, 3] rfl)
set_option maxHeartbeats 4000000 in
set_option maxRecDepth 100000 in
theorem law_1 {p : Program} {l : Launch} {e : Env} {s : State} {m : MethodId} {below : List Frame} {meth : Method} {c : Code} {D : va_G} {E : Nat → Nat} {b L : Nat} {xs : Nat → Int32} (hx : p.tables.exec = Jvm.exec) (hb : c.code = code) (hr : meth.sig.returnType = ret) (hml : c.maxLocals = 4) (hown : s.vm.findClass R_law = some m.cls) (htb : ∀ w ∈ tb, w.before #[Value.ref b] s = true) (hK : KX D E s) (hG : SGs [((E 6), (E 8), 60, tw6), ((E 7), (E 9), 35, tw7)] (fun q : Nat => s.heap.size ≤ q) s s.heap) (hX : va_X b L xs s s.heap) (hL : L ≤ 3072) (hbl : b < s.heap.size) (hlocks : meth.locks = false) {qx qm k : Nat} {i : Int32} (hk : k ≤ 512) (hi : i.toInt = 6 * (k : Int)) (hiL : i.toInt + 6 ≤ (L : Int)) {zx : XS} {zm : MS} {H : Heap} {locs : List Loc} {ls : Array Slot} (hI : LI zx zm) (hP : va_P D vwCl (XW E qx zx ++ MW E qm zm) H) (hD : va_D (fun q : Nat => s.heap.size ≤ q) (XW E qx zx ++ MW E qm zm)) (hS : va_S (fun q : Nat => s.heap.size ≤ q) s.heap H locs) (hl : lv_has ls 4 [(3, .int i), (2, .ref qm), (1, .ref qx), (0, .ref b)]) (next : ∀ (zx : XS) (zm : MS) (H : Heap) (locs : List Loc) (ls : Array Slot), LI zx zm → va_P D vwCl (XW E qx zx ++ MW E qm zm) H → va_D (fun q : Nat => s.heap.size ≤ q) (XW E qx zx ++ MW E qm zm) → va_S (fun q : Nat => s.heap.size ≤ q) s.heap H locs → lv_has ls 4 [(3, .int i), (2, .ref qm), (1, .ref qx), (0, .ref b)] → W p l e room_1 s m #[Value.ref b] below meth c H locs ((123 + 5 * k) + 5) ((44666 + 1604 * k) + 1604) (lw_Z below #[Value.ref b] s) (F0 m 1550 ls [])) : W p l e room_1 s m #[Value.ref b] below meth c H locs (123 + 5 * k) (44666 + 1604 * k) (lw_Z below #[Value.ref b] s) (F0 m 215 ls []) := by
  have hA : ∀ q : Nat, s.heap.size ≤ q → (fun q : Nat => s.heap.size ≤ q) q := fun _ h => h
  have hbA : ¬ (fun q : Nat => s.heap.size ≤ q) b := Nat.not_le.mpr hbl
  obtain ⟨hIx, hIm, hTR, hT2, hTV⟩ := hI
  have hI0 := hIx; have hM0 := hIm
  refine lv_aload_n hx hb dL_law_215 rfl (lv_at hl 2 rfl) ?_
  refine lv_aload_n hx hb dL_law_216 rfl (lv_at hl 3 rfl) ?_
  refine lv_iload_n hx hb dL_law_217 rfl (lv_at hl 0 rfl) ?_
  refine lv_iconst (v := 1) hx hb dL_law_218 (by decide) ?_
  refine lv_iadd hx hb dL_law_219 ?_
  refine va_sld hx hb hX hbl hbA hS (sc_in (by omega) t_1 (by omega) (by omega) (by omega)) dL_law_220 ?_
  refine lv_aload_n hx hb dL_law_221 rfl (lv_at hl 3 rfl) ?_
  refine lv_iload_n hx hb dL_law_222 rfl (lv_at hl 0 rfl) ?_
  refine lv_iconst (v := 2) hx hb dL_law_223 (by decide) ?_
  refine lv_iadd hx hb dL_law_224 ?_
  refine va_sld hx hb hX hbl hbA hS (sc_in (by omega) t_2 (by omega) (by omega) (by omega)) dL_law_225 ?_
  refine aftU_i (runMG (rest := []) (As := [.int (xs (i + 1).toNatClampNeg), .int (xs (i + 2).toNatClampNeg)]) hx hb hml hown htb (U_X8_warmth l D E qx (xs (i + 1).toNatClampNeg) (xs (i + 2).toNatClampNeg) _ zx hIx) ok_X8_warmth k_319 k_320 k_321 k_1 k_322 ⟨(Nat.le_of_ble_eq_true rfl), (Nat.le_of_ble_eq_true rfl)⟩ ⟨(show (123 + 5 * k) + 0 ≤ 600000 by omega), (show (44666 + 1604 * k) + 0 ≤ 7302250 by omega)⟩ hl.1 (Nat.le_of_ble_eq_true rfl) rfl rfl dL_law_226 (pmU (List.Perm.refl _) hP hD hK (XW_c (lP hP)) rfl rfl 0 rfl)) (List.Perm.refl _) hP hD hS hA (fun r_1 zs_3 H locs hw_2 hP hD hS => ?_)
  obtain ⟨hIx, hw_2_0⟩ := hw_2
  refine lv_pop hx hb dL_law_229 rfl ?_
  refine lv_aload_n hx hb dL_law_230 rfl (lv_at hl 1 rfl) ?_
  refine lv_aload_n hx hb dL_law_231 rfl (lv_at hl 3 rfl) ?_
  refine lv_iload_n hx hb dL_law_232 rfl (lv_at hl 0 rfl) ?_
  refine lv_iconst (v := 1) hx hb dL_law_233 (by decide) ?_
  refine lv_iadd hx hb dL_law_234 ?_
  refine va_sld hx hb hX hbl hbA hS (sc_in (by omega) t_1 (by omega) (by omega) (by omega)) dL_law_235 ?_
  refine lv_aload_n hx hb dL_law_236 rfl (lv_at hl 3 rfl) ?_
  refine lv_iload_n hx hb dL_law_237 rfl (lv_at hl 0 rfl) ?_
  refine lv_iconst (v := 2) hx hb dL_law_238 (by decide) ?_
  refine lv_iadd hx hb dL_law_239 ?_
  refine va_sld hx hb hX hbl hbA hS (sc_in (by omega) t_2 (by omega) (by omega) (by omega)) dL_law_240 ?_
  refine aftU_i (runMG (rest := []) (As := [.int (xs (i + 1).toNatClampNeg), .int (xs (i + 2).toNatClampNeg)]) hx hb hml hown htb (U_X9_warmth l D E qm (xs (i + 1).toNatClampNeg) (xs (i + 2).toNatClampNeg) _ zm hIm) ok_X9_warmth k_1171 k_1172 k_1173 k_9 k_1174 ⟨(Nat.le_of_ble_eq_true rfl), (Nat.le_of_ble_eq_true rfl)⟩ ⟨(show (123 + 5 * k) + 0 + 0 ≤ 600000 by omega), (show (44666 + 1604 * k) + 0 + 0 ≤ 7302250 by omega)⟩ hl.1 (Nat.le_of_ble_eq_true rfl) rfl rfl dL_law_241 (pmU List.perm_append_comm hP hD hK (rP hP) rfl rfl 0 rfl)) List.perm_append_comm hP hD hS hA (fun r_4 zs_6 H locs hw_5 hP hD hS => ?_)
  have hP := sw_P hP; have hD := sw_D hD
  obtain ⟨hIm, hw_5_0⟩ := hw_5
  refine lv_pop hx hb dL_law_244 rfl ?_
  refine lv_goto (tgt := 1550) hx hb dL_law_245 (by decide) ?_
  refine W.widen (k := (123 + 5 * k) + 5) (n := (44666 + 1604 * k) + 1604) (by omega) (by omega) ?_
  exact next zs_3 zs_6 _ _ _ ⟨hIx, hIm, (ST_warmth hI0 hTR hw_2_0 hw_5_0), ⟨(TR2_k hT2.1 (K2_X8_warmth hw_2_0) (K2_X9_warmth hw_5_0)), (TT_k hT2.2.1 (K3_X8_warmth hw_2_0) (K3_X9_warmth hw_5_0)), (TU_k hT2.2.2 (K4_X8_warmth hw_2_0) (K4_X9_warmth hw_5_0))⟩, (TV_k hTV (K5_X8_warmth hw_2_0) (K5_X9_warmth hw_5_0))⟩ hP hD hS (lv_sub hl [0, 1, 2, 3] rfl)
set_option maxHeartbeats 4000000 in
set_option maxRecDepth 100000 in
theorem law_2 {p : Program} {l : Launch} {e : Env} {s : State} {m : MethodId} {below : List Frame} {meth : Method} {c : Code} {D : va_G} {E : Nat → Nat} {b L : Nat} {xs : Nat → Int32} (hx : p.tables.exec = Jvm.exec) (hb : c.code = code) (hr : meth.sig.returnType = ret) (hml : c.maxLocals = 4) (hown : s.vm.findClass R_law = some m.cls) (htb : ∀ w ∈ tb, w.before #[Value.ref b] s = true) (hK : KX D E s) (hG : SGs [((E 6), (E 8), 60, tw6), ((E 7), (E 9), 35, tw7)] (fun q : Nat => s.heap.size ≤ q) s s.heap) (hX : va_X b L xs s s.heap) (hL : L ≤ 3072) (hbl : b < s.heap.size) (hlocks : meth.locks = false) {qx qm k : Nat} {i : Int32} (hk : k ≤ 512) (hi : i.toInt = 6 * (k : Int)) (hiL : i.toInt + 6 ≤ (L : Int)) {zx : XS} {zm : MS} {H : Heap} {locs : List Loc} {ls : Array Slot} (hI : LI zx zm) (hP : va_P D vwCl (XW E qx zx ++ MW E qm zm) H) (hD : va_D (fun q : Nat => s.heap.size ≤ q) (XW E qx zx ++ MW E qm zm)) (hS : va_S (fun q : Nat => s.heap.size ≤ q) s.heap H locs) (hl : lv_has ls 4 [(3, .int i), (2, .ref qm), (1, .ref qx), (0, .ref b)]) (next : ∀ (zx : XS) (zm : MS) (H : Heap) (locs : List Loc) (ls : Array Slot), LI zx zm → va_P D vwCl (XW E qx zx ++ MW E qm zm) H → va_D (fun q : Nat => s.heap.size ≤ q) (XW E qx zx ++ MW E qm zm) → va_S (fun q : Nat => s.heap.size ≤ q) s.heap H locs → lv_has ls 4 [(3, .int i), (2, .ref qm), (1, .ref qx), (0, .ref b)] → W p l e room_1 s m #[Value.ref b] below meth c H locs ((123 + 5 * k) + 5) ((44666 + 1604 * k) + 1604) (lw_Z below #[Value.ref b] s) (F0 m 1550 ls [])) : W p l e room_1 s m #[Value.ref b] below meth c H locs (123 + 5 * k) (44666 + 1604 * k) (lw_Z below #[Value.ref b] s) (F0 m 248 ls []) := by
  have hA : ∀ q : Nat, s.heap.size ≤ q → (fun q : Nat => s.heap.size ≤ q) q := fun _ h => h
  have hbA : ¬ (fun q : Nat => s.heap.size ≤ q) b := Nat.not_le.mpr hbl
  obtain ⟨hIx, hIm, hTR, hT2, hTV⟩ := hI
  have hI0 := hIx; have hM0 := hIm
  refine lv_aload_n hx hb dL_law_248 rfl (lv_at hl 2 rfl) ?_
  refine lv_aload_n hx hb dL_law_249 rfl (lv_at hl 3 rfl) ?_
  refine lv_iload_n hx hb dL_law_250 rfl (lv_at hl 0 rfl) ?_
  refine lv_iconst (v := 1) hx hb dL_law_251 (by decide) ?_
  refine lv_iadd hx hb dL_law_252 ?_
  refine va_sld hx hb hX hbl hbA hS (sc_in (by omega) t_1 (by omega) (by omega) (by omega)) dL_law_253 ?_
  refine lv_aload_n hx hb dL_law_254 rfl (lv_at hl 3 rfl) ?_
  refine lv_iload_n hx hb dL_law_255 rfl (lv_at hl 0 rfl) ?_
  refine lv_iconst (v := 2) hx hb dL_law_256 (by decide) ?_
  refine lv_iadd hx hb dL_law_257 ?_
  refine va_sld hx hb hX hbl hbA hS (sc_in (by omega) t_2 (by omega) (by omega) (by omega)) dL_law_258 ?_
  refine lv_aload_n hx hb dL_law_259 rfl (lv_at hl 3 rfl) ?_
  refine lv_iload_n hx hb dL_law_260 rfl (lv_at hl 0 rfl) ?_
  refine lv_iconst (v := 3) hx hb dL_law_261 (by decide) ?_
  refine lv_iadd hx hb dL_law_262 ?_
  refine va_sld hx hb hX hbl hbA hS (sc_in (by omega) t_3 (by omega) (by omega) (by omega)) dL_law_263 ?_
  refine aftU_i (runMG (rest := []) (As := [.int (xs (i + 1).toNatClampNeg), .int (xs (i + 2).toNatClampNeg), .int (xs (i + 3).toNatClampNeg)]) hx hb hml hown htb (U_X8_put l D E qx (xs (i + 1).toNatClampNeg) (xs (i + 2).toNatClampNeg) (xs (i + 3).toNatClampNeg) _ zx hIx) ok_X8_put k_329 k_330 k_331 k_1 k_332 ⟨(Nat.le_of_ble_eq_true rfl), (Nat.le_of_ble_eq_true rfl)⟩ ⟨(show (123 + 5 * k) + 5 ≤ 600000 by omega), (show (44666 + 1604 * k) + 1604 ≤ 7302250 by omega)⟩ hl.1 (Nat.le_of_ble_eq_true rfl) rfl rfl dL_law_264 (pmU (List.Perm.refl _) hP hD hK (XW_c (lP hP)) rfl rfl 0 rfl)) (List.Perm.refl _) hP hD hS hA (fun r_1 zs_3 H locs hw_2 hP hD hS => ?_)
  obtain ⟨hIx, hw_2_0⟩ := hw_2
  refine lv_pop hx hb dL_law_267 rfl ?_
  refine lv_aload_n hx hb dL_law_268 rfl (lv_at hl 1 rfl) ?_
  refine lv_aload_n hx hb dL_law_269 rfl (lv_at hl 3 rfl) ?_
  refine lv_iload_n hx hb dL_law_270 rfl (lv_at hl 0 rfl) ?_
  refine lv_iconst (v := 1) hx hb dL_law_271 (by decide) ?_
  refine lv_iadd hx hb dL_law_272 ?_
  refine va_sld hx hb hX hbl hbA hS (sc_in (by omega) t_1 (by omega) (by omega) (by omega)) dL_law_273 ?_
  refine lv_aload_n hx hb dL_law_274 rfl (lv_at hl 3 rfl) ?_
  refine lv_iload_n hx hb dL_law_275 rfl (lv_at hl 0 rfl) ?_
  refine lv_iconst (v := 2) hx hb dL_law_276 (by decide) ?_
  refine lv_iadd hx hb dL_law_277 ?_
  refine va_sld hx hb hX hbl hbA hS (sc_in (by omega) t_2 (by omega) (by omega) (by omega)) dL_law_278 ?_
  refine lv_aload_n hx hb dL_law_279 rfl (lv_at hl 3 rfl) ?_
  refine lv_iload_n hx hb dL_law_280 rfl (lv_at hl 0 rfl) ?_
  refine lv_iconst (v := 3) hx hb dL_law_281 (by decide) ?_
  refine lv_iadd hx hb dL_law_282 ?_
  refine va_sld hx hb hX hbl hbA hS (sc_in (by omega) t_3 (by omega) (by omega) (by omega)) dL_law_283 ?_
  refine aftU_i (runMG (rest := []) (As := [.int (xs (i + 1).toNatClampNeg), .int (xs (i + 2).toNatClampNeg), .int (xs (i + 3).toNatClampNeg)]) hx hb hml hown htb (U_X9_put l D E qm (xs (i + 1).toNatClampNeg) (xs (i + 2).toNatClampNeg) (xs (i + 3).toNatClampNeg) _ zm hIm) ok_X9_put k_1178 k_1179 k_1180 k_9 k_1181 ⟨(Nat.le_of_ble_eq_true rfl), (Nat.le_of_ble_eq_true rfl)⟩ ⟨(show (123 + 5 * k) + 5 + 0 ≤ 600000 by omega), (show (44666 + 1604 * k) + 1604 + 0 ≤ 7302250 by omega)⟩ hl.1 (Nat.le_of_ble_eq_true rfl) rfl rfl dL_law_284 (pmU List.perm_append_comm hP hD hK (rP hP) rfl rfl 0 rfl)) List.perm_append_comm hP hD hS hA (fun r_4 zs_6 H locs hw_5 hP hD hS => ?_)
  have hP := sw_P hP; have hD := sw_D hD
  obtain ⟨hIm, hw_5_0⟩ := hw_5
  refine lv_pop hx hb dL_law_287 rfl ?_
  refine lv_goto (tgt := 1550) hx hb dL_law_288 (by decide) ?_
  refine W.widen (k := (123 + 5 * k) + 5) (n := (44666 + 1604 * k) + 1604) (by omega) (by omega) ?_
  exact next zs_3 zs_6 _ _ _ ⟨hIx, hIm, (ST_put hI0 hTR hw_2_0 hw_5_0), ⟨(TR2_k hT2.1 (K2_X8_put hw_2_0) (K2_X9_put hw_5_0)), (TT_k hT2.2.1 (K3_X8_put hw_2_0) (K3_X9_put hw_5_0)), (TU_k hT2.2.2 (K4_X8_put hw_2_0) (K4_X9_put hw_5_0))⟩, (TV_k hTV (K5_X8_put hw_2_0) (K5_X9_put hw_5_0))⟩ hP hD hS (lv_sub hl [0, 1, 2, 3] rfl)
set_option maxHeartbeats 4000000 in
set_option maxRecDepth 100000 in
theorem law_3 {p : Program} {l : Launch} {e : Env} {s : State} {m : MethodId} {below : List Frame} {meth : Method} {c : Code} {D : va_G} {E : Nat → Nat} {b L : Nat} {xs : Nat → Int32} (hx : p.tables.exec = Jvm.exec) (hb : c.code = code) (hr : meth.sig.returnType = ret) (hml : c.maxLocals = 4) (hown : s.vm.findClass R_law = some m.cls) (htb : ∀ w ∈ tb, w.before #[Value.ref b] s = true) (hK : KX D E s) (hG : SGs [((E 6), (E 8), 60, tw6), ((E 7), (E 9), 35, tw7)] (fun q : Nat => s.heap.size ≤ q) s s.heap) (hX : va_X b L xs s s.heap) (hL : L ≤ 3072) (hbl : b < s.heap.size) (hlocks : meth.locks = false) {qx qm k : Nat} {i : Int32} (hk : k ≤ 512) (hi : i.toInt = 6 * (k : Int)) (hiL : i.toInt + 6 ≤ (L : Int)) {zx : XS} {zm : MS} {H : Heap} {locs : List Loc} {ls : Array Slot} (hI : LI zx zm) (hP : va_P D vwCl (XW E qx zx ++ MW E qm zm) H) (hD : va_D (fun q : Nat => s.heap.size ≤ q) (XW E qx zx ++ MW E qm zm)) (hS : va_S (fun q : Nat => s.heap.size ≤ q) s.heap H locs) (hl : lv_has ls 4 [(3, .int i), (2, .ref qm), (1, .ref qx), (0, .ref b)]) (next : ∀ (zx : XS) (zm : MS) (H : Heap) (locs : List Loc) (ls : Array Slot), LI zx zm → va_P D vwCl (XW E qx zx ++ MW E qm zm) H → va_D (fun q : Nat => s.heap.size ≤ q) (XW E qx zx ++ MW E qm zm) → va_S (fun q : Nat => s.heap.size ≤ q) s.heap H locs → lv_has ls 4 [(3, .int i), (2, .ref qm), (1, .ref qx), (0, .ref b)] → W p l e room_1 s m #[Value.ref b] below meth c H locs ((123 + 5 * k) + 5) ((44666 + 1604 * k) + 1604) (lw_Z below #[Value.ref b] s) (F0 m 1550 ls [])) : W p l e room_1 s m #[Value.ref b] below meth c H locs (123 + 5 * k) (44666 + 1604 * k) (lw_Z below #[Value.ref b] s) (F0 m 291 ls []) := by
  have hA : ∀ q : Nat, s.heap.size ≤ q → (fun q : Nat => s.heap.size ≤ q) q := fun _ h => h
  have hbA : ¬ (fun q : Nat => s.heap.size ≤ q) b := Nat.not_le.mpr hbl
  obtain ⟨hIx, hIm, hTR, hT2, hTV⟩ := hI
  have hI0 := hIx; have hM0 := hIm
  refine lv_aload_n hx hb dL_law_291 rfl (lv_at hl 2 rfl) ?_
  refine lv_aload_n hx hb dL_law_292 rfl (lv_at hl 3 rfl) ?_
  refine lv_iload_n hx hb dL_law_293 rfl (lv_at hl 0 rfl) ?_
  refine lv_iconst (v := 1) hx hb dL_law_294 (by decide) ?_
  refine lv_iadd hx hb dL_law_295 ?_
  refine va_sld hx hb hX hbl hbA hS (sc_in (by omega) t_1 (by omega) (by omega) (by omega)) dL_law_296 ?_
  refine aftU_i (runMG (rest := []) (As := [.int (xs (i + 1).toNatClampNeg)]) hx hb hml hown htb (U_X8_take l D E qx (xs (i + 1).toNatClampNeg) _ zx hIx) ok_X8_take k_365 k_366 k_367 k_1 k_368 ⟨(Nat.le_of_ble_eq_true rfl), (Nat.le_of_ble_eq_true rfl)⟩ ⟨(show (123 + 5 * k) + 0 ≤ 600000 by omega), (show (44666 + 1604 * k) + 0 ≤ 7302250 by omega)⟩ hl.1 (Nat.le_of_ble_eq_true rfl) rfl rfl dL_law_297 (pmU (List.Perm.refl _) hP hD hK (XW_c (lP hP)) rfl rfl 0 rfl)) (List.Perm.refl _) hP hD hS hA (fun r_1 zs_3 H locs hw_2 hP hD hS => ?_)
  obtain ⟨hIx, hw_2_0⟩ := hw_2
  refine lv_pop hx hb dL_law_300 rfl ?_
  refine lv_aload_n hx hb dL_law_301 rfl (lv_at hl 1 rfl) ?_
  refine lv_aload_n hx hb dL_law_302 rfl (lv_at hl 3 rfl) ?_
  refine lv_iload_n hx hb dL_law_303 rfl (lv_at hl 0 rfl) ?_
  refine lv_iconst (v := 1) hx hb dL_law_304 (by decide) ?_
  refine lv_iadd hx hb dL_law_305 ?_
  refine va_sld hx hb hX hbl hbA hS (sc_in (by omega) t_1 (by omega) (by omega) (by omega)) dL_law_306 ?_
  refine aftU_i (runMG (rest := []) (As := [.int (xs (i + 1).toNatClampNeg)]) hx hb hml hown htb (U_X9_take l D E qm (xs (i + 1).toNatClampNeg) _ zm hIm) ok_X9_take k_1185 k_1186 k_1187 k_9 k_1188 ⟨(Nat.le_of_ble_eq_true rfl), (Nat.le_of_ble_eq_true rfl)⟩ ⟨(show (123 + 5 * k) + 0 + 0 ≤ 600000 by omega), (show (44666 + 1604 * k) + 0 + 0 ≤ 7302250 by omega)⟩ hl.1 (Nat.le_of_ble_eq_true rfl) rfl rfl dL_law_307 (pmU List.perm_append_comm hP hD hK (rP hP) rfl rfl 0 rfl)) List.perm_append_comm hP hD hS hA (fun r_4 zs_6 H locs hw_5 hP hD hS => ?_)
  have hP := sw_P hP; have hD := sw_D hD
  obtain ⟨hIm, hw_5_0⟩ := hw_5
  refine lv_pop hx hb dL_law_310 rfl ?_
  refine lv_goto (tgt := 1550) hx hb dL_law_311 (by decide) ?_
  refine W.widen (k := (123 + 5 * k) + 5) (n := (44666 + 1604 * k) + 1604) (by omega) (by omega) ?_
  exact next zs_3 zs_6 _ _ _ ⟨hIx, hIm, (ST_take hI0 hTR hw_2_0 hw_5_0), ⟨(TR2_k hT2.1 (K2_X8_take hw_2_0) (K2_X9_take hw_5_0)), (TT_k hT2.2.1 (K3_X8_take hw_2_0) (K3_X9_take hw_5_0)), (TU_k hT2.2.2 (K4_X8_take hw_2_0) (K4_X9_take hw_5_0))⟩, (TV_k hTV (K5_X8_take hw_2_0) (K5_X9_take hw_5_0))⟩ hP hD hS (lv_sub hl [0, 1, 2, 3] rfl)
set_option maxHeartbeats 4000000 in
set_option maxRecDepth 100000 in
theorem law_4 {p : Program} {l : Launch} {e : Env} {s : State} {m : MethodId} {below : List Frame} {meth : Method} {c : Code} {D : va_G} {E : Nat → Nat} {b L : Nat} {xs : Nat → Int32} (hx : p.tables.exec = Jvm.exec) (hb : c.code = code) (hr : meth.sig.returnType = ret) (hml : c.maxLocals = 4) (hown : s.vm.findClass R_law = some m.cls) (htb : ∀ w ∈ tb, w.before #[Value.ref b] s = true) (hK : KX D E s) (hG : SGs [((E 6), (E 8), 60, tw6), ((E 7), (E 9), 35, tw7)] (fun q : Nat => s.heap.size ≤ q) s s.heap) (hX : va_X b L xs s s.heap) (hL : L ≤ 3072) (hbl : b < s.heap.size) (hlocks : meth.locks = false) {qx qm k : Nat} {i : Int32} (hk : k ≤ 512) (hi : i.toInt = 6 * (k : Int)) (hiL : i.toInt + 6 ≤ (L : Int)) {zx : XS} {zm : MS} {H : Heap} {locs : List Loc} {ls : Array Slot} (hI : LI zx zm) (hP : va_P D vwCl (XW E qx zx ++ MW E qm zm) H) (hD : va_D (fun q : Nat => s.heap.size ≤ q) (XW E qx zx ++ MW E qm zm)) (hS : va_S (fun q : Nat => s.heap.size ≤ q) s.heap H locs) (hl : lv_has ls 4 [(3, .int i), (2, .ref qm), (1, .ref qx), (0, .ref b)]) (next : ∀ (zx : XS) (zm : MS) (H : Heap) (locs : List Loc) (ls : Array Slot), LI zx zm → va_P D vwCl (XW E qx zx ++ MW E qm zm) H → va_D (fun q : Nat => s.heap.size ≤ q) (XW E qx zx ++ MW E qm zm) → va_S (fun q : Nat => s.heap.size ≤ q) s.heap H locs → lv_has ls 4 [(3, .int i), (2, .ref qm), (1, .ref qx), (0, .ref b)] → W p l e room_1 s m #[Value.ref b] below meth c H locs ((123 + 5 * k) + 5) ((44666 + 1604 * k) + 1604) (lw_Z below #[Value.ref b] s) (F0 m 1550 ls [])) : W p l e room_1 s m #[Value.ref b] below meth c H locs (123 + 5 * k) (44666 + 1604 * k) (lw_Z below #[Value.ref b] s) (F0 m 314 ls []) := by
  have hA : ∀ q : Nat, s.heap.size ≤ q → (fun q : Nat => s.heap.size ≤ q) q := fun _ h => h
  have hbA : ¬ (fun q : Nat => s.heap.size ≤ q) b := Nat.not_le.mpr hbl
  obtain ⟨hIx, hIm, hTR, hT2, hTV⟩ := hI
  have hI0 := hIx; have hM0 := hIm
  refine lv_aload_n hx hb dL_law_314 rfl (lv_at hl 2 rfl) ?_
  refine lv_aload_n hx hb dL_law_315 rfl (lv_at hl 3 rfl) ?_
  refine lv_iload_n hx hb dL_law_316 rfl (lv_at hl 0 rfl) ?_
  refine lv_iconst (v := 1) hx hb dL_law_317 (by decide) ?_
  refine lv_iadd hx hb dL_law_318 ?_
  refine va_sld hx hb hX hbl hbA hS (sc_in (by omega) t_1 (by omega) (by omega) (by omega)) dL_law_319 ?_
  refine aftU_i (runMG (rest := []) (As := [.int (xs (i + 1).toNatClampNeg)]) hx hb hml hown htb (U_X8_holds l D E qx (xs (i + 1).toNatClampNeg) _ zx hIx) ok_X8_holds k_378 k_379 k_380 k_1 k_381 ⟨(Nat.le_of_ble_eq_true rfl), (Nat.le_of_ble_eq_true rfl)⟩ ⟨(show (123 + 5 * k) + 0 ≤ 600000 by omega), (show (44666 + 1604 * k) + 0 ≤ 7302250 by omega)⟩ hl.1 (Nat.le_of_ble_eq_true rfl) rfl rfl dL_law_320 (pmU (List.Perm.refl _) hP hD hK (XW_c (lP hP)) rfl rfl 0 rfl)) (List.Perm.refl _) hP hD hS hA (fun r_1 zs_3 H locs hw_2 hP hD hS => ?_)
  obtain ⟨hIx, hw_2_0⟩ := hw_2
  refine lv_pop hx hb dL_law_323 rfl ?_
  refine lv_aload_n hx hb dL_law_324 rfl (lv_at hl 1 rfl) ?_
  refine lv_aload_n hx hb dL_law_325 rfl (lv_at hl 3 rfl) ?_
  refine lv_iload_n hx hb dL_law_326 rfl (lv_at hl 0 rfl) ?_
  refine lv_iconst (v := 1) hx hb dL_law_327 (by decide) ?_
  refine lv_iadd hx hb dL_law_328 ?_
  refine va_sld hx hb hX hbl hbA hS (sc_in (by omega) t_1 (by omega) (by omega) (by omega)) dL_law_329 ?_
  refine aftU_i (runMG (rest := []) (As := [.int (xs (i + 1).toNatClampNeg)]) hx hb hml hown htb (U_X9_holds l D E qm (xs (i + 1).toNatClampNeg) _ zm hIm) ok_X9_holds k_1197 k_1198 k_1199 k_9 k_1200 ⟨(Nat.le_of_ble_eq_true rfl), (Nat.le_of_ble_eq_true rfl)⟩ ⟨(show (123 + 5 * k) + 0 + 0 ≤ 600000 by omega), (show (44666 + 1604 * k) + 0 + 0 ≤ 7302250 by omega)⟩ hl.1 (Nat.le_of_ble_eq_true rfl) rfl rfl dL_law_330 (pmU List.perm_append_comm hP hD hK (rP hP) rfl rfl 0 rfl)) List.perm_append_comm hP hD hS hA (fun r_4 zs_6 H locs hw_5 hP hD hS => ?_)
  have hP := sw_P hP; have hD := sw_D hD
  obtain ⟨hIm, hw_5_0⟩ := hw_5
  refine lv_pop hx hb dL_law_333 rfl ?_
  refine lv_goto (tgt := 1550) hx hb dL_law_334 (by decide) ?_
  refine W.widen (k := (123 + 5 * k) + 5) (n := (44666 + 1604 * k) + 1604) (by omega) (by omega) ?_
  exact next zs_3 zs_6 _ _ _ ⟨hIx, hIm, (TR_kp hTR (KP_X8_holds hw_2_0) (KP_X9_holds hw_5_0) (KQ_X9_holds hw_5_0)), ⟨(TR2_k hT2.1 (K2_X8_holds hw_2_0) (K2_X9_holds hw_5_0)), (TT_k hT2.2.1 (K3_X8_holds hw_2_0) (K3_X9_holds hw_5_0)), (TU_k hT2.2.2 (K4_X8_holds hw_2_0) (K4_X9_holds hw_5_0))⟩, (TV_k hTV (K5_X8_holds hw_2_0) (K5_X9_holds hw_5_0))⟩ hP hD hS (lv_sub hl [0, 1, 2, 3] rfl)
set_option maxHeartbeats 4000000 in
set_option maxRecDepth 100000 in
theorem law_5 {p : Program} {l : Launch} {e : Env} {s : State} {m : MethodId} {below : List Frame} {meth : Method} {c : Code} {D : va_G} {E : Nat → Nat} {b L : Nat} {xs : Nat → Int32} (hx : p.tables.exec = Jvm.exec) (hb : c.code = code) (hr : meth.sig.returnType = ret) (hml : c.maxLocals = 4) (hown : s.vm.findClass R_law = some m.cls) (htb : ∀ w ∈ tb, w.before #[Value.ref b] s = true) (hK : KX D E s) (hG : SGs [((E 6), (E 8), 60, tw6), ((E 7), (E 9), 35, tw7)] (fun q : Nat => s.heap.size ≤ q) s s.heap) (hX : va_X b L xs s s.heap) (hL : L ≤ 3072) (hbl : b < s.heap.size) (hlocks : meth.locks = false) {qx qm k : Nat} {i : Int32} (hk : k ≤ 512) (hi : i.toInt = 6 * (k : Int)) (hiL : i.toInt + 6 ≤ (L : Int)) {zx : XS} {zm : MS} {H : Heap} {locs : List Loc} {ls : Array Slot} (hI : LI zx zm) (hP : va_P D vwCl (XW E qx zx ++ MW E qm zm) H) (hD : va_D (fun q : Nat => s.heap.size ≤ q) (XW E qx zx ++ MW E qm zm)) (hS : va_S (fun q : Nat => s.heap.size ≤ q) s.heap H locs) (hl : lv_has ls 4 [(3, .int i), (2, .ref qm), (1, .ref qx), (0, .ref b)]) (next : ∀ (zx : XS) (zm : MS) (H : Heap) (locs : List Loc) (ls : Array Slot), LI zx zm → va_P D vwCl (XW E qx zx ++ MW E qm zm) H → va_D (fun q : Nat => s.heap.size ≤ q) (XW E qx zx ++ MW E qm zm) → va_S (fun q : Nat => s.heap.size ≤ q) s.heap H locs → lv_has ls 4 [(3, .int i), (2, .ref qm), (1, .ref qx), (0, .ref b)] → W p l e room_1 s m #[Value.ref b] below meth c H locs ((123 + 5 * k) + 5) ((44666 + 1604 * k) + 1604) (lw_Z below #[Value.ref b] s) (F0 m 1550 ls [])) : W p l e room_1 s m #[Value.ref b] below meth c H locs (123 + 5 * k) (44666 + 1604 * k) (lw_Z below #[Value.ref b] s) (F0 m 337 ls []) := by
  have hA : ∀ q : Nat, s.heap.size ≤ q → (fun q : Nat => s.heap.size ≤ q) q := fun _ h => h
  have hbA : ¬ (fun q : Nat => s.heap.size ≤ q) b := Nat.not_le.mpr hbl
  obtain ⟨hIx, hIm, hTR, hT2, hTV⟩ := hI
  have hI0 := hIx; have hM0 := hIm
  refine lv_aload_n hx hb dL_law_337 rfl (lv_at hl 2 rfl) ?_
  refine lv_aload_n hx hb dL_law_338 rfl (lv_at hl 3 rfl) ?_
  refine lv_iload_n hx hb dL_law_339 rfl (lv_at hl 0 rfl) ?_
  refine lv_iconst (v := 1) hx hb dL_law_340 (by decide) ?_
  refine lv_iadd hx hb dL_law_341 ?_
  refine va_sld hx hb hX hbl hbA hS (sc_in (by omega) t_1 (by omega) (by omega) (by omega)) dL_law_342 ?_
  refine aftU_i (runMG (rest := []) (As := [.int (xs (i + 1).toNatClampNeg)]) hx hb hml hown htb (U_X8_read l D E qx (xs (i + 1).toNatClampNeg) _ zx hIx) ok_X8_read k_382 k_383 k_384 k_1 k_385 ⟨(Nat.le_of_ble_eq_true rfl), (Nat.le_of_ble_eq_true rfl)⟩ ⟨(show (123 + 5 * k) + 0 ≤ 600000 by omega), (show (44666 + 1604 * k) + 0 ≤ 7302250 by omega)⟩ hl.1 (Nat.le_of_ble_eq_true rfl) rfl rfl dL_law_343 (pmU (List.Perm.refl _) hP hD hK (XW_c (lP hP)) rfl rfl 0 rfl)) (List.Perm.refl _) hP hD hS hA (fun r_1 zs_3 H locs hw_2 hP hD hS => ?_)
  obtain ⟨hIx, hw_2_0⟩ := hw_2
  refine lv_pop hx hb dL_law_346 rfl ?_
  refine lv_aload_n hx hb dL_law_347 rfl (lv_at hl 1 rfl) ?_
  refine lv_aload_n hx hb dL_law_348 rfl (lv_at hl 3 rfl) ?_
  refine lv_iload_n hx hb dL_law_349 rfl (lv_at hl 0 rfl) ?_
  refine lv_iconst (v := 1) hx hb dL_law_350 (by decide) ?_
  refine lv_iadd hx hb dL_law_351 ?_
  refine va_sld hx hb hX hbl hbA hS (sc_in (by omega) t_1 (by omega) (by omega) (by omega)) dL_law_352 ?_
  refine aftU_i (runMG (rest := []) (As := [.int (xs (i + 1).toNatClampNeg)]) hx hb hml hown htb (U_X9_read l D E qm (xs (i + 1).toNatClampNeg) _ zm hIm) ok_X9_read k_1201 k_1202 k_1203 k_9 k_1204 ⟨(Nat.le_of_ble_eq_true rfl), (Nat.le_of_ble_eq_true rfl)⟩ ⟨(show (123 + 5 * k) + 0 + 0 ≤ 600000 by omega), (show (44666 + 1604 * k) + 0 + 0 ≤ 7302250 by omega)⟩ hl.1 (Nat.le_of_ble_eq_true rfl) rfl rfl dL_law_353 (pmU List.perm_append_comm hP hD hK (rP hP) rfl rfl 0 rfl)) List.perm_append_comm hP hD hS hA (fun r_4 zs_6 H locs hw_5 hP hD hS => ?_)
  have hP := sw_P hP; have hD := sw_D hD
  obtain ⟨hIm, hw_5_0⟩ := hw_5
  refine lv_pop hx hb dL_law_356 rfl ?_
  refine lv_goto (tgt := 1550) hx hb dL_law_357 (by decide) ?_
  refine W.widen (k := (123 + 5 * k) + 5) (n := (44666 + 1604 * k) + 1604) (by omega) (by omega) ?_
  exact next zs_3 zs_6 _ _ _ ⟨hIx, hIm, (TR_kp hTR (KP_X8_read hw_2_0) (KP_X9_read hw_5_0) (KQ_X9_read hw_5_0)), ⟨(TR2_k hT2.1 (K2_X8_read hw_2_0) (K2_X9_read hw_5_0)), (TT_k hT2.2.1 (K3_X8_read hw_2_0) (K3_X9_read hw_5_0)), (TU_k hT2.2.2 (K4_X8_read hw_2_0) (K4_X9_read hw_5_0))⟩, (TV_k hTV (K5_X8_read hw_2_0) (K5_X9_read hw_5_0))⟩ hP hD hS (lv_sub hl [0, 1, 2, 3] rfl)
set_option maxHeartbeats 4000000 in
set_option maxRecDepth 100000 in
theorem law_6 {p : Program} {l : Launch} {e : Env} {s : State} {m : MethodId} {below : List Frame} {meth : Method} {c : Code} {D : va_G} {E : Nat → Nat} {b L : Nat} {xs : Nat → Int32} (hx : p.tables.exec = Jvm.exec) (hb : c.code = code) (hr : meth.sig.returnType = ret) (hml : c.maxLocals = 4) (hown : s.vm.findClass R_law = some m.cls) (htb : ∀ w ∈ tb, w.before #[Value.ref b] s = true) (hK : KX D E s) (hG : SGs [((E 6), (E 8), 60, tw6), ((E 7), (E 9), 35, tw7)] (fun q : Nat => s.heap.size ≤ q) s s.heap) (hX : va_X b L xs s s.heap) (hL : L ≤ 3072) (hbl : b < s.heap.size) (hlocks : meth.locks = false) {qx qm k : Nat} {i : Int32} (hk : k ≤ 512) (hi : i.toInt = 6 * (k : Int)) (hiL : i.toInt + 6 ≤ (L : Int)) {zx : XS} {zm : MS} {H : Heap} {locs : List Loc} {ls : Array Slot} (hI : LI zx zm) (hP : va_P D vwCl (XW E qx zx ++ MW E qm zm) H) (hD : va_D (fun q : Nat => s.heap.size ≤ q) (XW E qx zx ++ MW E qm zm)) (hS : va_S (fun q : Nat => s.heap.size ≤ q) s.heap H locs) (hl : lv_has ls 4 [(3, .int i), (2, .ref qm), (1, .ref qx), (0, .ref b)]) (next : ∀ (zx : XS) (zm : MS) (H : Heap) (locs : List Loc) (ls : Array Slot), LI zx zm → va_P D vwCl (XW E qx zx ++ MW E qm zm) H → va_D (fun q : Nat => s.heap.size ≤ q) (XW E qx zx ++ MW E qm zm) → va_S (fun q : Nat => s.heap.size ≤ q) s.heap H locs → lv_has ls 4 [(3, .int i), (2, .ref qm), (1, .ref qx), (0, .ref b)] → W p l e room_1 s m #[Value.ref b] below meth c H locs ((123 + 5 * k) + 5) ((44666 + 1604 * k) + 1604) (lw_Z below #[Value.ref b] s) (F0 m 1550 ls [])) : W p l e room_1 s m #[Value.ref b] below meth c H locs (123 + 5 * k) (44666 + 1604 * k) (lw_Z below #[Value.ref b] s) (F0 m 360 ls []) := by
  have hA : ∀ q : Nat, s.heap.size ≤ q → (fun q : Nat => s.heap.size ≤ q) q := fun _ h => h
  have hbA : ¬ (fun q : Nat => s.heap.size ≤ q) b := Nat.not_le.mpr hbl
  obtain ⟨hIx, hIm, hTR, hT2, hTV⟩ := hI
  have hI0 := hIx; have hM0 := hIm
  refine lv_aload_n hx hb dL_law_360 rfl (lv_at hl 2 rfl) ?_
  refine lv_aload_n hx hb dL_law_361 rfl (lv_at hl 3 rfl) ?_
  refine lv_iload_n hx hb dL_law_362 rfl (lv_at hl 0 rfl) ?_
  refine lv_iconst (v := 1) hx hb dL_law_363 (by decide) ?_
  refine lv_iadd hx hb dL_law_364 ?_
  refine va_sld hx hb hX hbl hbA hS (sc_in (by omega) t_1 (by omega) (by omega) (by omega)) dL_law_365 ?_
  refine lv_aload_n hx hb dL_law_366 rfl (lv_at hl 3 rfl) ?_
  refine lv_iload_n hx hb dL_law_367 rfl (lv_at hl 0 rfl) ?_
  refine lv_iconst (v := 2) hx hb dL_law_368 (by decide) ?_
  refine lv_iadd hx hb dL_law_369 ?_
  refine va_sld hx hb hX hbl hbA hS (sc_in (by omega) t_2 (by omega) (by omega) (by omega)) dL_law_370 ?_
  refine lv_aload_n hx hb dL_law_371 rfl (lv_at hl 3 rfl) ?_
  refine lv_iload_n hx hb dL_law_372 rfl (lv_at hl 0 rfl) ?_
  refine lv_iconst (v := 3) hx hb dL_law_373 (by decide) ?_
  refine lv_iadd hx hb dL_law_374 ?_
  refine va_sld hx hb hX hbl hbA hS (sc_in (by omega) t_3 (by omega) (by omega) (by omega)) dL_law_375 ?_
  refine lv_aload_n hx hb dL_law_376 rfl (lv_at hl 3 rfl) ?_
  refine lv_iload_n hx hb dL_law_377 rfl (lv_at hl 0 rfl) ?_
  refine lv_iconst (v := 4) hx hb dL_law_378 (by decide) ?_
  refine lv_iadd hx hb dL_law_379 ?_
  refine va_sld hx hb hX hbl hbA hS (sc_in (by omega) t_4 (by omega) (by omega) (by omega)) dL_law_380 ?_
  refine aftU_i (runMG (rest := []) (As := [.int (xs (i + 1).toNatClampNeg), .int (xs (i + 2).toNatClampNeg), .int (xs (i + 3).toNatClampNeg), .int (xs (i + 4).toNatClampNeg)]) hx hb hml hown htb (U_X8_compare l D E qx (xs (i + 1).toNatClampNeg) (xs (i + 2).toNatClampNeg) (xs (i + 3).toNatClampNeg) (xs (i + 4).toNatClampNeg) _ zx hIx) ok_X8_compare k_387 k_388 k_389 k_1 k_390 ⟨(Nat.le_of_ble_eq_true rfl), (Nat.le_of_ble_eq_true rfl)⟩ ⟨(show (123 + 5 * k) + 0 ≤ 600000 by omega), (show (44666 + 1604 * k) + 0 ≤ 7302250 by omega)⟩ hl.1 (Nat.le_of_ble_eq_true rfl) rfl rfl dL_law_381 (pmU (List.Perm.refl _) hP hD hK (XW_c (lP hP)) rfl rfl 0 rfl)) (List.Perm.refl _) hP hD hS hA (fun r_1 zs_3 H locs hw_2 hP hD hS => ?_)
  obtain ⟨hIx, hw_2_0⟩ := hw_2
  refine lv_pop hx hb dL_law_384 rfl ?_
  refine lv_aload_n hx hb dL_law_385 rfl (lv_at hl 1 rfl) ?_
  refine lv_aload_n hx hb dL_law_386 rfl (lv_at hl 3 rfl) ?_
  refine lv_iload_n hx hb dL_law_387 rfl (lv_at hl 0 rfl) ?_
  refine lv_iconst (v := 1) hx hb dL_law_388 (by decide) ?_
  refine lv_iadd hx hb dL_law_389 ?_
  refine va_sld hx hb hX hbl hbA hS (sc_in (by omega) t_1 (by omega) (by omega) (by omega)) dL_law_390 ?_
  refine lv_aload_n hx hb dL_law_391 rfl (lv_at hl 3 rfl) ?_
  refine lv_iload_n hx hb dL_law_392 rfl (lv_at hl 0 rfl) ?_
  refine lv_iconst (v := 2) hx hb dL_law_393 (by decide) ?_
  refine lv_iadd hx hb dL_law_394 ?_
  refine va_sld hx hb hX hbl hbA hS (sc_in (by omega) t_2 (by omega) (by omega) (by omega)) dL_law_395 ?_
  refine lv_aload_n hx hb dL_law_396 rfl (lv_at hl 3 rfl) ?_
  refine lv_iload_n hx hb dL_law_397 rfl (lv_at hl 0 rfl) ?_
  refine lv_iconst (v := 3) hx hb dL_law_398 (by decide) ?_
  refine lv_iadd hx hb dL_law_399 ?_
  refine va_sld hx hb hX hbl hbA hS (sc_in (by omega) t_3 (by omega) (by omega) (by omega)) dL_law_400 ?_
  refine lv_aload_n hx hb dL_law_401 rfl (lv_at hl 3 rfl) ?_
  refine lv_iload_n hx hb dL_law_402 rfl (lv_at hl 0 rfl) ?_
  refine lv_iconst (v := 4) hx hb dL_law_403 (by decide) ?_
  refine lv_iadd hx hb dL_law_404 ?_
  refine va_sld hx hb hX hbl hbA hS (sc_in (by omega) t_4 (by omega) (by omega) (by omega)) dL_law_405 ?_
  refine aftU_i (runMG (rest := []) (As := [.int (xs (i + 1).toNatClampNeg), .int (xs (i + 2).toNatClampNeg), .int (xs (i + 3).toNatClampNeg), .int (xs (i + 4).toNatClampNeg)]) hx hb hml hown htb (U_X9_compare l D E qm (xs (i + 1).toNatClampNeg) (xs (i + 2).toNatClampNeg) (xs (i + 3).toNatClampNeg) (xs (i + 4).toNatClampNeg) _ zm hIm) ok_X9_compare k_1206 k_1207 k_1208 k_9 k_1209 ⟨(Nat.le_of_ble_eq_true rfl), (Nat.le_of_ble_eq_true rfl)⟩ ⟨(show (123 + 5 * k) + 0 + 0 ≤ 600000 by omega), (show (44666 + 1604 * k) + 0 + 0 ≤ 7302250 by omega)⟩ hl.1 (Nat.le_of_ble_eq_true rfl) rfl rfl dL_law_406 (pmU List.perm_append_comm hP hD hK (rP hP) rfl rfl 0 rfl)) List.perm_append_comm hP hD hS hA (fun r_4 zs_6 H locs hw_5 hP hD hS => ?_)
  have hP := sw_P hP; have hD := sw_D hD
  obtain ⟨hIm, hw_5_0⟩ := hw_5
  refine lv_pop hx hb dL_law_409 rfl ?_
  refine lv_goto (tgt := 1550) hx hb dL_law_410 (by decide) ?_
  refine W.widen (k := (123 + 5 * k) + 5) (n := (44666 + 1604 * k) + 1604) (by omega) (by omega) ?_
  exact next zs_3 zs_6 _ _ _ ⟨hIx, hIm, (ST_compare hI0 hTR hw_2_0 hw_5_0), ⟨(TR2_k hT2.1 (K2_X8_compare hw_2_0) (K2_X9_compare hw_5_0)), (TT_k hT2.2.1 (K3_X8_compare hw_2_0) (K3_X9_compare hw_5_0)), (TU_k hT2.2.2 (K4_X8_compare hw_2_0) (K4_X9_compare hw_5_0))⟩, (TV_k hTV (K5_X8_compare hw_2_0) (K5_X9_compare hw_5_0))⟩ hP hD hS (lv_sub hl [0, 1, 2, 3] rfl)
set_option maxHeartbeats 4000000 in
set_option maxRecDepth 100000 in
theorem law_7 {p : Program} {l : Launch} {e : Env} {s : State} {m : MethodId} {below : List Frame} {meth : Method} {c : Code} {D : va_G} {E : Nat → Nat} {b L : Nat} {xs : Nat → Int32} (hx : p.tables.exec = Jvm.exec) (hb : c.code = code) (hr : meth.sig.returnType = ret) (hml : c.maxLocals = 4) (hown : s.vm.findClass R_law = some m.cls) (htb : ∀ w ∈ tb, w.before #[Value.ref b] s = true) (hK : KX D E s) (hG : SGs [((E 6), (E 8), 60, tw6), ((E 7), (E 9), 35, tw7)] (fun q : Nat => s.heap.size ≤ q) s s.heap) (hX : va_X b L xs s s.heap) (hL : L ≤ 3072) (hbl : b < s.heap.size) (hlocks : meth.locks = false) {qx qm k : Nat} {i : Int32} (hk : k ≤ 512) (hi : i.toInt = 6 * (k : Int)) (hiL : i.toInt + 6 ≤ (L : Int)) {zx : XS} {zm : MS} {H : Heap} {locs : List Loc} {ls : Array Slot} (hI : LI zx zm) (hP : va_P D vwCl (XW E qx zx ++ MW E qm zm) H) (hD : va_D (fun q : Nat => s.heap.size ≤ q) (XW E qx zx ++ MW E qm zm)) (hS : va_S (fun q : Nat => s.heap.size ≤ q) s.heap H locs) (hl : lv_has ls 4 [(3, .int i), (2, .ref qm), (1, .ref qx), (0, .ref b)]) (next : ∀ (zx : XS) (zm : MS) (H : Heap) (locs : List Loc) (ls : Array Slot), LI zx zm → va_P D vwCl (XW E qx zx ++ MW E qm zm) H → va_D (fun q : Nat => s.heap.size ≤ q) (XW E qx zx ++ MW E qm zm) → va_S (fun q : Nat => s.heap.size ≤ q) s.heap H locs → lv_has ls 4 [(3, .int i), (2, .ref qm), (1, .ref qx), (0, .ref b)] → W p l e room_1 s m #[Value.ref b] below meth c H locs ((123 + 5 * k) + 5) ((44666 + 1604 * k) + 1604) (lw_Z below #[Value.ref b] s) (F0 m 1550 ls [])) : W p l e room_1 s m #[Value.ref b] below meth c H locs (123 + 5 * k) (44666 + 1604 * k) (lw_Z below #[Value.ref b] s) (F0 m 413 ls []) := by
  have hA : ∀ q : Nat, s.heap.size ≤ q → (fun q : Nat => s.heap.size ≤ q) q := fun _ h => h
  have hbA : ¬ (fun q : Nat => s.heap.size ≤ q) b := Nat.not_le.mpr hbl
  obtain ⟨hIx, hIm, hTR, hT2, hTV⟩ := hI
  have hI0 := hIx; have hM0 := hIm
  refine lv_aload_n hx hb dL_law_413 rfl (lv_at hl 2 rfl) ?_
  refine lv_aload_n hx hb dL_law_414 rfl (lv_at hl 3 rfl) ?_
  refine lv_iload_n hx hb dL_law_415 rfl (lv_at hl 0 rfl) ?_
  refine lv_iconst (v := 1) hx hb dL_law_416 (by decide) ?_
  refine lv_iadd hx hb dL_law_417 ?_
  refine va_sld hx hb hX hbl hbA hS (sc_in (by omega) t_1 (by omega) (by omega) (by omega)) dL_law_418 ?_
  refine lv_aload_n hx hb dL_law_419 rfl (lv_at hl 3 rfl) ?_
  refine lv_iload_n hx hb dL_law_420 rfl (lv_at hl 0 rfl) ?_
  refine lv_iconst (v := 2) hx hb dL_law_421 (by decide) ?_
  refine lv_iadd hx hb dL_law_422 ?_
  refine va_sld hx hb hX hbl hbA hS (sc_in (by omega) t_2 (by omega) (by omega) (by omega)) dL_law_423 ?_
  refine lv_aload_n hx hb dL_law_424 rfl (lv_at hl 3 rfl) ?_
  refine lv_iload_n hx hb dL_law_425 rfl (lv_at hl 0 rfl) ?_
  refine lv_iconst (v := 3) hx hb dL_law_426 (by decide) ?_
  refine lv_iadd hx hb dL_law_427 ?_
  refine va_sld hx hb hX hbl hbA hS (sc_in (by omega) t_3 (by omega) (by omega) (by omega)) dL_law_428 ?_
  refine aftU_i (runMG (rest := []) (As := [.int (xs (i + 1).toNatClampNeg), .int (xs (i + 2).toNatClampNeg), .int (xs (i + 3).toNatClampNeg)]) hx hb hml hown htb (U_X8_error l D E qx (xs (i + 1).toNatClampNeg) (xs (i + 2).toNatClampNeg) (xs (i + 3).toNatClampNeg) _ zx hIx) ok_X8_error k_408 k_409 k_410 k_1 k_411 ⟨(Nat.le_of_ble_eq_true rfl), (Nat.le_of_ble_eq_true rfl)⟩ ⟨(show (123 + 5 * k) + 0 ≤ 600000 by omega), (show (44666 + 1604 * k) + 0 ≤ 7302250 by omega)⟩ hl.1 (Nat.le_of_ble_eq_true rfl) rfl rfl dL_law_429 (pmU (List.Perm.refl _) hP hD hK (XW_c (lP hP)) rfl rfl 0 rfl)) (List.Perm.refl _) hP hD hS hA (fun r_1 zs_3 H locs hw_2 hP hD hS => ?_)
  obtain ⟨hIx, hw_2_0⟩ := hw_2
  refine lv_pop hx hb dL_law_432 rfl ?_
  refine lv_aload_n hx hb dL_law_433 rfl (lv_at hl 1 rfl) ?_
  refine lv_aload_n hx hb dL_law_434 rfl (lv_at hl 3 rfl) ?_
  refine lv_iload_n hx hb dL_law_435 rfl (lv_at hl 0 rfl) ?_
  refine lv_iconst (v := 1) hx hb dL_law_436 (by decide) ?_
  refine lv_iadd hx hb dL_law_437 ?_
  refine va_sld hx hb hX hbl hbA hS (sc_in (by omega) t_1 (by omega) (by omega) (by omega)) dL_law_438 ?_
  refine lv_aload_n hx hb dL_law_439 rfl (lv_at hl 3 rfl) ?_
  refine lv_iload_n hx hb dL_law_440 rfl (lv_at hl 0 rfl) ?_
  refine lv_iconst (v := 2) hx hb dL_law_441 (by decide) ?_
  refine lv_iadd hx hb dL_law_442 ?_
  refine va_sld hx hb hX hbl hbA hS (sc_in (by omega) t_2 (by omega) (by omega) (by omega)) dL_law_443 ?_
  refine lv_aload_n hx hb dL_law_444 rfl (lv_at hl 3 rfl) ?_
  refine lv_iload_n hx hb dL_law_445 rfl (lv_at hl 0 rfl) ?_
  refine lv_iconst (v := 3) hx hb dL_law_446 (by decide) ?_
  refine lv_iadd hx hb dL_law_447 ?_
  refine va_sld hx hb hX hbl hbA hS (sc_in (by omega) t_3 (by omega) (by omega) (by omega)) dL_law_448 ?_
  refine aftU_i (runMG (rest := []) (As := [.int (xs (i + 1).toNatClampNeg), .int (xs (i + 2).toNatClampNeg), .int (xs (i + 3).toNatClampNeg)]) hx hb hml hown htb (U_X9_error l D E qm (xs (i + 1).toNatClampNeg) (xs (i + 2).toNatClampNeg) (xs (i + 3).toNatClampNeg) _ zm hIm) ok_X9_error k_1216 k_1217 k_1218 k_9 k_1219 ⟨(Nat.le_of_ble_eq_true rfl), (Nat.le_of_ble_eq_true rfl)⟩ ⟨(show (123 + 5 * k) + 0 + 0 ≤ 600000 by omega), (show (44666 + 1604 * k) + 0 + 0 ≤ 7302250 by omega)⟩ hl.1 (Nat.le_of_ble_eq_true rfl) rfl rfl dL_law_449 (pmU List.perm_append_comm hP hD hK (rP hP) rfl rfl 0 rfl)) List.perm_append_comm hP hD hS hA (fun r_4 zs_6 H locs hw_5 hP hD hS => ?_)
  have hP := sw_P hP; have hD := sw_D hD
  obtain ⟨hIm, hw_5_0⟩ := hw_5
  refine lv_pop hx hb dL_law_452 rfl ?_
  refine lv_goto (tgt := 1550) hx hb dL_law_453 (by decide) ?_
  refine W.widen (k := (123 + 5 * k) + 5) (n := (44666 + 1604 * k) + 1604) (by omega) (by omega) ?_
  exact next zs_3 zs_6 _ _ _ ⟨hIx, hIm, (TR_kp hTR (KP_X8_error hw_2_0) (KP_X9_error hw_5_0) (KQ_X9_error hw_5_0)), ⟨(TR2_k hT2.1 (K2_X8_error hw_2_0) (K2_X9_error hw_5_0)), (TT_k hT2.2.1 (K3_X8_error hw_2_0) (K3_X9_error hw_5_0)), (TU_k hT2.2.2 (K4_X8_error hw_2_0) (K4_X9_error hw_5_0))⟩, (TV_k hTV (K5_X8_error hw_2_0) (K5_X9_error hw_5_0))⟩ hP hD hS (lv_sub hl [0, 1, 2, 3] rfl)
set_option maxHeartbeats 4000000 in
set_option maxRecDepth 100000 in
theorem law_8 {p : Program} {l : Launch} {e : Env} {s : State} {m : MethodId} {below : List Frame} {meth : Method} {c : Code} {D : va_G} {E : Nat → Nat} {b L : Nat} {xs : Nat → Int32} (hx : p.tables.exec = Jvm.exec) (hb : c.code = code) (hr : meth.sig.returnType = ret) (hml : c.maxLocals = 4) (hown : s.vm.findClass R_law = some m.cls) (htb : ∀ w ∈ tb, w.before #[Value.ref b] s = true) (hK : KX D E s) (hG : SGs [((E 6), (E 8), 60, tw6), ((E 7), (E 9), 35, tw7)] (fun q : Nat => s.heap.size ≤ q) s s.heap) (hX : va_X b L xs s s.heap) (hL : L ≤ 3072) (hbl : b < s.heap.size) (hlocks : meth.locks = false) {qx qm k : Nat} {i : Int32} (hk : k ≤ 512) (hi : i.toInt = 6 * (k : Int)) (hiL : i.toInt + 6 ≤ (L : Int)) {zx : XS} {zm : MS} {H : Heap} {locs : List Loc} {ls : Array Slot} (hI : LI zx zm) (hP : va_P D vwCl (XW E qx zx ++ MW E qm zm) H) (hD : va_D (fun q : Nat => s.heap.size ≤ q) (XW E qx zx ++ MW E qm zm)) (hS : va_S (fun q : Nat => s.heap.size ≤ q) s.heap H locs) (hl : lv_has ls 4 [(3, .int i), (2, .ref qm), (1, .ref qx), (0, .ref b)]) (next : ∀ (zx : XS) (zm : MS) (H : Heap) (locs : List Loc) (ls : Array Slot), LI zx zm → va_P D vwCl (XW E qx zx ++ MW E qm zm) H → va_D (fun q : Nat => s.heap.size ≤ q) (XW E qx zx ++ MW E qm zm) → va_S (fun q : Nat => s.heap.size ≤ q) s.heap H locs → lv_has ls 4 [(3, .int i), (2, .ref qm), (1, .ref qx), (0, .ref b)] → W p l e room_1 s m #[Value.ref b] below meth c H locs ((123 + 5 * k) + 5) ((44666 + 1604 * k) + 1604) (lw_Z below #[Value.ref b] s) (F0 m 1550 ls [])) : W p l e room_1 s m #[Value.ref b] below meth c H locs (123 + 5 * k) (44666 + 1604 * k) (lw_Z below #[Value.ref b] s) (F0 m 456 ls []) := by
  have hA : ∀ q : Nat, s.heap.size ≤ q → (fun q : Nat => s.heap.size ≤ q) q := fun _ h => h
  have hbA : ¬ (fun q : Nat => s.heap.size ≤ q) b := Nat.not_le.mpr hbl
  obtain ⟨hIx, hIm, hTR, hT2, hTV⟩ := hI
  have hI0 := hIx; have hM0 := hIm
  refine lv_aload_n hx hb dL_law_456 rfl (lv_at hl 2 rfl) ?_
  refine lv_aload_n hx hb dL_law_457 rfl (lv_at hl 3 rfl) ?_
  refine lv_iload_n hx hb dL_law_458 rfl (lv_at hl 0 rfl) ?_
  refine lv_iconst (v := 1) hx hb dL_law_459 (by decide) ?_
  refine lv_iadd hx hb dL_law_460 ?_
  refine va_sld hx hb hX hbl hbA hS (sc_in (by omega) t_1 (by omega) (by omega) (by omega)) dL_law_461 ?_
  refine lv_aload_n hx hb dL_law_462 rfl (lv_at hl 3 rfl) ?_
  refine lv_iload_n hx hb dL_law_463 rfl (lv_at hl 0 rfl) ?_
  refine lv_iconst (v := 2) hx hb dL_law_464 (by decide) ?_
  refine lv_iadd hx hb dL_law_465 ?_
  refine va_sld hx hb hX hbl hbA hS (sc_in (by omega) t_2 (by omega) (by omega) (by omega)) dL_law_466 ?_
  refine lv_aload_n hx hb dL_law_467 rfl (lv_at hl 3 rfl) ?_
  refine lv_iload_n hx hb dL_law_468 rfl (lv_at hl 0 rfl) ?_
  refine lv_iconst (v := 3) hx hb dL_law_469 (by decide) ?_
  refine lv_iadd hx hb dL_law_470 ?_
  refine va_sld hx hb hX hbl hbA hS (sc_in (by omega) t_3 (by omega) (by omega) (by omega)) dL_law_471 ?_
  refine aftU_i (runMG (rest := []) (As := [.int (xs (i + 1).toNatClampNeg), .int (xs (i + 2).toNatClampNeg), .int (xs (i + 3).toNatClampNeg)]) hx hb hml hown htb (U_X8_rate l D E qx (xs (i + 1).toNatClampNeg) (xs (i + 2).toNatClampNeg) (xs (i + 3).toNatClampNeg) _ zx hIx) ok_X8_rate k_425 k_426 k_427 k_1 k_428 ⟨(Nat.le_of_ble_eq_true rfl), (Nat.le_of_ble_eq_true rfl)⟩ ⟨(show (123 + 5 * k) + 0 ≤ 600000 by omega), (show (44666 + 1604 * k) + 0 ≤ 7302250 by omega)⟩ hl.1 (Nat.le_of_ble_eq_true rfl) rfl rfl dL_law_472 (pmU (List.Perm.refl _) hP hD hK (XW_c (lP hP)) rfl rfl 0 rfl)) (List.Perm.refl _) hP hD hS hA (fun r_1 zs_3 H locs hw_2 hP hD hS => ?_)
  obtain ⟨hIx, hw_2_0⟩ := hw_2
  refine lv_pop hx hb dL_law_475 rfl ?_
  refine lv_aload_n hx hb dL_law_476 rfl (lv_at hl 1 rfl) ?_
  refine lv_aload_n hx hb dL_law_477 rfl (lv_at hl 3 rfl) ?_
  refine lv_iload_n hx hb dL_law_478 rfl (lv_at hl 0 rfl) ?_
  refine lv_iconst (v := 1) hx hb dL_law_479 (by decide) ?_
  refine lv_iadd hx hb dL_law_480 ?_
  refine va_sld hx hb hX hbl hbA hS (sc_in (by omega) t_1 (by omega) (by omega) (by omega)) dL_law_481 ?_
  refine lv_aload_n hx hb dL_law_482 rfl (lv_at hl 3 rfl) ?_
  refine lv_iload_n hx hb dL_law_483 rfl (lv_at hl 0 rfl) ?_
  refine lv_iconst (v := 2) hx hb dL_law_484 (by decide) ?_
  refine lv_iadd hx hb dL_law_485 ?_
  refine va_sld hx hb hX hbl hbA hS (sc_in (by omega) t_2 (by omega) (by omega) (by omega)) dL_law_486 ?_
  refine lv_aload_n hx hb dL_law_487 rfl (lv_at hl 3 rfl) ?_
  refine lv_iload_n hx hb dL_law_488 rfl (lv_at hl 0 rfl) ?_
  refine lv_iconst (v := 3) hx hb dL_law_489 (by decide) ?_
  refine lv_iadd hx hb dL_law_490 ?_
  refine va_sld hx hb hX hbl hbA hS (sc_in (by omega) t_3 (by omega) (by omega) (by omega)) dL_law_491 ?_
  refine aftU_i (runMG (rest := []) (As := [.int (xs (i + 1).toNatClampNeg), .int (xs (i + 2).toNatClampNeg), .int (xs (i + 3).toNatClampNeg)]) hx hb hml hown htb (U_X9_rate l D E qm (xs (i + 1).toNatClampNeg) (xs (i + 2).toNatClampNeg) (xs (i + 3).toNatClampNeg) _ zm hIm) ok_X9_rate k_1227 k_1228 k_1229 k_9 k_1230 ⟨(Nat.le_of_ble_eq_true rfl), (Nat.le_of_ble_eq_true rfl)⟩ ⟨(show (123 + 5 * k) + 0 + 0 ≤ 600000 by omega), (show (44666 + 1604 * k) + 0 + 0 ≤ 7302250 by omega)⟩ hl.1 (Nat.le_of_ble_eq_true rfl) rfl rfl dL_law_492 (pmU List.perm_append_comm hP hD hK (rP hP) rfl rfl 0 rfl)) List.perm_append_comm hP hD hS hA (fun r_4 zs_6 H locs hw_5 hP hD hS => ?_)
  have hP := sw_P hP; have hD := sw_D hD
  obtain ⟨hIm, hw_5_0⟩ := hw_5
  refine lv_pop hx hb dL_law_495 rfl ?_
  refine lv_goto (tgt := 1550) hx hb dL_law_496 (by decide) ?_
  refine W.widen (k := (123 + 5 * k) + 5) (n := (44666 + 1604 * k) + 1604) (by omega) (by omega) ?_
  exact next zs_3 zs_6 _ _ _ ⟨hIx, hIm, (TR_kp hTR (KP_X8_rate hw_2_0) (KP_X9_rate hw_5_0) (KQ_X9_rate hw_5_0)), ⟨(TR2_k hT2.1 (K2_X8_rate hw_2_0) (K2_X9_rate hw_5_0)), (TT_k hT2.2.1 (K3_X8_rate hw_2_0) (K3_X9_rate hw_5_0)), (TU_k hT2.2.2 (K4_X8_rate hw_2_0) (K4_X9_rate hw_5_0))⟩, (TV_k hTV (K5_X8_rate hw_2_0) (K5_X9_rate hw_5_0))⟩ hP hD hS (lv_sub hl [0, 1, 2, 3] rfl)
set_option maxHeartbeats 4000000 in
set_option maxRecDepth 100000 in
theorem law_9 {p : Program} {l : Launch} {e : Env} {s : State} {m : MethodId} {below : List Frame} {meth : Method} {c : Code} {D : va_G} {E : Nat → Nat} {b L : Nat} {xs : Nat → Int32} (hx : p.tables.exec = Jvm.exec) (hb : c.code = code) (hr : meth.sig.returnType = ret) (hml : c.maxLocals = 4) (hown : s.vm.findClass R_law = some m.cls) (htb : ∀ w ∈ tb, w.before #[Value.ref b] s = true) (hK : KX D E s) (hG : SGs [((E 6), (E 8), 60, tw6), ((E 7), (E 9), 35, tw7)] (fun q : Nat => s.heap.size ≤ q) s s.heap) (hX : va_X b L xs s s.heap) (hL : L ≤ 3072) (hbl : b < s.heap.size) (hlocks : meth.locks = false) {qx qm k : Nat} {i : Int32} (hk : k ≤ 512) (hi : i.toInt = 6 * (k : Int)) (hiL : i.toInt + 6 ≤ (L : Int)) {zx : XS} {zm : MS} {H : Heap} {locs : List Loc} {ls : Array Slot} (hI : LI zx zm) (hP : va_P D vwCl (XW E qx zx ++ MW E qm zm) H) (hD : va_D (fun q : Nat => s.heap.size ≤ q) (XW E qx zx ++ MW E qm zm)) (hS : va_S (fun q : Nat => s.heap.size ≤ q) s.heap H locs) (hl : lv_has ls 4 [(3, .int i), (2, .ref qm), (1, .ref qx), (0, .ref b)]) (next : ∀ (zx : XS) (zm : MS) (H : Heap) (locs : List Loc) (ls : Array Slot), LI zx zm → va_P D vwCl (XW E qx zx ++ MW E qm zm) H → va_D (fun q : Nat => s.heap.size ≤ q) (XW E qx zx ++ MW E qm zm) → va_S (fun q : Nat => s.heap.size ≤ q) s.heap H locs → lv_has ls 4 [(3, .int i), (2, .ref qm), (1, .ref qx), (0, .ref b)] → W p l e room_1 s m #[Value.ref b] below meth c H locs ((123 + 5 * k) + 5) ((44666 + 1604 * k) + 1604) (lw_Z below #[Value.ref b] s) (F0 m 1550 ls [])) : W p l e room_1 s m #[Value.ref b] below meth c H locs (123 + 5 * k) (44666 + 1604 * k) (lw_Z below #[Value.ref b] s) (F0 m 499 ls []) := by
  have hA : ∀ q : Nat, s.heap.size ≤ q → (fun q : Nat => s.heap.size ≤ q) q := fun _ h => h
  have hbA : ¬ (fun q : Nat => s.heap.size ≤ q) b := Nat.not_le.mpr hbl
  obtain ⟨hIx, hIm, hTR, hT2, hTV⟩ := hI
  have hI0 := hIx; have hM0 := hIm
  refine lv_aload_n hx hb dL_law_499 rfl (lv_at hl 2 rfl) ?_
  refine lv_aload_n hx hb dL_law_500 rfl (lv_at hl 3 rfl) ?_
  refine lv_iload_n hx hb dL_law_501 rfl (lv_at hl 0 rfl) ?_
  refine lv_iconst (v := 1) hx hb dL_law_502 (by decide) ?_
  refine lv_iadd hx hb dL_law_503 ?_
  refine va_sld hx hb hX hbl hbA hS (sc_in (by omega) t_1 (by omega) (by omega) (by omega)) dL_law_504 ?_
  refine lv_aload_n hx hb dL_law_505 rfl (lv_at hl 3 rfl) ?_
  refine lv_iload_n hx hb dL_law_506 rfl (lv_at hl 0 rfl) ?_
  refine lv_iconst (v := 2) hx hb dL_law_507 (by decide) ?_
  refine lv_iadd hx hb dL_law_508 ?_
  refine va_sld hx hb hX hbl hbA hS (sc_in (by omega) t_2 (by omega) (by omega) (by omega)) dL_law_509 ?_
  refine aftU_i (runMG (rest := []) (As := [.int (xs (i + 1).toNatClampNeg), .int (xs (i + 2).toNatClampNeg)]) hx hb hml hown htb (U_X8_repair l D E qx (xs (i + 1).toNatClampNeg) (xs (i + 2).toNatClampNeg) _ zx hIx) ok_X8_repair k_443 k_444 k_445 k_1 k_446 ⟨(Nat.le_of_ble_eq_true rfl), (Nat.le_of_ble_eq_true rfl)⟩ ⟨(show (123 + 5 * k) + 0 ≤ 600000 by omega), (show (44666 + 1604 * k) + 0 ≤ 7302250 by omega)⟩ hl.1 (Nat.le_of_ble_eq_true rfl) rfl rfl dL_law_510 (pmU (List.Perm.refl _) hP hD hK (XW_c (lP hP)) rfl rfl 0 rfl)) (List.Perm.refl _) hP hD hS hA (fun r_1 zs_3 H locs hw_2 hP hD hS => ?_)
  obtain ⟨hIx, hw_2_0⟩ := hw_2
  refine lv_pop hx hb dL_law_513 rfl ?_
  refine lv_aload_n hx hb dL_law_514 rfl (lv_at hl 1 rfl) ?_
  refine lv_aload_n hx hb dL_law_515 rfl (lv_at hl 3 rfl) ?_
  refine lv_iload_n hx hb dL_law_516 rfl (lv_at hl 0 rfl) ?_
  refine lv_iconst (v := 1) hx hb dL_law_517 (by decide) ?_
  refine lv_iadd hx hb dL_law_518 ?_
  refine va_sld hx hb hX hbl hbA hS (sc_in (by omega) t_1 (by omega) (by omega) (by omega)) dL_law_519 ?_
  refine lv_aload_n hx hb dL_law_520 rfl (lv_at hl 3 rfl) ?_
  refine lv_iload_n hx hb dL_law_521 rfl (lv_at hl 0 rfl) ?_
  refine lv_iconst (v := 2) hx hb dL_law_522 (by decide) ?_
  refine lv_iadd hx hb dL_law_523 ?_
  refine va_sld hx hb hX hbl hbA hS (sc_in (by omega) t_2 (by omega) (by omega) (by omega)) dL_law_524 ?_
  refine aftU_i (runMG (rest := []) (As := [.int (xs (i + 1).toNatClampNeg), .int (xs (i + 2).toNatClampNeg)]) hx hb hml hown htb (U_X9_repair l D E qm (xs (i + 1).toNatClampNeg) (xs (i + 2).toNatClampNeg) _ zm hIm) ok_X9_repair k_1238 k_1239 k_1240 k_9 k_1241 ⟨(Nat.le_of_ble_eq_true rfl), (Nat.le_of_ble_eq_true rfl)⟩ ⟨(show (123 + 5 * k) + 0 + 0 ≤ 600000 by omega), (show (44666 + 1604 * k) + 0 + 0 ≤ 7302250 by omega)⟩ hl.1 (Nat.le_of_ble_eq_true rfl) rfl rfl dL_law_525 (pmU List.perm_append_comm hP hD hK (rP hP) rfl rfl 0 rfl)) List.perm_append_comm hP hD hS hA (fun r_4 zs_6 H locs hw_5 hP hD hS => ?_)
  have hP := sw_P hP; have hD := sw_D hD
  obtain ⟨hIm, hw_5_0⟩ := hw_5
  refine lv_pop hx hb dL_law_528 rfl ?_
  refine lv_goto (tgt := 1550) hx hb dL_law_529 (by decide) ?_
  refine W.widen (k := (123 + 5 * k) + 5) (n := (44666 + 1604 * k) + 1604) (by omega) (by omega) ?_
  exact next zs_3 zs_6 _ _ _ ⟨hIx, hIm, (ST_repair hI0 hTR hw_2_0 hw_5_0), ⟨(TR2_k hT2.1 (K2_X8_repair hw_2_0) (K2_X9_repair hw_5_0)), (TT_k hT2.2.1 (K3_X8_repair hw_2_0) (K3_X9_repair hw_5_0)), (TU_k hT2.2.2 (K4_X8_repair hw_2_0) (K4_X9_repair hw_5_0))⟩, (TV_k hTV (K5_X8_repair hw_2_0) (K5_X9_repair hw_5_0))⟩ hP hD hS (lv_sub hl [0, 1, 2, 3] rfl)
set_option maxHeartbeats 4000000 in
set_option maxRecDepth 100000 in
theorem law_10 {p : Program} {l : Launch} {e : Env} {s : State} {m : MethodId} {below : List Frame} {meth : Method} {c : Code} {D : va_G} {E : Nat → Nat} {b L : Nat} {xs : Nat → Int32} (hx : p.tables.exec = Jvm.exec) (hb : c.code = code) (hr : meth.sig.returnType = ret) (hml : c.maxLocals = 4) (hown : s.vm.findClass R_law = some m.cls) (htb : ∀ w ∈ tb, w.before #[Value.ref b] s = true) (hK : KX D E s) (hG : SGs [((E 6), (E 8), 60, tw6), ((E 7), (E 9), 35, tw7)] (fun q : Nat => s.heap.size ≤ q) s s.heap) (hX : va_X b L xs s s.heap) (hL : L ≤ 3072) (hbl : b < s.heap.size) (hlocks : meth.locks = false) {qx qm k : Nat} {i : Int32} (hk : k ≤ 512) (hi : i.toInt = 6 * (k : Int)) (hiL : i.toInt + 6 ≤ (L : Int)) {zx : XS} {zm : MS} {H : Heap} {locs : List Loc} {ls : Array Slot} (hI : LI zx zm) (hP : va_P D vwCl (XW E qx zx ++ MW E qm zm) H) (hD : va_D (fun q : Nat => s.heap.size ≤ q) (XW E qx zx ++ MW E qm zm)) (hS : va_S (fun q : Nat => s.heap.size ≤ q) s.heap H locs) (hl : lv_has ls 4 [(3, .int i), (2, .ref qm), (1, .ref qx), (0, .ref b)]) (next : ∀ (zx : XS) (zm : MS) (H : Heap) (locs : List Loc) (ls : Array Slot), LI zx zm → va_P D vwCl (XW E qx zx ++ MW E qm zm) H → va_D (fun q : Nat => s.heap.size ≤ q) (XW E qx zx ++ MW E qm zm) → va_S (fun q : Nat => s.heap.size ≤ q) s.heap H locs → lv_has ls 4 [(3, .int i), (2, .ref qm), (1, .ref qx), (0, .ref b)] → W p l e room_1 s m #[Value.ref b] below meth c H locs ((123 + 5 * k) + 5) ((44666 + 1604 * k) + 1604) (lw_Z below #[Value.ref b] s) (F0 m 1550 ls [])) : W p l e room_1 s m #[Value.ref b] below meth c H locs (123 + 5 * k) (44666 + 1604 * k) (lw_Z below #[Value.ref b] s) (F0 m 532 ls []) := by
  have hA : ∀ q : Nat, s.heap.size ≤ q → (fun q : Nat => s.heap.size ≤ q) q := fun _ h => h
  have hbA : ¬ (fun q : Nat => s.heap.size ≤ q) b := Nat.not_le.mpr hbl
  obtain ⟨hIx, hIm, hTR, hT2, hTV⟩ := hI
  have hI0 := hIx; have hM0 := hIm
  refine lv_aload_n hx hb dL_law_532 rfl (lv_at hl 2 rfl) ?_
  refine lv_aload_n hx hb dL_law_533 rfl (lv_at hl 3 rfl) ?_
  refine lv_iload_n hx hb dL_law_534 rfl (lv_at hl 0 rfl) ?_
  refine lv_iconst (v := 1) hx hb dL_law_535 (by decide) ?_
  refine lv_iadd hx hb dL_law_536 ?_
  refine va_sld hx hb hX hbl hbA hS (sc_in (by omega) t_1 (by omega) (by omega) (by omega)) dL_law_537 ?_
  refine lv_aload_n hx hb dL_law_538 rfl (lv_at hl 3 rfl) ?_
  refine lv_iload_n hx hb dL_law_539 rfl (lv_at hl 0 rfl) ?_
  refine lv_iconst (v := 2) hx hb dL_law_540 (by decide) ?_
  refine lv_iadd hx hb dL_law_541 ?_
  refine va_sld hx hb hX hbl hbA hS (sc_in (by omega) t_2 (by omega) (by omega) (by omega)) dL_law_542 ?_
  refine aftU_i (runMG (rest := []) (As := [.int (xs (i + 1).toNatClampNeg), .int (xs (i + 2).toNatClampNeg)]) hx hb hml hown htb (U_X8_late l D E qx (xs (i + 1).toNatClampNeg) (xs (i + 2).toNatClampNeg) _ zx hIx) ok_X8_late k_455 k_456 k_457 k_1 k_458 ⟨(Nat.le_of_ble_eq_true rfl), (Nat.le_of_ble_eq_true rfl)⟩ ⟨(show (123 + 5 * k) + 0 ≤ 600000 by omega), (show (44666 + 1604 * k) + 0 ≤ 7302250 by omega)⟩ hl.1 (Nat.le_of_ble_eq_true rfl) rfl rfl dL_law_543 (pmU (List.Perm.refl _) hP hD hK (XW_c (lP hP)) rfl rfl 0 rfl)) (List.Perm.refl _) hP hD hS hA (fun r_1 zs_3 H locs hw_2 hP hD hS => ?_)
  obtain ⟨hIx, hw_2_0⟩ := hw_2
  refine lv_pop hx hb dL_law_546 rfl ?_
  refine lv_aload_n hx hb dL_law_547 rfl (lv_at hl 1 rfl) ?_
  refine lv_aload_n hx hb dL_law_548 rfl (lv_at hl 3 rfl) ?_
  refine lv_iload_n hx hb dL_law_549 rfl (lv_at hl 0 rfl) ?_
  refine lv_iconst (v := 1) hx hb dL_law_550 (by decide) ?_
  refine lv_iadd hx hb dL_law_551 ?_
  refine va_sld hx hb hX hbl hbA hS (sc_in (by omega) t_1 (by omega) (by omega) (by omega)) dL_law_552 ?_
  refine lv_aload_n hx hb dL_law_553 rfl (lv_at hl 3 rfl) ?_
  refine lv_iload_n hx hb dL_law_554 rfl (lv_at hl 0 rfl) ?_
  refine lv_iconst (v := 2) hx hb dL_law_555 (by decide) ?_
  refine lv_iadd hx hb dL_law_556 ?_
  refine va_sld hx hb hX hbl hbA hS (sc_in (by omega) t_2 (by omega) (by omega) (by omega)) dL_law_557 ?_
  refine aftU_i (runMG (rest := []) (As := [.int (xs (i + 1).toNatClampNeg), .int (xs (i + 2).toNatClampNeg)]) hx hb hml hown htb (U_X9_late l D E qm (xs (i + 1).toNatClampNeg) (xs (i + 2).toNatClampNeg) _ zm hIm) ok_X9_late k_1242 k_1243 k_1244 k_9 k_1245 ⟨(Nat.le_of_ble_eq_true rfl), (Nat.le_of_ble_eq_true rfl)⟩ ⟨(show (123 + 5 * k) + 0 + 0 ≤ 600000 by omega), (show (44666 + 1604 * k) + 0 + 0 ≤ 7302250 by omega)⟩ hl.1 (Nat.le_of_ble_eq_true rfl) rfl rfl dL_law_558 (pmU List.perm_append_comm hP hD hK (rP hP) rfl rfl 0 rfl)) List.perm_append_comm hP hD hS hA (fun r_4 zs_6 H locs hw_5 hP hD hS => ?_)
  have hP := sw_P hP; have hD := sw_D hD
  obtain ⟨hIm, hw_5_0⟩ := hw_5
  refine lv_pop hx hb dL_law_561 rfl ?_
  refine lv_goto (tgt := 1550) hx hb dL_law_562 (by decide) ?_
  refine W.widen (k := (123 + 5 * k) + 5) (n := (44666 + 1604 * k) + 1604) (by omega) (by omega) ?_
  exact next zs_3 zs_6 _ _ _ ⟨hIx, hIm, (ST_late hI0 hTR hw_2_0 hw_5_0), ⟨(TR2_k hT2.1 (K2_X8_late hw_2_0) (K2_X9_late hw_5_0)), (TT_k hT2.2.1 (K3_X8_late hw_2_0) (K3_X9_late hw_5_0)), (TU_k hT2.2.2 (K4_X8_late hw_2_0) (K4_X9_late hw_5_0))⟩, (TV_k hTV (K5_X8_late hw_2_0) (K5_X9_late hw_5_0))⟩ hP hD hS (lv_sub hl [0, 1, 2, 3] rfl)
set_option maxHeartbeats 4000000 in
set_option maxRecDepth 100000 in
theorem law_11 {p : Program} {l : Launch} {e : Env} {s : State} {m : MethodId} {below : List Frame} {meth : Method} {c : Code} {D : va_G} {E : Nat → Nat} {b L : Nat} {xs : Nat → Int32} (hx : p.tables.exec = Jvm.exec) (hb : c.code = code) (hr : meth.sig.returnType = ret) (hml : c.maxLocals = 4) (hown : s.vm.findClass R_law = some m.cls) (htb : ∀ w ∈ tb, w.before #[Value.ref b] s = true) (hK : KX D E s) (hG : SGs [((E 6), (E 8), 60, tw6), ((E 7), (E 9), 35, tw7)] (fun q : Nat => s.heap.size ≤ q) s s.heap) (hX : va_X b L xs s s.heap) (hL : L ≤ 3072) (hbl : b < s.heap.size) (hlocks : meth.locks = false) {qx qm k : Nat} {i : Int32} (hk : k ≤ 512) (hi : i.toInt = 6 * (k : Int)) (hiL : i.toInt + 6 ≤ (L : Int)) {zx : XS} {zm : MS} {H : Heap} {locs : List Loc} {ls : Array Slot} (hI : LI zx zm) (hP : va_P D vwCl (XW E qx zx ++ MW E qm zm) H) (hD : va_D (fun q : Nat => s.heap.size ≤ q) (XW E qx zx ++ MW E qm zm)) (hS : va_S (fun q : Nat => s.heap.size ≤ q) s.heap H locs) (hl : lv_has ls 4 [(3, .int i), (2, .ref qm), (1, .ref qx), (0, .ref b)]) (next : ∀ (zx : XS) (zm : MS) (H : Heap) (locs : List Loc) (ls : Array Slot), LI zx zm → va_P D vwCl (XW E qx zx ++ MW E qm zm) H → va_D (fun q : Nat => s.heap.size ≤ q) (XW E qx zx ++ MW E qm zm) → va_S (fun q : Nat => s.heap.size ≤ q) s.heap H locs → lv_has ls 4 [(3, .int i), (2, .ref qm), (1, .ref qx), (0, .ref b)] → W p l e room_1 s m #[Value.ref b] below meth c H locs ((123 + 5 * k) + 5) ((44666 + 1604 * k) + 1604) (lw_Z below #[Value.ref b] s) (F0 m 1550 ls [])) : W p l e room_1 s m #[Value.ref b] below meth c H locs (123 + 5 * k) (44666 + 1604 * k) (lw_Z below #[Value.ref b] s) (F0 m 565 ls []) := by
  have hA : ∀ q : Nat, s.heap.size ≤ q → (fun q : Nat => s.heap.size ≤ q) q := fun _ h => h
  have hbA : ¬ (fun q : Nat => s.heap.size ≤ q) b := Nat.not_le.mpr hbl
  obtain ⟨hIx, hIm, hTR, hT2, hTV⟩ := hI
  have hI0 := hIx; have hM0 := hIm
  refine lv_aload_n hx hb dL_law_565 rfl (lv_at hl 2 rfl) ?_
  refine lv_aload_n hx hb dL_law_566 rfl (lv_at hl 3 rfl) ?_
  refine lv_iload_n hx hb dL_law_567 rfl (lv_at hl 0 rfl) ?_
  refine lv_iconst (v := 1) hx hb dL_law_568 (by decide) ?_
  refine lv_iadd hx hb dL_law_569 ?_
  refine va_sld hx hb hX hbl hbA hS (sc_in (by omega) t_1 (by omega) (by omega) (by omega)) dL_law_570 ?_
  refine lv_aload_n hx hb dL_law_571 rfl (lv_at hl 3 rfl) ?_
  refine lv_iload_n hx hb dL_law_572 rfl (lv_at hl 0 rfl) ?_
  refine lv_iconst (v := 2) hx hb dL_law_573 (by decide) ?_
  refine lv_iadd hx hb dL_law_574 ?_
  refine va_sld hx hb hX hbl hbA hS (sc_in (by omega) t_2 (by omega) (by omega) (by omega)) dL_law_575 ?_
  refine aftU_i (runMG (rest := []) (As := [.int (xs (i + 1).toNatClampNeg), .int (xs (i + 2).toNatClampNeg)]) hx hb hml hown htb (U_X8_age l D E qx (xs (i + 1).toNatClampNeg) (xs (i + 2).toNatClampNeg) _ zx hIx) ok_X8_age k_459 k_460 k_461 k_1 k_462 ⟨(Nat.le_of_ble_eq_true rfl), (Nat.le_of_ble_eq_true rfl)⟩ ⟨(show (123 + 5 * k) + 0 ≤ 600000 by omega), (show (44666 + 1604 * k) + 0 ≤ 7302250 by omega)⟩ hl.1 (Nat.le_of_ble_eq_true rfl) rfl rfl dL_law_576 (pmU (List.Perm.refl _) hP hD hK (XW_c (lP hP)) rfl rfl 0 rfl)) (List.Perm.refl _) hP hD hS hA (fun r_1 zs_3 H locs hw_2 hP hD hS => ?_)
  obtain ⟨hIx, hw_2_0⟩ := hw_2
  refine lv_pop hx hb dL_law_579 rfl ?_
  refine lv_aload_n hx hb dL_law_580 rfl (lv_at hl 1 rfl) ?_
  refine lv_aload_n hx hb dL_law_581 rfl (lv_at hl 3 rfl) ?_
  refine lv_iload_n hx hb dL_law_582 rfl (lv_at hl 0 rfl) ?_
  refine lv_iconst (v := 1) hx hb dL_law_583 (by decide) ?_
  refine lv_iadd hx hb dL_law_584 ?_
  refine va_sld hx hb hX hbl hbA hS (sc_in (by omega) t_1 (by omega) (by omega) (by omega)) dL_law_585 ?_
  refine lv_aload_n hx hb dL_law_586 rfl (lv_at hl 3 rfl) ?_
  refine lv_iload_n hx hb dL_law_587 rfl (lv_at hl 0 rfl) ?_
  refine lv_iconst (v := 2) hx hb dL_law_588 (by decide) ?_
  refine lv_iadd hx hb dL_law_589 ?_
  refine va_sld hx hb hX hbl hbA hS (sc_in (by omega) t_2 (by omega) (by omega) (by omega)) dL_law_590 ?_
  refine aftU_i (runMG (rest := []) (As := [.int (xs (i + 1).toNatClampNeg), .int (xs (i + 2).toNatClampNeg)]) hx hb hml hown htb (U_X9_age l D E qm (xs (i + 1).toNatClampNeg) (xs (i + 2).toNatClampNeg) _ zm hIm) ok_X9_age k_1246 k_1247 k_1248 k_9 k_1249 ⟨(Nat.le_of_ble_eq_true rfl), (Nat.le_of_ble_eq_true rfl)⟩ ⟨(show (123 + 5 * k) + 0 + 0 ≤ 600000 by omega), (show (44666 + 1604 * k) + 0 + 0 ≤ 7302250 by omega)⟩ hl.1 (Nat.le_of_ble_eq_true rfl) rfl rfl dL_law_591 (pmU List.perm_append_comm hP hD hK (rP hP) rfl rfl 0 rfl)) List.perm_append_comm hP hD hS hA (fun r_4 zs_6 H locs hw_5 hP hD hS => ?_)
  have hP := sw_P hP; have hD := sw_D hD
  obtain ⟨hIm, hw_5_0⟩ := hw_5
  refine lv_pop hx hb dL_law_594 rfl ?_
  refine lv_goto (tgt := 1550) hx hb dL_law_595 (by decide) ?_
  refine W.widen (k := (123 + 5 * k) + 5) (n := (44666 + 1604 * k) + 1604) (by omega) (by omega) ?_
  exact next zs_3 zs_6 _ _ _ ⟨hIx, hIm, (TR_kp hTR (KP_X8_age hw_2_0) (KP_X9_age hw_5_0) (KQ_X9_age hw_5_0)), ⟨(TR2_k hT2.1 (K2_X8_age hw_2_0) (K2_X9_age hw_5_0)), (TT_k hT2.2.1 (K3_X8_age hw_2_0) (K3_X9_age hw_5_0)), (TU_k hT2.2.2 (K4_X8_age hw_2_0) (K4_X9_age hw_5_0))⟩, (TV_k hTV (K5_X8_age hw_2_0) (K5_X9_age hw_5_0))⟩ hP hD hS (lv_sub hl [0, 1, 2, 3] rfl)
set_option maxHeartbeats 4000000 in
set_option maxRecDepth 100000 in
theorem law_12 {p : Program} {l : Launch} {e : Env} {s : State} {m : MethodId} {below : List Frame} {meth : Method} {c : Code} {D : va_G} {E : Nat → Nat} {b L : Nat} {xs : Nat → Int32} (hx : p.tables.exec = Jvm.exec) (hb : c.code = code) (hr : meth.sig.returnType = ret) (hml : c.maxLocals = 4) (hown : s.vm.findClass R_law = some m.cls) (htb : ∀ w ∈ tb, w.before #[Value.ref b] s = true) (hK : KX D E s) (hG : SGs [((E 6), (E 8), 60, tw6), ((E 7), (E 9), 35, tw7)] (fun q : Nat => s.heap.size ≤ q) s s.heap) (hX : va_X b L xs s s.heap) (hL : L ≤ 3072) (hbl : b < s.heap.size) (hlocks : meth.locks = false) {qx qm k : Nat} {i : Int32} (hk : k ≤ 512) (hi : i.toInt = 6 * (k : Int)) (hiL : i.toInt + 6 ≤ (L : Int)) {zx : XS} {zm : MS} {H : Heap} {locs : List Loc} {ls : Array Slot} (hI : LI zx zm) (hP : va_P D vwCl (XW E qx zx ++ MW E qm zm) H) (hD : va_D (fun q : Nat => s.heap.size ≤ q) (XW E qx zx ++ MW E qm zm)) (hS : va_S (fun q : Nat => s.heap.size ≤ q) s.heap H locs) (hl : lv_has ls 4 [(3, .int i), (2, .ref qm), (1, .ref qx), (0, .ref b)]) (next : ∀ (zx : XS) (zm : MS) (H : Heap) (locs : List Loc) (ls : Array Slot), LI zx zm → va_P D vwCl (XW E qx zx ++ MW E qm zm) H → va_D (fun q : Nat => s.heap.size ≤ q) (XW E qx zx ++ MW E qm zm) → va_S (fun q : Nat => s.heap.size ≤ q) s.heap H locs → lv_has ls 4 [(3, .int i), (2, .ref qm), (1, .ref qx), (0, .ref b)] → W p l e room_1 s m #[Value.ref b] below meth c H locs ((123 + 5 * k) + 5) ((44666 + 1604 * k) + 1604) (lw_Z below #[Value.ref b] s) (F0 m 1550 ls [])) : W p l e room_1 s m #[Value.ref b] below meth c H locs (123 + 5 * k) (44666 + 1604 * k) (lw_Z below #[Value.ref b] s) (F0 m 598 ls []) := by
  have hA : ∀ q : Nat, s.heap.size ≤ q → (fun q : Nat => s.heap.size ≤ q) q := fun _ h => h
  have hbA : ¬ (fun q : Nat => s.heap.size ≤ q) b := Nat.not_le.mpr hbl
  obtain ⟨hIx, hIm, hTR, hT2, hTV⟩ := hI
  have hI0 := hIx; have hM0 := hIm
  refine lv_aload_n hx hb dL_law_598 rfl (lv_at hl 2 rfl) ?_
  refine lv_aload_n hx hb dL_law_599 rfl (lv_at hl 3 rfl) ?_
  refine lv_iload_n hx hb dL_law_600 rfl (lv_at hl 0 rfl) ?_
  refine lv_iconst (v := 1) hx hb dL_law_601 (by decide) ?_
  refine lv_iadd hx hb dL_law_602 ?_
  refine va_sld hx hb hX hbl hbA hS (sc_in (by omega) t_1 (by omega) (by omega) (by omega)) dL_law_603 ?_
  refine lv_aload_n hx hb dL_law_604 rfl (lv_at hl 3 rfl) ?_
  refine lv_iload_n hx hb dL_law_605 rfl (lv_at hl 0 rfl) ?_
  refine lv_iconst (v := 2) hx hb dL_law_606 (by decide) ?_
  refine lv_iadd hx hb dL_law_607 ?_
  refine va_sld hx hb hX hbl hbA hS (sc_in (by omega) t_2 (by omega) (by omega) (by omega)) dL_law_608 ?_
  refine lv_aload_n hx hb dL_law_609 rfl (lv_at hl 3 rfl) ?_
  refine lv_iload_n hx hb dL_law_610 rfl (lv_at hl 0 rfl) ?_
  refine lv_iconst (v := 3) hx hb dL_law_611 (by decide) ?_
  refine lv_iadd hx hb dL_law_612 ?_
  refine va_sld hx hb hX hbl hbA hS (sc_in (by omega) t_3 (by omega) (by omega) (by omega)) dL_law_613 ?_
  refine lv_aload_n hx hb dL_law_614 rfl (lv_at hl 3 rfl) ?_
  refine lv_iload_n hx hb dL_law_615 rfl (lv_at hl 0 rfl) ?_
  refine lv_iconst (v := 4) hx hb dL_law_616 (by decide) ?_
  refine lv_iadd hx hb dL_law_617 ?_
  refine va_sld hx hb hX hbl hbA hS (sc_in (by omega) t_4 (by omega) (by omega) (by omega)) dL_law_618 ?_
  refine aftU_i (runMG (rest := []) (As := [.int (xs (i + 1).toNatClampNeg), .int (xs (i + 2).toNatClampNeg), .int (xs (i + 3).toNatClampNeg), .int (xs (i + 4).toNatClampNeg)]) hx hb hml hown htb (U_X8_off l D E qx (xs (i + 1).toNatClampNeg) (xs (i + 2).toNatClampNeg) (xs (i + 3).toNatClampNeg) (xs (i + 4).toNatClampNeg) _ zx hIx) ok_X8_off k_467 k_468 k_469 k_1 k_470 ⟨(Nat.le_of_ble_eq_true rfl), (Nat.le_of_ble_eq_true rfl)⟩ ⟨(show (123 + 5 * k) + 0 ≤ 600000 by omega), (show (44666 + 1604 * k) + 0 ≤ 7302250 by omega)⟩ hl.1 (Nat.le_of_ble_eq_true rfl) rfl rfl dL_law_619 (pmU (List.Perm.refl _) hP hD hK (XW_c (lP hP)) rfl rfl 0 rfl)) (List.Perm.refl _) hP hD hS hA (fun r_1 zs_3 H locs hw_2 hP hD hS => ?_)
  obtain ⟨hIx, hw_2_0⟩ := hw_2
  refine lv_pop hx hb dL_law_622 rfl ?_
  refine lv_aload_n hx hb dL_law_623 rfl (lv_at hl 1 rfl) ?_
  refine lv_aload_n hx hb dL_law_624 rfl (lv_at hl 3 rfl) ?_
  refine lv_iload_n hx hb dL_law_625 rfl (lv_at hl 0 rfl) ?_
  refine lv_iconst (v := 1) hx hb dL_law_626 (by decide) ?_
  refine lv_iadd hx hb dL_law_627 ?_
  refine va_sld hx hb hX hbl hbA hS (sc_in (by omega) t_1 (by omega) (by omega) (by omega)) dL_law_628 ?_
  refine lv_aload_n hx hb dL_law_629 rfl (lv_at hl 3 rfl) ?_
  refine lv_iload_n hx hb dL_law_630 rfl (lv_at hl 0 rfl) ?_
  refine lv_iconst (v := 2) hx hb dL_law_631 (by decide) ?_
  refine lv_iadd hx hb dL_law_632 ?_
  refine va_sld hx hb hX hbl hbA hS (sc_in (by omega) t_2 (by omega) (by omega) (by omega)) dL_law_633 ?_
  refine lv_aload_n hx hb dL_law_634 rfl (lv_at hl 3 rfl) ?_
  refine lv_iload_n hx hb dL_law_635 rfl (lv_at hl 0 rfl) ?_
  refine lv_iconst (v := 3) hx hb dL_law_636 (by decide) ?_
  refine lv_iadd hx hb dL_law_637 ?_
  refine va_sld hx hb hX hbl hbA hS (sc_in (by omega) t_3 (by omega) (by omega) (by omega)) dL_law_638 ?_
  refine lv_aload_n hx hb dL_law_639 rfl (lv_at hl 3 rfl) ?_
  refine lv_iload_n hx hb dL_law_640 rfl (lv_at hl 0 rfl) ?_
  refine lv_iconst (v := 4) hx hb dL_law_641 (by decide) ?_
  refine lv_iadd hx hb dL_law_642 ?_
  refine va_sld hx hb hX hbl hbA hS (sc_in (by omega) t_4 (by omega) (by omega) (by omega)) dL_law_643 ?_
  refine aftU_i (runMG (rest := []) (As := [.int (xs (i + 1).toNatClampNeg), .int (xs (i + 2).toNatClampNeg), .int (xs (i + 3).toNatClampNeg), .int (xs (i + 4).toNatClampNeg)]) hx hb hml hown htb (U_X9_off l D E qm (xs (i + 1).toNatClampNeg) (xs (i + 2).toNatClampNeg) (xs (i + 3).toNatClampNeg) (xs (i + 4).toNatClampNeg) _ zm hIm) ok_X9_off k_1254 k_1255 k_1256 k_9 k_1257 ⟨(Nat.le_of_ble_eq_true rfl), (Nat.le_of_ble_eq_true rfl)⟩ ⟨(show (123 + 5 * k) + 0 + 0 ≤ 600000 by omega), (show (44666 + 1604 * k) + 0 + 0 ≤ 7302250 by omega)⟩ hl.1 (Nat.le_of_ble_eq_true rfl) rfl rfl dL_law_644 (pmU List.perm_append_comm hP hD hK (rP hP) rfl rfl 0 rfl)) List.perm_append_comm hP hD hS hA (fun r_4 zs_6 H locs hw_5 hP hD hS => ?_)
  have hP := sw_P hP; have hD := sw_D hD
  obtain ⟨hIm, hw_5_0⟩ := hw_5
  refine lv_pop hx hb dL_law_647 rfl ?_
  refine lv_goto (tgt := 1550) hx hb dL_law_648 (by decide) ?_
  refine W.widen (k := (123 + 5 * k) + 5) (n := (44666 + 1604 * k) + 1604) (by omega) (by omega) ?_
  exact next zs_3 zs_6 _ _ _ ⟨hIx, hIm, (ST_off hI0 hTR hw_2_0 hw_5_0), ⟨(TR2_k hT2.1 (K2_X8_off hw_2_0) (K2_X9_off hw_5_0)), (TT_k hT2.2.1 (K3_X8_off hw_2_0) (K3_X9_off hw_5_0)), (TU_k hT2.2.2 (K4_X8_off hw_2_0) (K4_X9_off hw_5_0))⟩, (TV_k hTV (K5_X8_off hw_2_0) (K5_X9_off hw_5_0))⟩ hP hD hS (lv_sub hl [0, 1, 2, 3] rfl)
set_option maxHeartbeats 4000000 in
set_option maxRecDepth 100000 in
theorem law_13 {p : Program} {l : Launch} {e : Env} {s : State} {m : MethodId} {below : List Frame} {meth : Method} {c : Code} {D : va_G} {E : Nat → Nat} {b L : Nat} {xs : Nat → Int32} (hx : p.tables.exec = Jvm.exec) (hb : c.code = code) (hr : meth.sig.returnType = ret) (hml : c.maxLocals = 4) (hown : s.vm.findClass R_law = some m.cls) (htb : ∀ w ∈ tb, w.before #[Value.ref b] s = true) (hK : KX D E s) (hG : SGs [((E 6), (E 8), 60, tw6), ((E 7), (E 9), 35, tw7)] (fun q : Nat => s.heap.size ≤ q) s s.heap) (hX : va_X b L xs s s.heap) (hL : L ≤ 3072) (hbl : b < s.heap.size) (hlocks : meth.locks = false) {qx qm k : Nat} {i : Int32} (hk : k ≤ 512) (hi : i.toInt = 6 * (k : Int)) (hiL : i.toInt + 6 ≤ (L : Int)) {zx : XS} {zm : MS} {H : Heap} {locs : List Loc} {ls : Array Slot} (hI : LI zx zm) (hP : va_P D vwCl (XW E qx zx ++ MW E qm zm) H) (hD : va_D (fun q : Nat => s.heap.size ≤ q) (XW E qx zx ++ MW E qm zm)) (hS : va_S (fun q : Nat => s.heap.size ≤ q) s.heap H locs) (hl : lv_has ls 4 [(3, .int i), (2, .ref qm), (1, .ref qx), (0, .ref b)]) (next : ∀ (zx : XS) (zm : MS) (H : Heap) (locs : List Loc) (ls : Array Slot), LI zx zm → va_P D vwCl (XW E qx zx ++ MW E qm zm) H → va_D (fun q : Nat => s.heap.size ≤ q) (XW E qx zx ++ MW E qm zm) → va_S (fun q : Nat => s.heap.size ≤ q) s.heap H locs → lv_has ls 4 [(3, .int i), (2, .ref qm), (1, .ref qx), (0, .ref b)] → W p l e room_1 s m #[Value.ref b] below meth c H locs ((123 + 5 * k) + 5) ((44666 + 1604 * k) + 1604) (lw_Z below #[Value.ref b] s) (F0 m 1550 ls [])) : W p l e room_1 s m #[Value.ref b] below meth c H locs (123 + 5 * k) (44666 + 1604 * k) (lw_Z below #[Value.ref b] s) (F0 m 651 ls []) := by
  have hA : ∀ q : Nat, s.heap.size ≤ q → (fun q : Nat => s.heap.size ≤ q) q := fun _ h => h
  have hbA : ¬ (fun q : Nat => s.heap.size ≤ q) b := Nat.not_le.mpr hbl
  obtain ⟨hIx, hIm, hTR, hT2, hTV⟩ := hI
  have hI0 := hIx; have hM0 := hIm
  refine lv_aload_n hx hb dL_law_651 rfl (lv_at hl 2 rfl) ?_
  refine lv_aload_n hx hb dL_law_652 rfl (lv_at hl 3 rfl) ?_
  refine lv_iload_n hx hb dL_law_653 rfl (lv_at hl 0 rfl) ?_
  refine lv_iconst (v := 1) hx hb dL_law_654 (by decide) ?_
  refine lv_iadd hx hb dL_law_655 ?_
  refine va_sld hx hb hX hbl hbA hS (sc_in (by omega) t_1 (by omega) (by omega) (by omega)) dL_law_656 ?_
  refine lv_aload_n hx hb dL_law_657 rfl (lv_at hl 3 rfl) ?_
  refine lv_iload_n hx hb dL_law_658 rfl (lv_at hl 0 rfl) ?_
  refine lv_iconst (v := 2) hx hb dL_law_659 (by decide) ?_
  refine lv_iadd hx hb dL_law_660 ?_
  refine va_sld hx hb hX hbl hbA hS (sc_in (by omega) t_2 (by omega) (by omega) (by omega)) dL_law_661 ?_
  refine lv_aload_n hx hb dL_law_662 rfl (lv_at hl 3 rfl) ?_
  refine lv_iload_n hx hb dL_law_663 rfl (lv_at hl 0 rfl) ?_
  refine lv_iconst (v := 3) hx hb dL_law_664 (by decide) ?_
  refine lv_iadd hx hb dL_law_665 ?_
  refine va_sld hx hb hX hbl hbA hS (sc_in (by omega) t_3 (by omega) (by omega) (by omega)) dL_law_666 ?_
  refine lv_aload_n hx hb dL_law_667 rfl (lv_at hl 3 rfl) ?_
  refine lv_iload_n hx hb dL_law_668 rfl (lv_at hl 0 rfl) ?_
  refine lv_iconst (v := 4) hx hb dL_law_669 (by decide) ?_
  refine lv_iadd hx hb dL_law_670 ?_
  refine va_sld hx hb hX hbl hbA hS (sc_in (by omega) t_4 (by omega) (by omega) (by omega)) dL_law_671 ?_
  refine aftU_i (runMG (rest := []) (As := [.int (xs (i + 1).toNatClampNeg), .int (xs (i + 2).toNatClampNeg), .int (xs (i + 3).toNatClampNeg), .int (xs (i + 4).toNatClampNeg)]) hx hb hml hown htb (U_X8_changed l D E qx (xs (i + 1).toNatClampNeg) (xs (i + 2).toNatClampNeg) (xs (i + 3).toNatClampNeg) (xs (i + 4).toNatClampNeg) _ zx hIx) ok_X8_changed k_475 k_476 k_477 k_1 k_478 ⟨(Nat.le_of_ble_eq_true rfl), (Nat.le_of_ble_eq_true rfl)⟩ ⟨(show (123 + 5 * k) + 0 ≤ 600000 by omega), (show (44666 + 1604 * k) + 0 ≤ 7302250 by omega)⟩ hl.1 (Nat.le_of_ble_eq_true rfl) rfl rfl dL_law_672 (pmU (List.Perm.refl _) hP hD hK (XW_c (lP hP)) rfl rfl 0 rfl)) (List.Perm.refl _) hP hD hS hA (fun r_1 zs_3 H locs hw_2 hP hD hS => ?_)
  obtain ⟨hIx, hw_2_0⟩ := hw_2
  refine lv_pop hx hb dL_law_675 rfl ?_
  refine lv_aload_n hx hb dL_law_676 rfl (lv_at hl 1 rfl) ?_
  refine lv_aload_n hx hb dL_law_677 rfl (lv_at hl 3 rfl) ?_
  refine lv_iload_n hx hb dL_law_678 rfl (lv_at hl 0 rfl) ?_
  refine lv_iconst (v := 1) hx hb dL_law_679 (by decide) ?_
  refine lv_iadd hx hb dL_law_680 ?_
  refine va_sld hx hb hX hbl hbA hS (sc_in (by omega) t_1 (by omega) (by omega) (by omega)) dL_law_681 ?_
  refine lv_aload_n hx hb dL_law_682 rfl (lv_at hl 3 rfl) ?_
  refine lv_iload_n hx hb dL_law_683 rfl (lv_at hl 0 rfl) ?_
  refine lv_iconst (v := 2) hx hb dL_law_684 (by decide) ?_
  refine lv_iadd hx hb dL_law_685 ?_
  refine va_sld hx hb hX hbl hbA hS (sc_in (by omega) t_2 (by omega) (by omega) (by omega)) dL_law_686 ?_
  refine lv_aload_n hx hb dL_law_687 rfl (lv_at hl 3 rfl) ?_
  refine lv_iload_n hx hb dL_law_688 rfl (lv_at hl 0 rfl) ?_
  refine lv_iconst (v := 3) hx hb dL_law_689 (by decide) ?_
  refine lv_iadd hx hb dL_law_690 ?_
  refine va_sld hx hb hX hbl hbA hS (sc_in (by omega) t_3 (by omega) (by omega) (by omega)) dL_law_691 ?_
  refine lv_aload_n hx hb dL_law_692 rfl (lv_at hl 3 rfl) ?_
  refine lv_iload_n hx hb dL_law_693 rfl (lv_at hl 0 rfl) ?_
  refine lv_iconst (v := 4) hx hb dL_law_694 (by decide) ?_
  refine lv_iadd hx hb dL_law_695 ?_
  refine va_sld hx hb hX hbl hbA hS (sc_in (by omega) t_4 (by omega) (by omega) (by omega)) dL_law_696 ?_
  refine aftU_i (runMG (rest := []) (As := [.int (xs (i + 1).toNatClampNeg), .int (xs (i + 2).toNatClampNeg), .int (xs (i + 3).toNatClampNeg), .int (xs (i + 4).toNatClampNeg)]) hx hb hml hown htb (U_X9_changed l D E qm (xs (i + 1).toNatClampNeg) (xs (i + 2).toNatClampNeg) (xs (i + 3).toNatClampNeg) (xs (i + 4).toNatClampNeg) _ zm hIm) ok_X9_changed k_1258 k_1259 k_1260 k_9 k_1261 ⟨(Nat.le_of_ble_eq_true rfl), (Nat.le_of_ble_eq_true rfl)⟩ ⟨(show (123 + 5 * k) + 0 + 0 ≤ 600000 by omega), (show (44666 + 1604 * k) + 0 + 0 ≤ 7302250 by omega)⟩ hl.1 (Nat.le_of_ble_eq_true rfl) rfl rfl dL_law_697 (pmU List.perm_append_comm hP hD hK (rP hP) rfl rfl 0 rfl)) List.perm_append_comm hP hD hS hA (fun r_4 zs_6 H locs hw_5 hP hD hS => ?_)
  have hP := sw_P hP; have hD := sw_D hD
  obtain ⟨hIm, hw_5_0⟩ := hw_5
  refine lv_pop hx hb dL_law_700 rfl ?_
  refine lv_goto (tgt := 1550) hx hb dL_law_701 (by decide) ?_
  refine W.widen (k := (123 + 5 * k) + 5) (n := (44666 + 1604 * k) + 1604) (by omega) (by omega) ?_
  exact next zs_3 zs_6 _ _ _ ⟨hIx, hIm, (TR_kp hTR (KP_X8_changed hw_2_0) (KP_X9_changed hw_5_0) (KQ_X9_changed hw_5_0)), ⟨(TR2_k hT2.1 (K2_X8_changed hw_2_0) (K2_X9_changed hw_5_0)), (TT_k hT2.2.1 (K3_X8_changed hw_2_0) (K3_X9_changed hw_5_0)), (TU_k hT2.2.2 (K4_X8_changed hw_2_0) (K4_X9_changed hw_5_0))⟩, (TV_k hTV (K5_X8_changed hw_2_0) (K5_X9_changed hw_5_0))⟩ hP hD hS (lv_sub hl [0, 1, 2, 3] rfl)
set_option maxHeartbeats 4000000 in
set_option maxRecDepth 100000 in
theorem law_14 {p : Program} {l : Launch} {e : Env} {s : State} {m : MethodId} {below : List Frame} {meth : Method} {c : Code} {D : va_G} {E : Nat → Nat} {b L : Nat} {xs : Nat → Int32} (hx : p.tables.exec = Jvm.exec) (hb : c.code = code) (hr : meth.sig.returnType = ret) (hml : c.maxLocals = 4) (hown : s.vm.findClass R_law = some m.cls) (htb : ∀ w ∈ tb, w.before #[Value.ref b] s = true) (hK : KX D E s) (hG : SGs [((E 6), (E 8), 60, tw6), ((E 7), (E 9), 35, tw7)] (fun q : Nat => s.heap.size ≤ q) s s.heap) (hX : va_X b L xs s s.heap) (hL : L ≤ 3072) (hbl : b < s.heap.size) (hlocks : meth.locks = false) {qx qm k : Nat} {i : Int32} (hk : k ≤ 512) (hi : i.toInt = 6 * (k : Int)) (hiL : i.toInt + 6 ≤ (L : Int)) {zx : XS} {zm : MS} {H : Heap} {locs : List Loc} {ls : Array Slot} (hI : LI zx zm) (hP : va_P D vwCl (XW E qx zx ++ MW E qm zm) H) (hD : va_D (fun q : Nat => s.heap.size ≤ q) (XW E qx zx ++ MW E qm zm)) (hS : va_S (fun q : Nat => s.heap.size ≤ q) s.heap H locs) (hl : lv_has ls 4 [(3, .int i), (2, .ref qm), (1, .ref qx), (0, .ref b)]) (next : ∀ (zx : XS) (zm : MS) (H : Heap) (locs : List Loc) (ls : Array Slot), LI zx zm → va_P D vwCl (XW E qx zx ++ MW E qm zm) H → va_D (fun q : Nat => s.heap.size ≤ q) (XW E qx zx ++ MW E qm zm) → va_S (fun q : Nat => s.heap.size ≤ q) s.heap H locs → lv_has ls 4 [(3, .int i), (2, .ref qm), (1, .ref qx), (0, .ref b)] → W p l e room_1 s m #[Value.ref b] below meth c H locs ((123 + 5 * k) + 5) ((44666 + 1604 * k) + 1604) (lw_Z below #[Value.ref b] s) (F0 m 1550 ls [])) : W p l e room_1 s m #[Value.ref b] below meth c H locs (123 + 5 * k) (44666 + 1604 * k) (lw_Z below #[Value.ref b] s) (F0 m 704 ls []) := by
  have hA : ∀ q : Nat, s.heap.size ≤ q → (fun q : Nat => s.heap.size ≤ q) q := fun _ h => h
  have hbA : ¬ (fun q : Nat => s.heap.size ≤ q) b := Nat.not_le.mpr hbl
  obtain ⟨hIx, hIm, hTR, hT2, hTV⟩ := hI
  have hI0 := hIx; have hM0 := hIm
  refine lv_aload_n hx hb dL_law_704 rfl (lv_at hl 2 rfl) ?_
  refine lv_aload_n hx hb dL_law_705 rfl (lv_at hl 3 rfl) ?_
  refine lv_iload_n hx hb dL_law_706 rfl (lv_at hl 0 rfl) ?_
  refine lv_iconst (v := 1) hx hb dL_law_707 (by decide) ?_
  refine lv_iadd hx hb dL_law_708 ?_
  refine va_sld hx hb hX hbl hbA hS (sc_in (by omega) t_1 (by omega) (by omega) (by omega)) dL_law_709 ?_
  refine lv_aload_n hx hb dL_law_710 rfl (lv_at hl 3 rfl) ?_
  refine lv_iload_n hx hb dL_law_711 rfl (lv_at hl 0 rfl) ?_
  refine lv_iconst (v := 2) hx hb dL_law_712 (by decide) ?_
  refine lv_iadd hx hb dL_law_713 ?_
  refine va_sld hx hb hX hbl hbA hS (sc_in (by omega) t_2 (by omega) (by omega) (by omega)) dL_law_714 ?_
  refine lv_aload_n hx hb dL_law_715 rfl (lv_at hl 3 rfl) ?_
  refine lv_iload_n hx hb dL_law_716 rfl (lv_at hl 0 rfl) ?_
  refine lv_iconst (v := 3) hx hb dL_law_717 (by decide) ?_
  refine lv_iadd hx hb dL_law_718 ?_
  refine va_sld hx hb hX hbl hbA hS (sc_in (by omega) t_3 (by omega) (by omega) (by omega)) dL_law_719 ?_
  refine aftU_i (runMG (rest := []) (As := [.int (xs (i + 1).toNatClampNeg), .int (xs (i + 2).toNatClampNeg), .int (xs (i + 3).toNatClampNeg)]) hx hb hml hown htb (U_X8_law l D E qx (xs (i + 1).toNatClampNeg) (xs (i + 2).toNatClampNeg) (xs (i + 3).toNatClampNeg) _ zx hIx) ok_X8_law k_482 k_483 k_484 k_1 k_485 ⟨(Nat.le_of_ble_eq_true rfl), (Nat.le_of_ble_eq_true rfl)⟩ ⟨(show (123 + 5 * k) + 0 ≤ 600000 by omega), (show (44666 + 1604 * k) + 0 ≤ 7302250 by omega)⟩ hl.1 (Nat.le_of_ble_eq_true rfl) rfl rfl dL_law_720 (pmU (List.Perm.refl _) hP hD hK (XW_c (lP hP)) rfl rfl 0 rfl)) (List.Perm.refl _) hP hD hS hA (fun r_1 zs_3 H locs hw_2 hP hD hS => ?_)
  obtain ⟨hIx, hw_2_0⟩ := hw_2
  refine lv_pop hx hb dL_law_723 rfl ?_
  refine lv_aload_n hx hb dL_law_724 rfl (lv_at hl 1 rfl) ?_
  refine lv_aload_n hx hb dL_law_725 rfl (lv_at hl 3 rfl) ?_
  refine lv_iload_n hx hb dL_law_726 rfl (lv_at hl 0 rfl) ?_
  refine lv_iconst (v := 1) hx hb dL_law_727 (by decide) ?_
  refine lv_iadd hx hb dL_law_728 ?_
  refine va_sld hx hb hX hbl hbA hS (sc_in (by omega) t_1 (by omega) (by omega) (by omega)) dL_law_729 ?_
  refine lv_aload_n hx hb dL_law_730 rfl (lv_at hl 3 rfl) ?_
  refine lv_iload_n hx hb dL_law_731 rfl (lv_at hl 0 rfl) ?_
  refine lv_iconst (v := 2) hx hb dL_law_732 (by decide) ?_
  refine lv_iadd hx hb dL_law_733 ?_
  refine va_sld hx hb hX hbl hbA hS (sc_in (by omega) t_2 (by omega) (by omega) (by omega)) dL_law_734 ?_
  refine lv_aload_n hx hb dL_law_735 rfl (lv_at hl 3 rfl) ?_
  refine lv_iload_n hx hb dL_law_736 rfl (lv_at hl 0 rfl) ?_
  refine lv_iconst (v := 3) hx hb dL_law_737 (by decide) ?_
  refine lv_iadd hx hb dL_law_738 ?_
  refine va_sld hx hb hX hbl hbA hS (sc_in (by omega) t_3 (by omega) (by omega) (by omega)) dL_law_739 ?_
  refine aftU_i (runMG (rest := []) (As := [.int (xs (i + 1).toNatClampNeg), .int (xs (i + 2).toNatClampNeg), .int (xs (i + 3).toNatClampNeg)]) hx hb hml hown htb (U_X9_law l D E qm (xs (i + 1).toNatClampNeg) (xs (i + 2).toNatClampNeg) (xs (i + 3).toNatClampNeg) _ zm hIm) ok_X9_law k_1265 k_1266 k_1267 k_9 k_1268 ⟨(Nat.le_of_ble_eq_true rfl), (Nat.le_of_ble_eq_true rfl)⟩ ⟨(show (123 + 5 * k) + 0 + 0 ≤ 600000 by omega), (show (44666 + 1604 * k) + 0 + 0 ≤ 7302250 by omega)⟩ hl.1 (Nat.le_of_ble_eq_true rfl) rfl rfl dL_law_740 (pmU List.perm_append_comm hP hD hK (rP hP) rfl rfl 0 rfl)) List.perm_append_comm hP hD hS hA (fun r_4 zs_6 H locs hw_5 hP hD hS => ?_)
  have hP := sw_P hP; have hD := sw_D hD
  obtain ⟨hIm, hw_5_0⟩ := hw_5
  refine lv_pop hx hb dL_law_743 rfl ?_
  refine lv_goto (tgt := 1550) hx hb dL_law_744 (by decide) ?_
  refine W.widen (k := (123 + 5 * k) + 5) (n := (44666 + 1604 * k) + 1604) (by omega) (by omega) ?_
  exact next zs_3 zs_6 _ _ _ ⟨hIx, hIm, (TR_kp hTR (KP_X8_law hw_2_0) (KP_X9_law hw_5_0) (KQ_X9_law hw_5_0)), ⟨(TR2_k hT2.1 (K2_X8_law hw_2_0) (K2_X9_law hw_5_0)), (TT_k hT2.2.1 (K3_X8_law hw_2_0) (K3_X9_law hw_5_0)), (TU_k hT2.2.2 (K4_X8_law hw_2_0) (K4_X9_law hw_5_0))⟩, (TV_k hTV (K5_X8_law hw_2_0) (K5_X9_law hw_5_0))⟩ hP hD hS (lv_sub hl [0, 1, 2, 3] rfl)
set_option maxHeartbeats 4000000 in
set_option maxRecDepth 100000 in
theorem law_15 {p : Program} {l : Launch} {e : Env} {s : State} {m : MethodId} {below : List Frame} {meth : Method} {c : Code} {D : va_G} {E : Nat → Nat} {b L : Nat} {xs : Nat → Int32} (hx : p.tables.exec = Jvm.exec) (hb : c.code = code) (hr : meth.sig.returnType = ret) (hml : c.maxLocals = 4) (hown : s.vm.findClass R_law = some m.cls) (htb : ∀ w ∈ tb, w.before #[Value.ref b] s = true) (hK : KX D E s) (hG : SGs [((E 6), (E 8), 60, tw6), ((E 7), (E 9), 35, tw7)] (fun q : Nat => s.heap.size ≤ q) s s.heap) (hX : va_X b L xs s s.heap) (hL : L ≤ 3072) (hbl : b < s.heap.size) (hlocks : meth.locks = false) {qx qm k : Nat} {i : Int32} (hk : k ≤ 512) (hi : i.toInt = 6 * (k : Int)) (hiL : i.toInt + 6 ≤ (L : Int)) {zx : XS} {zm : MS} {H : Heap} {locs : List Loc} {ls : Array Slot} (hI : LI zx zm) (hP : va_P D vwCl (XW E qx zx ++ MW E qm zm) H) (hD : va_D (fun q : Nat => s.heap.size ≤ q) (XW E qx zx ++ MW E qm zm)) (hS : va_S (fun q : Nat => s.heap.size ≤ q) s.heap H locs) (hl : lv_has ls 4 [(3, .int i), (2, .ref qm), (1, .ref qx), (0, .ref b)]) (next : ∀ (zx : XS) (zm : MS) (H : Heap) (locs : List Loc) (ls : Array Slot), LI zx zm → va_P D vwCl (XW E qx zx ++ MW E qm zm) H → va_D (fun q : Nat => s.heap.size ≤ q) (XW E qx zx ++ MW E qm zm) → va_S (fun q : Nat => s.heap.size ≤ q) s.heap H locs → lv_has ls 4 [(3, .int i), (2, .ref qm), (1, .ref qx), (0, .ref b)] → W p l e room_1 s m #[Value.ref b] below meth c H locs ((123 + 5 * k) + 5) ((44666 + 1604 * k) + 1604) (lw_Z below #[Value.ref b] s) (F0 m 1550 ls [])) : W p l e room_1 s m #[Value.ref b] below meth c H locs (123 + 5 * k) (44666 + 1604 * k) (lw_Z below #[Value.ref b] s) (F0 m 747 ls []) := by
  have hA : ∀ q : Nat, s.heap.size ≤ q → (fun q : Nat => s.heap.size ≤ q) q := fun _ h => h
  have hbA : ¬ (fun q : Nat => s.heap.size ≤ q) b := Nat.not_le.mpr hbl
  obtain ⟨hIx, hIm, hTR, hT2, hTV⟩ := hI
  have hI0 := hIx; have hM0 := hIm
  refine lv_aload_n hx hb dL_law_747 rfl (lv_at hl 2 rfl) ?_
  refine lv_aload_n hx hb dL_law_748 rfl (lv_at hl 3 rfl) ?_
  refine lv_iload_n hx hb dL_law_749 rfl (lv_at hl 0 rfl) ?_
  refine lv_iconst (v := 1) hx hb dL_law_750 (by decide) ?_
  refine lv_iadd hx hb dL_law_751 ?_
  refine va_sld hx hb hX hbl hbA hS (sc_in (by omega) t_1 (by omega) (by omega) (by omega)) dL_law_752 ?_
  refine lv_aload_n hx hb dL_law_753 rfl (lv_at hl 3 rfl) ?_
  refine lv_iload_n hx hb dL_law_754 rfl (lv_at hl 0 rfl) ?_
  refine lv_iconst (v := 2) hx hb dL_law_755 (by decide) ?_
  refine lv_iadd hx hb dL_law_756 ?_
  refine va_sld hx hb hX hbl hbA hS (sc_in (by omega) t_2 (by omega) (by omega) (by omega)) dL_law_757 ?_
  refine lv_aload_n hx hb dL_law_758 rfl (lv_at hl 3 rfl) ?_
  refine lv_iload_n hx hb dL_law_759 rfl (lv_at hl 0 rfl) ?_
  refine lv_iconst (v := 3) hx hb dL_law_760 (by decide) ?_
  refine lv_iadd hx hb dL_law_761 ?_
  refine va_sld hx hb hX hbl hbA hS (sc_in (by omega) t_3 (by omega) (by omega) (by omega)) dL_law_762 ?_
  refine aftU_i (runMG (rest := []) (As := [.int (xs (i + 1).toNatClampNeg), .int (xs (i + 2).toNatClampNeg), .int (xs (i + 3).toNatClampNeg)]) hx hb hml hown htb (U_X8_terms l D E qx (xs (i + 1).toNatClampNeg) (xs (i + 2).toNatClampNeg) (xs (i + 3).toNatClampNeg) _ zx hIx) ok_X8_terms k_525 k_526 k_527 k_1 k_528 ⟨(Nat.le_of_ble_eq_true rfl), (Nat.le_of_ble_eq_true rfl)⟩ ⟨(show (123 + 5 * k) + 0 ≤ 600000 by omega), (show (44666 + 1604 * k) + 0 ≤ 7302250 by omega)⟩ hl.1 (Nat.le_of_ble_eq_true rfl) rfl rfl dL_law_763 (pmU (List.Perm.refl _) hP hD hK (XW_c (lP hP)) rfl rfl 0 rfl)) (List.Perm.refl _) hP hD hS hA (fun r_1 zs_3 H locs hw_2 hP hD hS => ?_)
  obtain ⟨hIx, hw_2_0⟩ := hw_2
  refine lv_pop hx hb dL_law_766 rfl ?_
  refine lv_aload_n hx hb dL_law_767 rfl (lv_at hl 1 rfl) ?_
  refine lv_aload_n hx hb dL_law_768 rfl (lv_at hl 3 rfl) ?_
  refine lv_iload_n hx hb dL_law_769 rfl (lv_at hl 0 rfl) ?_
  refine lv_iconst (v := 1) hx hb dL_law_770 (by decide) ?_
  refine lv_iadd hx hb dL_law_771 ?_
  refine va_sld hx hb hX hbl hbA hS (sc_in (by omega) t_1 (by omega) (by omega) (by omega)) dL_law_772 ?_
  refine lv_aload_n hx hb dL_law_773 rfl (lv_at hl 3 rfl) ?_
  refine lv_iload_n hx hb dL_law_774 rfl (lv_at hl 0 rfl) ?_
  refine lv_iconst (v := 2) hx hb dL_law_775 (by decide) ?_
  refine lv_iadd hx hb dL_law_776 ?_
  refine va_sld hx hb hX hbl hbA hS (sc_in (by omega) t_2 (by omega) (by omega) (by omega)) dL_law_777 ?_
  refine lv_aload_n hx hb dL_law_778 rfl (lv_at hl 3 rfl) ?_
  refine lv_iload_n hx hb dL_law_779 rfl (lv_at hl 0 rfl) ?_
  refine lv_iconst (v := 3) hx hb dL_law_780 (by decide) ?_
  refine lv_iadd hx hb dL_law_781 ?_
  refine va_sld hx hb hX hbl hbA hS (sc_in (by omega) t_3 (by omega) (by omega) (by omega)) dL_law_782 ?_
  refine aftU_i (runMG (rest := []) (As := [.int (xs (i + 1).toNatClampNeg), .int (xs (i + 2).toNatClampNeg), .int (xs (i + 3).toNatClampNeg)]) hx hb hml hown htb (U_X9_terms l D E qm (xs (i + 1).toNatClampNeg) (xs (i + 2).toNatClampNeg) (xs (i + 3).toNatClampNeg) _ zm hIm) ok_X9_terms k_1283 k_1284 k_1285 k_9 k_1286 ⟨(Nat.le_of_ble_eq_true rfl), (Nat.le_of_ble_eq_true rfl)⟩ ⟨(show (123 + 5 * k) + 0 + 0 ≤ 600000 by omega), (show (44666 + 1604 * k) + 0 + 0 ≤ 7302250 by omega)⟩ hl.1 (Nat.le_of_ble_eq_true rfl) rfl rfl dL_law_783 (pmU List.perm_append_comm hP hD hK (rP hP) rfl rfl 0 rfl)) List.perm_append_comm hP hD hS hA (fun r_4 zs_6 H locs hw_5 hP hD hS => ?_)
  have hP := sw_P hP; have hD := sw_D hD
  obtain ⟨hIm, hw_5_0⟩ := hw_5
  refine lv_pop hx hb dL_law_786 rfl ?_
  refine lv_goto (tgt := 1550) hx hb dL_law_787 (by decide) ?_
  refine W.widen (k := (123 + 5 * k) + 5) (n := (44666 + 1604 * k) + 1604) (by omega) (by omega) ?_
  exact next zs_3 zs_6 _ _ _ ⟨hIx, hIm, (TR_kp hTR (KP_X8_terms hw_2_0) (KP_X9_terms hw_5_0) (KQ_X9_terms hw_5_0)), ⟨(TR2_k hT2.1 (K2_X8_terms hw_2_0) (K2_X9_terms hw_5_0)), (TT_k hT2.2.1 (K3_X8_terms hw_2_0) (K3_X9_terms hw_5_0)), (TU_k hT2.2.2 (K4_X8_terms hw_2_0) (K4_X9_terms hw_5_0))⟩, (TV_k hTV (K5_X8_terms hw_2_0) (K5_X9_terms hw_5_0))⟩ hP hD hS (lv_sub hl [0, 1, 2, 3] rfl)
set_option maxHeartbeats 4000000 in
set_option maxRecDepth 100000 in
theorem law_16 {p : Program} {l : Launch} {e : Env} {s : State} {m : MethodId} {below : List Frame} {meth : Method} {c : Code} {D : va_G} {E : Nat → Nat} {b L : Nat} {xs : Nat → Int32} (hx : p.tables.exec = Jvm.exec) (hb : c.code = code) (hr : meth.sig.returnType = ret) (hml : c.maxLocals = 4) (hown : s.vm.findClass R_law = some m.cls) (htb : ∀ w ∈ tb, w.before #[Value.ref b] s = true) (hK : KX D E s) (hG : SGs [((E 6), (E 8), 60, tw6), ((E 7), (E 9), 35, tw7)] (fun q : Nat => s.heap.size ≤ q) s s.heap) (hX : va_X b L xs s s.heap) (hL : L ≤ 3072) (hbl : b < s.heap.size) (hlocks : meth.locks = false) {qx qm k : Nat} {i : Int32} (hk : k ≤ 512) (hi : i.toInt = 6 * (k : Int)) (hiL : i.toInt + 6 ≤ (L : Int)) {zx : XS} {zm : MS} {H : Heap} {locs : List Loc} {ls : Array Slot} (hI : LI zx zm) (hP : va_P D vwCl (XW E qx zx ++ MW E qm zm) H) (hD : va_D (fun q : Nat => s.heap.size ≤ q) (XW E qx zx ++ MW E qm zm)) (hS : va_S (fun q : Nat => s.heap.size ≤ q) s.heap H locs) (hl : lv_has ls 4 [(3, .int i), (2, .ref qm), (1, .ref qx), (0, .ref b)]) (next : ∀ (zx : XS) (zm : MS) (H : Heap) (locs : List Loc) (ls : Array Slot), LI zx zm → va_P D vwCl (XW E qx zx ++ MW E qm zm) H → va_D (fun q : Nat => s.heap.size ≤ q) (XW E qx zx ++ MW E qm zm) → va_S (fun q : Nat => s.heap.size ≤ q) s.heap H locs → lv_has ls 4 [(3, .int i), (2, .ref qm), (1, .ref qx), (0, .ref b)] → W p l e room_1 s m #[Value.ref b] below meth c H locs ((123 + 5 * k) + 5) ((44666 + 1604 * k) + 1604) (lw_Z below #[Value.ref b] s) (F0 m 1550 ls [])) : W p l e room_1 s m #[Value.ref b] below meth c H locs (123 + 5 * k) (44666 + 1604 * k) (lw_Z below #[Value.ref b] s) (F0 m 790 ls []) := by
  have hA : ∀ q : Nat, s.heap.size ≤ q → (fun q : Nat => s.heap.size ≤ q) q := fun _ h => h
  have hbA : ¬ (fun q : Nat => s.heap.size ≤ q) b := Nat.not_le.mpr hbl
  obtain ⟨hIx, hIm, hTR, hT2, hTV⟩ := hI
  have hI0 := hIx; have hM0 := hIm
  refine lv_aload_n hx hb dL_law_790 rfl (lv_at hl 2 rfl) ?_
  refine lv_aload_n hx hb dL_law_791 rfl (lv_at hl 3 rfl) ?_
  refine lv_iload_n hx hb dL_law_792 rfl (lv_at hl 0 rfl) ?_
  refine lv_iconst (v := 1) hx hb dL_law_793 (by decide) ?_
  refine lv_iadd hx hb dL_law_794 ?_
  refine va_sld hx hb hX hbl hbA hS (sc_in (by omega) t_1 (by omega) (by omega) (by omega)) dL_law_795 ?_
  refine lv_aload_n hx hb dL_law_796 rfl (lv_at hl 3 rfl) ?_
  refine lv_iload_n hx hb dL_law_797 rfl (lv_at hl 0 rfl) ?_
  refine lv_iconst (v := 2) hx hb dL_law_798 (by decide) ?_
  refine lv_iadd hx hb dL_law_799 ?_
  refine va_sld hx hb hX hbl hbA hS (sc_in (by omega) t_2 (by omega) (by omega) (by omega)) dL_law_800 ?_
  refine lv_aload_n hx hb dL_law_801 rfl (lv_at hl 3 rfl) ?_
  refine lv_iload_n hx hb dL_law_802 rfl (lv_at hl 0 rfl) ?_
  refine lv_iconst (v := 3) hx hb dL_law_803 (by decide) ?_
  refine lv_iadd hx hb dL_law_804 ?_
  refine va_sld hx hb hX hbl hbA hS (sc_in (by omega) t_3 (by omega) (by omega) (by omega)) dL_law_805 ?_
  refine lv_aload_n hx hb dL_law_806 rfl (lv_at hl 3 rfl) ?_
  refine lv_iload_n hx hb dL_law_807 rfl (lv_at hl 0 rfl) ?_
  refine lv_iconst (v := 4) hx hb dL_law_808 (by decide) ?_
  refine lv_iadd hx hb dL_law_809 ?_
  refine va_sld hx hb hX hbl hbA hS (sc_in (by omega) t_4 (by omega) (by omega) (by omega)) dL_law_810 ?_
  refine lv_aload_n hx hb dL_law_811 rfl (lv_at hl 3 rfl) ?_
  refine lv_iload_n hx hb dL_law_812 rfl (lv_at hl 0 rfl) ?_
  refine lv_iconst (v := 5) hx hb dL_law_813 (by decide) ?_
  refine lv_iadd hx hb dL_law_814 ?_
  refine va_sld hx hb hX hbl hbA hS (sc_in (by omega) t_5 (by omega) (by omega) (by omega)) dL_law_815 ?_
  refine aftU_i (runMG (rest := []) (As := [.int (xs (i + 1).toNatClampNeg), .int (xs (i + 2).toNatClampNeg), .int (xs (i + 3).toNatClampNeg), .int (xs (i + 4).toNatClampNeg), .int (xs (i + 5).toNatClampNeg)]) hx hb hml hown htb (U_X8_foretold l D E qx (xs (i + 1).toNatClampNeg) (xs (i + 2).toNatClampNeg) (xs (i + 3).toNatClampNeg) (xs (i + 4).toNatClampNeg) (xs (i + 5).toNatClampNeg) _ zx hIx) ok_X8_foretold k_533 k_534 k_535 k_1 k_536 ⟨(Nat.le_of_ble_eq_true rfl), (Nat.le_of_ble_eq_true rfl)⟩ ⟨(show (123 + 5 * k) + 0 ≤ 600000 by omega), (show (44666 + 1604 * k) + 0 ≤ 7302250 by omega)⟩ hl.1 (Nat.le_of_ble_eq_true rfl) rfl rfl dL_law_816 (pmU (List.Perm.refl _) hP hD hK (XW_c (lP hP)) rfl rfl 0 rfl)) (List.Perm.refl _) hP hD hS hA (fun r_1 zs_3 H locs hw_2 hP hD hS => ?_)
  obtain ⟨hIx, hw_2_0⟩ := hw_2
  refine lv_pop hx hb dL_law_819 rfl ?_
  refine lv_aload_n hx hb dL_law_820 rfl (lv_at hl 1 rfl) ?_
  refine lv_aload_n hx hb dL_law_821 rfl (lv_at hl 3 rfl) ?_
  refine lv_iload_n hx hb dL_law_822 rfl (lv_at hl 0 rfl) ?_
  refine lv_iconst (v := 1) hx hb dL_law_823 (by decide) ?_
  refine lv_iadd hx hb dL_law_824 ?_
  refine va_sld hx hb hX hbl hbA hS (sc_in (by omega) t_1 (by omega) (by omega) (by omega)) dL_law_825 ?_
  refine lv_aload_n hx hb dL_law_826 rfl (lv_at hl 3 rfl) ?_
  refine lv_iload_n hx hb dL_law_827 rfl (lv_at hl 0 rfl) ?_
  refine lv_iconst (v := 2) hx hb dL_law_828 (by decide) ?_
  refine lv_iadd hx hb dL_law_829 ?_
  refine va_sld hx hb hX hbl hbA hS (sc_in (by omega) t_2 (by omega) (by omega) (by omega)) dL_law_830 ?_
  refine lv_aload_n hx hb dL_law_831 rfl (lv_at hl 3 rfl) ?_
  refine lv_iload_n hx hb dL_law_832 rfl (lv_at hl 0 rfl) ?_
  refine lv_iconst (v := 3) hx hb dL_law_833 (by decide) ?_
  refine lv_iadd hx hb dL_law_834 ?_
  refine va_sld hx hb hX hbl hbA hS (sc_in (by omega) t_3 (by omega) (by omega) (by omega)) dL_law_835 ?_
  refine lv_aload_n hx hb dL_law_836 rfl (lv_at hl 3 rfl) ?_
  refine lv_iload_n hx hb dL_law_837 rfl (lv_at hl 0 rfl) ?_
  refine lv_iconst (v := 4) hx hb dL_law_838 (by decide) ?_
  refine lv_iadd hx hb dL_law_839 ?_
  refine va_sld hx hb hX hbl hbA hS (sc_in (by omega) t_4 (by omega) (by omega) (by omega)) dL_law_840 ?_
  refine lv_aload_n hx hb dL_law_841 rfl (lv_at hl 3 rfl) ?_
  refine lv_iload_n hx hb dL_law_842 rfl (lv_at hl 0 rfl) ?_
  refine lv_iconst (v := 5) hx hb dL_law_843 (by decide) ?_
  refine lv_iadd hx hb dL_law_844 ?_
  refine va_sld hx hb hX hbl hbA hS (sc_in (by omega) t_5 (by omega) (by omega) (by omega)) dL_law_845 ?_
  refine aftU_i (runMG (rest := []) (As := [.int (xs (i + 1).toNatClampNeg), .int (xs (i + 2).toNatClampNeg), .int (xs (i + 3).toNatClampNeg), .int (xs (i + 4).toNatClampNeg), .int (xs (i + 5).toNatClampNeg)]) hx hb hml hown htb (U_X9_foretold l D E qm (xs (i + 1).toNatClampNeg) (xs (i + 2).toNatClampNeg) (xs (i + 3).toNatClampNeg) (xs (i + 4).toNatClampNeg) (xs (i + 5).toNatClampNeg) _ zm hIm) ok_X9_foretold k_1299 k_1300 k_1301 k_9 k_1302 ⟨(Nat.le_of_ble_eq_true rfl), (Nat.le_of_ble_eq_true rfl)⟩ ⟨(show (123 + 5 * k) + 0 + 0 ≤ 600000 by omega), (show (44666 + 1604 * k) + 0 + 0 ≤ 7302250 by omega)⟩ hl.1 (Nat.le_of_ble_eq_true rfl) rfl rfl dL_law_846 (pmU List.perm_append_comm hP hD hK (rP hP) rfl rfl 0 rfl)) List.perm_append_comm hP hD hS hA (fun r_4 zs_6 H locs hw_5 hP hD hS => ?_)
  have hP := sw_P hP; have hD := sw_D hD
  obtain ⟨hIm, hw_5_0⟩ := hw_5
  refine lv_pop hx hb dL_law_849 rfl ?_
  refine lv_goto (tgt := 1550) hx hb dL_law_850 (by decide) ?_
  refine W.widen (k := (123 + 5 * k) + 5) (n := (44666 + 1604 * k) + 1604) (by omega) (by omega) ?_
  exact next zs_3 zs_6 _ _ _ ⟨hIx, hIm, (TR_kp hTR (KP_X8_foretold hw_2_0) (KP_X9_foretold hw_5_0) (KQ_X9_foretold hw_5_0)), ⟨(TR2_k hT2.1 (K2_X8_foretold hw_2_0) (K2_X9_foretold hw_5_0)), (TT_k hT2.2.1 (K3_X8_foretold hw_2_0) (K3_X9_foretold hw_5_0)), (TU_k hT2.2.2 (K4_X8_foretold hw_2_0) (K4_X9_foretold hw_5_0))⟩, (TV_k hTV (K5_X8_foretold hw_2_0) (K5_X9_foretold hw_5_0))⟩ hP hD hS (lv_sub hl [0, 1, 2, 3] rfl)
set_option maxHeartbeats 4000000 in
set_option maxRecDepth 100000 in
theorem law_17 {p : Program} {l : Launch} {e : Env} {s : State} {m : MethodId} {below : List Frame} {meth : Method} {c : Code} {D : va_G} {E : Nat → Nat} {b L : Nat} {xs : Nat → Int32} (hx : p.tables.exec = Jvm.exec) (hb : c.code = code) (hr : meth.sig.returnType = ret) (hml : c.maxLocals = 4) (hown : s.vm.findClass R_law = some m.cls) (htb : ∀ w ∈ tb, w.before #[Value.ref b] s = true) (hK : KX D E s) (hG : SGs [((E 6), (E 8), 60, tw6), ((E 7), (E 9), 35, tw7)] (fun q : Nat => s.heap.size ≤ q) s s.heap) (hX : va_X b L xs s s.heap) (hL : L ≤ 3072) (hbl : b < s.heap.size) (hlocks : meth.locks = false) {qx qm k : Nat} {i : Int32} (hk : k ≤ 512) (hi : i.toInt = 6 * (k : Int)) (hiL : i.toInt + 6 ≤ (L : Int)) {zx : XS} {zm : MS} {H : Heap} {locs : List Loc} {ls : Array Slot} (hI : LI zx zm) (hP : va_P D vwCl (XW E qx zx ++ MW E qm zm) H) (hD : va_D (fun q : Nat => s.heap.size ≤ q) (XW E qx zx ++ MW E qm zm)) (hS : va_S (fun q : Nat => s.heap.size ≤ q) s.heap H locs) (hl : lv_has ls 4 [(3, .int i), (2, .ref qm), (1, .ref qx), (0, .ref b)]) (next : ∀ (zx : XS) (zm : MS) (H : Heap) (locs : List Loc) (ls : Array Slot), LI zx zm → va_P D vwCl (XW E qx zx ++ MW E qm zm) H → va_D (fun q : Nat => s.heap.size ≤ q) (XW E qx zx ++ MW E qm zm) → va_S (fun q : Nat => s.heap.size ≤ q) s.heap H locs → lv_has ls 4 [(3, .int i), (2, .ref qm), (1, .ref qx), (0, .ref b)] → W p l e room_1 s m #[Value.ref b] below meth c H locs ((123 + 5 * k) + 5) ((44666 + 1604 * k) + 1604) (lw_Z below #[Value.ref b] s) (F0 m 1550 ls [])) : W p l e room_1 s m #[Value.ref b] below meth c H locs (123 + 5 * k) (44666 + 1604 * k) (lw_Z below #[Value.ref b] s) (F0 m 853 ls []) := by
  have hA : ∀ q : Nat, s.heap.size ≤ q → (fun q : Nat => s.heap.size ≤ q) q := fun _ h => h
  have hbA : ¬ (fun q : Nat => s.heap.size ≤ q) b := Nat.not_le.mpr hbl
  obtain ⟨hIx, hIm, hTR, hT2, hTV⟩ := hI
  have hI0 := hIx; have hM0 := hIm
  refine lv_aload_n hx hb dL_law_853 rfl (lv_at hl 2 rfl) ?_
  refine lv_aload_n hx hb dL_law_854 rfl (lv_at hl 3 rfl) ?_
  refine lv_iload_n hx hb dL_law_855 rfl (lv_at hl 0 rfl) ?_
  refine lv_iconst (v := 1) hx hb dL_law_856 (by decide) ?_
  refine lv_iadd hx hb dL_law_857 ?_
  refine va_sld hx hb hX hbl hbA hS (sc_in (by omega) t_1 (by omega) (by omega) (by omega)) dL_law_858 ?_
  refine lv_aload_n hx hb dL_law_859 rfl (lv_at hl 3 rfl) ?_
  refine lv_iload_n hx hb dL_law_860 rfl (lv_at hl 0 rfl) ?_
  refine lv_iconst (v := 2) hx hb dL_law_861 (by decide) ?_
  refine lv_iadd hx hb dL_law_862 ?_
  refine va_sld hx hb hX hbl hbA hS (sc_in (by omega) t_2 (by omega) (by omega) (by omega)) dL_law_863 ?_
  refine lv_aload_n hx hb dL_law_864 rfl (lv_at hl 3 rfl) ?_
  refine lv_iload_n hx hb dL_law_865 rfl (lv_at hl 0 rfl) ?_
  refine lv_iconst (v := 3) hx hb dL_law_866 (by decide) ?_
  refine lv_iadd hx hb dL_law_867 ?_
  refine va_sld hx hb hX hbl hbA hS (sc_in (by omega) t_3 (by omega) (by omega) (by omega)) dL_law_868 ?_
  refine lv_aload_n hx hb dL_law_869 rfl (lv_at hl 3 rfl) ?_
  refine lv_iload_n hx hb dL_law_870 rfl (lv_at hl 0 rfl) ?_
  refine lv_iconst (v := 4) hx hb dL_law_871 (by decide) ?_
  refine lv_iadd hx hb dL_law_872 ?_
  refine va_sld hx hb hX hbl hbA hS (sc_in (by omega) t_4 (by omega) (by omega) (by omega)) dL_law_873 ?_
  refine aftU_i (runMG (rest := []) (As := [.int (xs (i + 1).toNatClampNeg), .int (xs (i + 2).toNatClampNeg), .int (xs (i + 3).toNatClampNeg), .int (xs (i + 4).toNatClampNeg)]) hx hb hml hown htb (U_X8_jump l D E qx (xs (i + 1).toNatClampNeg) (xs (i + 2).toNatClampNeg) (xs (i + 3).toNatClampNeg) (xs (i + 4).toNatClampNeg) _ zx hIx) ok_X8_jump k_558 k_559 k_560 k_1 k_561 ⟨(Nat.le_of_ble_eq_true rfl), (Nat.le_of_ble_eq_true rfl)⟩ ⟨(show (123 + 5 * k) + 0 ≤ 600000 by omega), (show (44666 + 1604 * k) + 0 ≤ 7302250 by omega)⟩ hl.1 (Nat.le_of_ble_eq_true rfl) rfl rfl dL_law_874 (pmU (List.Perm.refl _) hP hD hK (XW_c (lP hP)) rfl rfl 0 rfl)) (List.Perm.refl _) hP hD hS hA (fun r_1 zs_3 H locs hw_2 hP hD hS => ?_)
  obtain ⟨hIx, hw_2_0⟩ := hw_2
  refine lv_pop hx hb dL_law_877 rfl ?_
  refine lv_aload_n hx hb dL_law_878 rfl (lv_at hl 1 rfl) ?_
  refine lv_aload_n hx hb dL_law_879 rfl (lv_at hl 3 rfl) ?_
  refine lv_iload_n hx hb dL_law_880 rfl (lv_at hl 0 rfl) ?_
  refine lv_iconst (v := 1) hx hb dL_law_881 (by decide) ?_
  refine lv_iadd hx hb dL_law_882 ?_
  refine va_sld hx hb hX hbl hbA hS (sc_in (by omega) t_1 (by omega) (by omega) (by omega)) dL_law_883 ?_
  refine lv_aload_n hx hb dL_law_884 rfl (lv_at hl 3 rfl) ?_
  refine lv_iload_n hx hb dL_law_885 rfl (lv_at hl 0 rfl) ?_
  refine lv_iconst (v := 2) hx hb dL_law_886 (by decide) ?_
  refine lv_iadd hx hb dL_law_887 ?_
  refine va_sld hx hb hX hbl hbA hS (sc_in (by omega) t_2 (by omega) (by omega) (by omega)) dL_law_888 ?_
  refine lv_aload_n hx hb dL_law_889 rfl (lv_at hl 3 rfl) ?_
  refine lv_iload_n hx hb dL_law_890 rfl (lv_at hl 0 rfl) ?_
  refine lv_iconst (v := 3) hx hb dL_law_891 (by decide) ?_
  refine lv_iadd hx hb dL_law_892 ?_
  refine va_sld hx hb hX hbl hbA hS (sc_in (by omega) t_3 (by omega) (by omega) (by omega)) dL_law_893 ?_
  refine lv_aload_n hx hb dL_law_894 rfl (lv_at hl 3 rfl) ?_
  refine lv_iload_n hx hb dL_law_895 rfl (lv_at hl 0 rfl) ?_
  refine lv_iconst (v := 4) hx hb dL_law_896 (by decide) ?_
  refine lv_iadd hx hb dL_law_897 ?_
  refine va_sld hx hb hX hbl hbA hS (sc_in (by omega) t_4 (by omega) (by omega) (by omega)) dL_law_898 ?_
  refine aftU_i (runMG (rest := []) (As := [.int (xs (i + 1).toNatClampNeg), .int (xs (i + 2).toNatClampNeg), .int (xs (i + 3).toNatClampNeg), .int (xs (i + 4).toNatClampNeg)]) hx hb hml hown htb (U_X9_jump l D E qm (xs (i + 1).toNatClampNeg) (xs (i + 2).toNatClampNeg) (xs (i + 3).toNatClampNeg) (xs (i + 4).toNatClampNeg) _ zm hIm) ok_X9_jump k_1318 k_1319 k_1320 k_9 k_1321 ⟨(Nat.le_of_ble_eq_true rfl), (Nat.le_of_ble_eq_true rfl)⟩ ⟨(show (123 + 5 * k) + 0 + 0 ≤ 600000 by omega), (show (44666 + 1604 * k) + 0 + 0 ≤ 7302250 by omega)⟩ hl.1 (Nat.le_of_ble_eq_true rfl) rfl rfl dL_law_899 (pmU List.perm_append_comm hP hD hK (rP hP) rfl rfl 0 rfl)) List.perm_append_comm hP hD hS hA (fun r_4 zs_6 H locs hw_5 hP hD hS => ?_)
  have hP := sw_P hP; have hD := sw_D hD
  obtain ⟨hIm, hw_5_0⟩ := hw_5
  refine lv_pop hx hb dL_law_902 rfl ?_
  refine lv_goto (tgt := 1550) hx hb dL_law_903 (by decide) ?_
  refine W.widen (k := (123 + 5 * k) + 5) (n := (44666 + 1604 * k) + 1604) (by omega) (by omega) ?_
  exact next zs_3 zs_6 _ _ _ ⟨hIx, hIm, (TR_kp hTR (KP_X8_jump hw_2_0) (KP_X9_jump hw_5_0) (KQ_X9_jump hw_5_0)), ⟨(TR2_k hT2.1 (K2_X8_jump hw_2_0) (K2_X9_jump hw_5_0)), (TT_k hT2.2.1 (K3_X8_jump hw_2_0) (K3_X9_jump hw_5_0)), (TU_k hT2.2.2 (K4_X8_jump hw_2_0) (K4_X9_jump hw_5_0))⟩, (TV_k hTV (K5_X8_jump hw_2_0) (K5_X9_jump hw_5_0))⟩ hP hD hS (lv_sub hl [0, 1, 2, 3] rfl)
