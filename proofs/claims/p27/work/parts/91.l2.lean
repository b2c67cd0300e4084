set_option maxHeartbeats 4000000 in
set_option maxRecDepth 100000 in
theorem law_18 {p : Program} {l : Launch} {e : Env} {s : State} {m : MethodId} {below : List Frame} {meth : Method} {c : Code} {D : va_G} {E : Nat → Nat} {b L : Nat} {xs : Nat → Int32} (hx : p.tables.exec = Jvm.exec) (hb : c.code = code) (hr : meth.sig.returnType = ret) (hml : c.maxLocals = 4) (hown : s.vm.findClass R_law = some m.cls) (htb : ∀ w ∈ tb, w.before #[Value.ref b] s = true) (hK : KX D E s) (hG : SGs [((E 6), (E 8), 60, tw6), ((E 7), (E 9), 35, tw7)] (fun q : Nat => s.heap.size ≤ q) s s.heap) (hX : va_X b L xs s s.heap) (hL : L ≤ 3072) (hbl : b < s.heap.size) (hlocks : meth.locks = false) {qx qm k : Nat} {i : Int32} (hk : k ≤ 512) (hi : i.toInt = 6 * (k : Int)) (hiL : i.toInt + 6 ≤ (L : Int)) {zx : XS} {zm : MS} {H : Heap} {locs : List Loc} {ls : Array Slot} (hI : LI zx zm) (hP : va_P D vwCl (XW E qx zx ++ MW E qm zm) H) (hD : va_D (fun q : Nat => s.heap.size ≤ q) (XW E qx zx ++ MW E qm zm)) (hS : va_S (fun q : Nat => s.heap.size ≤ q) s.heap H locs) (hl : lv_has ls 4 [(3, .int i), (2, .ref qm), (1, .ref qx), (0, .ref b)]) (next : ∀ (zx : XS) (zm : MS) (H : Heap) (locs : List Loc) (ls : Array Slot), LI zx zm → va_P D vwCl (XW E qx zx ++ MW E qm zm) H → va_D (fun q : Nat => s.heap.size ≤ q) (XW E qx zx ++ MW E qm zm) → va_S (fun q : Nat => s.heap.size ≤ q) s.heap H locs → lv_has ls 4 [(3, .int i), (2, .ref qm), (1, .ref qx), (0, .ref b)] → W p l e room_1 s m #[Value.ref b] below meth c H locs ((123 + 5 * k) + 5) ((44666 + 1604 * k) + 1604) (lw_Z below #[Value.ref b] s) (F0 m 1550 ls [])) : W p l e room_1 s m #[Value.ref b] below meth c H locs (123 + 5 * k) (44666 + 1604 * k) (lw_Z below #[Value.ref b] s) (F0 m 906 ls []) := by
  have hA : ∀ q : Nat, s.heap.size ≤ q → (fun q : Nat => s.heap.size ≤ q) q := fun _ h => h
  have hbA : ¬ (fun q : Nat => s.heap.size ≤ q) b := Nat.not_le.mpr hbl
  obtain ⟨hIx, hIm, hTR, hT2, hTV⟩ := hI
  have hI0 := hIx; have hM0 := hIm
  refine lv_aload_n hx hb dL_law_906 rfl (lv_at hl 2 rfl) ?_
  refine lv_aload_n hx hb dL_law_907 rfl (lv_at hl 3 rfl) ?_
  refine lv_iload_n hx hb dL_law_908 rfl (lv_at hl 0 rfl) ?_
  refine lv_iconst (v := 1) hx hb dL_law_909 (by decide) ?_
  refine lv_iadd hx hb dL_law_910 ?_
  refine va_sld hx hb hX hbl hbA hS (sc_in (by omega) t_1 (by omega) (by omega) (by omega)) dL_law_911 ?_
  refine lv_aload_n hx hb dL_law_912 rfl (lv_at hl 3 rfl) ?_
  refine lv_iload_n hx hb dL_law_913 rfl (lv_at hl 0 rfl) ?_
  refine lv_iconst (v := 2) hx hb dL_law_914 (by decide) ?_
  refine lv_iadd hx hb dL_law_915 ?_
  refine va_sld hx hb hX hbl hbA hS (sc_in (by omega) t_2 (by omega) (by omega) (by omega)) dL_law_916 ?_
  refine aftU_i (runMG (rest := []) (As := [.int (xs (i + 1).toNatClampNeg), .int (xs (i + 2).toNatClampNeg)]) hx hb hml hown htb (U_X8_feed l D E qx (xs (i + 1).toNatClampNeg) (xs (i + 2).toNatClampNeg) _ zx hIx) ok_X8_feed k_573 k_574 k_575 k_1 k_576 ⟨(Nat.le_of_ble_eq_true rfl), (Nat.le_of_ble_eq_true rfl)⟩ ⟨(show (123 + 5 * k) + 0 ≤ 600000 by omega), (show (44666 + 1604 * k) + 0 ≤ 7302250 by omega)⟩ hl.1 (Nat.le_of_ble_eq_true rfl) rfl rfl dL_law_917 (pmU (List.Perm.refl _) hP hD hK (XW_c (lP hP)) rfl rfl 0 rfl)) (List.Perm.refl _) hP hD hS hA (fun r_1 zs_3 H locs hw_2 hP hD hS => ?_)
  obtain ⟨hIx, hw_2_0⟩ := hw_2
  refine lv_pop hx hb dL_law_920 rfl ?_
  refine lv_aload_n hx hb dL_law_921 rfl (lv_at hl 1 rfl) ?_
  refine lv_aload_n hx hb dL_law_922 rfl (lv_at hl 3 rfl) ?_
  refine lv_iload_n hx hb dL_law_923 rfl (lv_at hl 0 rfl) ?_
  refine lv_iconst (v := 1) hx hb dL_law_924 (by decide) ?_
  refine lv_iadd hx hb dL_law_925 ?_
  refine va_sld hx hb hX hbl hbA hS (sc_in (by omega) t_1 (by omega) (by omega) (by omega)) dL_law_926 ?_
  refine lv_aload_n hx hb dL_law_927 rfl (lv_at hl 3 rfl) ?_
  refine lv_iload_n hx hb dL_law_928 rfl (lv_at hl 0 rfl) ?_
  refine lv_iconst (v := 2) hx hb dL_law_929 (by decide) ?_
  refine lv_iadd hx hb dL_law_930 ?_
  refine va_sld hx hb hX hbl hbA hS (sc_in (by omega) t_2 (by omega) (by omega) (by omega)) dL_law_931 ?_
  refine aftU_i (runMG (rest := []) (As := [.int (xs (i + 1).toNatClampNeg), .int (xs (i + 2).toNatClampNeg)]) hx hb hml hown htb (U_X9_feed l D E qm (xs (i + 1).toNatClampNeg) (xs (i + 2).toNatClampNeg) _ zm hIm) ok_X9_feed k_1326 k_1327 k_1328 k_9 k_1329 ⟨(Nat.le_of_ble_eq_true rfl), (Nat.le_of_ble_eq_true rfl)⟩ ⟨(show (123 + 5 * k) + 0 + 0 ≤ 600000 by omega), (show (44666 + 1604 * k) + 0 + 0 ≤ 7302250 by omega)⟩ hl.1 (Nat.le_of_ble_eq_true rfl) rfl rfl dL_law_932 (pmU List.perm_append_comm hP hD hK (rP hP) rfl rfl 0 rfl)) List.perm_append_comm hP hD hS hA (fun r_4 zs_6 H locs hw_5 hP hD hS => ?_)
  have hP := sw_P hP; have hD := sw_D hD
  obtain ⟨hIm, hw_5_0⟩ := hw_5
  refine lv_pop hx hb dL_law_935 rfl ?_
  refine lv_goto (tgt := 1550) hx hb dL_law_936 (by decide) ?_
  refine W.widen (k := (123 + 5 * k) + 5) (n := (44666 + 1604 * k) + 1604) (by omega) (by omega) ?_
  exact next zs_3 zs_6 _ _ _ ⟨hIx, hIm, (ST_feed hI0 hTR hw_2_0 hw_5_0), ⟨(TR2_k hT2.1 (K2_X8_feed hw_2_0) (K2_X9_feed hw_5_0)), (ST3_feed hI0 hTR hT2.2.1 hw_2_0 hw_5_0), (TU_k hT2.2.2 (K4_X8_feed hw_2_0) (K4_X9_feed hw_5_0))⟩, (TV_k hTV (K5_X8_feed hw_2_0) (K5_X9_feed hw_5_0))⟩ hP hD hS (lv_sub hl [0, 1, 2, 3] rfl)
set_option maxHeartbeats 4000000 in
set_option maxRecDepth 100000 in
theorem law_19 {p : Program} {l : Launch} {e : Env} {s : State} {m : MethodId} {below : List Frame} {meth : Method} {c : Code} {D : va_G} {E : Nat → Nat} {b L : Nat} {xs : Nat → Int32} (hx : p.tables.exec = Jvm.exec) (hb : c.code = code) (hr : meth.sig.returnType = ret) (hml : c.maxLocals = 4) (hown : s.vm.findClass R_law = some m.cls) (htb : ∀ w ∈ tb, w.before #[Value.ref b] s = true) (hK : KX D E s) (hG : SGs [((E 6), (E 8), 60, tw6), ((E 7), (E 9), 35, tw7)] (fun q : Nat => s.heap.size ≤ q) s s.heap) (hX : va_X b L xs s s.heap) (hL : L ≤ 3072) (hbl : b < s.heap.size) (hlocks : meth.locks = false) {qx qm k : Nat} {i : Int32} (hk : k ≤ 512) (hi : i.toInt = 6 * (k : Int)) (hiL : i.toInt + 6 ≤ (L : Int)) {zx : XS} {zm : MS} {H : Heap} {locs : List Loc} {ls : Array Slot} (hI : LI zx zm) (hP : va_P D vwCl (XW E qx zx ++ MW E qm zm) H) (hD : va_D (fun q : Nat => s.heap.size ≤ q) (XW E qx zx ++ MW E qm zm)) (hS : va_S (fun q : Nat => s.heap.size ≤ q) s.heap H locs) (hl : lv_has ls 4 [(3, .int i), (2, .ref qm), (1, .ref qx), (0, .ref b)]) (next : ∀ (zx : XS) (zm : MS) (H : Heap) (locs : List Loc) (ls : Array Slot), LI zx zm → va_P D vwCl (XW E qx zx ++ MW E qm zm) H → va_D (fun q : Nat => s.heap.size ≤ q) (XW E qx zx ++ MW E qm zm) → va_S (fun q : Nat => s.heap.size ≤ q) s.heap H locs → lv_has ls 4 [(3, .int i), (2, .ref qm), (1, .ref qx), (0, .ref b)] → W p l e room_1 s m #[Value.ref b] below meth c H locs ((123 + 5 * k) + 5) ((44666 + 1604 * k) + 1604) (lw_Z below #[Value.ref b] s) (F0 m 1550 ls [])) : W p l e room_1 s m #[Value.ref b] below meth c H locs (123 + 5 * k) (44666 + 1604 * k) (lw_Z below #[Value.ref b] s) (F0 m 939 ls []) := by
  have hA : ∀ q : Nat, s.heap.size ≤ q → (fun q : Nat => s.heap.size ≤ q) q := fun _ h => h
  have hbA : ¬ (fun q : Nat => s.heap.size ≤ q) b := Nat.not_le.mpr hbl
  obtain ⟨hIx, hIm, hTR, hT2, hTV⟩ := hI
  have hI0 := hIx; have hM0 := hIm
  refine lv_aload_n hx hb dL_law_939 rfl (lv_at hl 2 rfl) ?_
  refine lv_aload_n hx hb dL_law_940 rfl (lv_at hl 3 rfl) ?_
  refine lv_iload_n hx hb dL_law_941 rfl (lv_at hl 0 rfl) ?_
  refine lv_iconst (v := 1) hx hb dL_law_942 (by decide) ?_
  refine lv_iadd hx hb dL_law_943 ?_
  refine va_sld hx hb hX hbl hbA hS (sc_in (by omega) t_1 (by omega) (by omega) (by omega)) dL_law_944 ?_
  refine aftU_i (runMG (rest := []) (As := [.int (xs (i + 1).toNatClampNeg)]) hx hb hml hown htb (U_X8_rule l D E qx (xs (i + 1).toNatClampNeg) _ zx hIx) ok_X8_rule k_581 k_582 k_583 k_1 k_584 ⟨(Nat.le_of_ble_eq_true rfl), (Nat.le_of_ble_eq_true rfl)⟩ ⟨(show (123 + 5 * k) + 0 ≤ 600000 by omega), (show (44666 + 1604 * k) + 0 ≤ 7302250 by omega)⟩ hl.1 (Nat.le_of_ble_eq_true rfl) rfl rfl dL_law_945 (pmUS (List.Perm.refl _) hP hD hK (XW_c (lP hP)) rfl rfl 0 rfl hG hS hA)) (List.Perm.refl _) hP hD hS hA (fun r_1 zs_3 H locs hw_2 hP hD hS => ?_)
  obtain ⟨hIx, hw_2_0⟩ := hw_2
  refine lv_pop hx hb dL_law_948 rfl ?_
  refine lv_aload_n hx hb dL_law_949 rfl (lv_at hl 1 rfl) ?_
  refine lv_aload_n hx hb dL_law_950 rfl (lv_at hl 3 rfl) ?_
  refine lv_iload_n hx hb dL_law_951 rfl (lv_at hl 0 rfl) ?_
  refine lv_iconst (v := 1) hx hb dL_law_952 (by decide) ?_
  refine lv_iadd hx hb dL_law_953 ?_
  refine va_sld hx hb hX hbl hbA hS (sc_in (by omega) t_1 (by omega) (by omega) (by omega)) dL_law_954 ?_
  refine aftU_i (runMG (rest := []) (As := [.int (xs (i + 1).toNatClampNeg)]) hx hb hml hown htb (U_X9_rule l D E qm (xs (i + 1).toNatClampNeg) _ zm hIm) ok_X9_rule k_1330 k_1331 k_1332 k_9 k_1333 ⟨(Nat.le_of_ble_eq_true rfl), (Nat.le_of_ble_eq_true rfl)⟩ ⟨(show (123 + 5 * k) + 0 + 0 ≤ 600000 by omega), (show (44666 + 1604 * k) + 0 + 0 ≤ 7302250 by omega)⟩ hl.1 (Nat.le_of_ble_eq_true rfl) rfl rfl dL_law_955 (pmU List.perm_append_comm hP hD hK (rP hP) rfl rfl 0 rfl)) List.perm_append_comm hP hD hS hA (fun r_4 zs_6 H locs hw_5 hP hD hS => ?_)
  have hP := sw_P hP; have hD := sw_D hD
  obtain ⟨hIm, hw_5_0⟩ := hw_5
  refine lv_pop hx hb dL_law_958 rfl ?_
  refine lv_goto (tgt := 1550) hx hb dL_law_959 (by decide) ?_
  refine W.widen (k := (123 + 5 * k) + 5) (n := (44666 + 1604 * k) + 1604) (by omega) (by omega) ?_
  exact next zs_3 zs_6 _ _ _ ⟨hIx, hIm, (ST_rule hI0 hTR hw_2_0 hw_5_0), ⟨(TR2_k hT2.1 (K2_X8_rule hw_2_0) (K2_X9_rule hw_5_0)), (ST3_rule hI0 hTR hT2.2.1 hw_2_0 hw_5_0), (ST4_rule hI0 hTR hM0 hT2.2.2 hT2.2.1 hw_2_0 hw_5_0)⟩, (TV_k hTV (K5_X8_rule hw_2_0) (K5_X9_rule hw_5_0))⟩ hP hD hS (lv_sub hl [0, 1, 2, 3] rfl)
set_option maxHeartbeats 4000000 in
set_option maxRecDepth 100000 in
theorem law_20 {p : Program} {l : Launch} {e : Env} {s : State} {m : MethodId} {below : List Frame} {meth : Method} {c : Code} {D : va_G} {E : Nat → Nat} {b L : Nat} {xs : Nat → Int32} (hx : p.tables.exec = Jvm.exec) (hb : c.code = code) (hr : meth.sig.returnType = ret) (hml : c.maxLocals = 4) (hown : s.vm.findClass R_law = some m.cls) (htb : ∀ w ∈ tb, w.before #[Value.ref b] s = true) (hK : KX D E s) (hG : SGs [((E 6), (E 8), 60, tw6), ((E 7), (E 9), 35, tw7)] (fun q : Nat => s.heap.size ≤ q) s s.heap) (hX : va_X b L xs s s.heap) (hL : L ≤ 3072) (hbl : b < s.heap.size) (hlocks : meth.locks = false) {qx qm k : Nat} {i : Int32} (hk : k ≤ 512) (hi : i.toInt = 6 * (k : Int)) (hiL : i.toInt + 6 ≤ (L : Int)) {zx : XS} {zm : MS} {H : Heap} {locs : List Loc} {ls : Array Slot} (hI : LI zx zm) (hP : va_P D vwCl (XW E qx zx ++ MW E qm zm) H) (hD : va_D (fun q : Nat => s.heap.size ≤ q) (XW E qx zx ++ MW E qm zm)) (hS : va_S (fun q : Nat => s.heap.size ≤ q) s.heap H locs) (hl : lv_has ls 4 [(3, .int i), (2, .ref qm), (1, .ref qx), (0, .ref b)]) (next : ∀ (zx : XS) (zm : MS) (H : Heap) (locs : List Loc) (ls : Array Slot), LI zx zm → va_P D vwCl (XW E qx zx ++ MW E qm zm) H → va_D (fun q : Nat => s.heap.size ≤ q) (XW E qx zx ++ MW E qm zm) → va_S (fun q : Nat => s.heap.size ≤ q) s.heap H locs → lv_has ls 4 [(3, .int i), (2, .ref qm), (1, .ref qx), (0, .ref b)] → W p l e room_1 s m #[Value.ref b] below meth c H locs ((123 + 5 * k) + 5) ((44666 + 1604 * k) + 1604) (lw_Z below #[Value.ref b] s) (F0 m 1550 ls [])) : W p l e room_1 s m #[Value.ref b] below meth c H locs (123 + 5 * k) (44666 + 1604 * k) (lw_Z below #[Value.ref b] s) (F0 m 962 ls []) := by
  have hA : ∀ q : Nat, s.heap.size ≤ q → (fun q : Nat => s.heap.size ≤ q) q := fun _ h => h
  have hbA : ¬ (fun q : Nat => s.heap.size ≤ q) b := Nat.not_le.mpr hbl
  obtain ⟨hIx, hIm, hTR, hT2, hTV⟩ := hI
  have hI0 := hIx; have hM0 := hIm
  refine lv_aload_n hx hb dL_law_962 rfl (lv_at hl 2 rfl) ?_
  refine lv_aload_n hx hb dL_law_963 rfl (lv_at hl 3 rfl) ?_
  refine lv_iload_n hx hb dL_law_964 rfl (lv_at hl 0 rfl) ?_
  refine lv_iconst (v := 1) hx hb dL_law_965 (by decide) ?_
  refine lv_iadd hx hb dL_law_966 ?_
  refine va_sld hx hb hX hbl hbA hS (sc_in (by omega) t_1 (by omega) (by omega) (by omega)) dL_law_967 ?_
  refine lv_aload_n hx hb dL_law_968 rfl (lv_at hl 3 rfl) ?_
  refine lv_iload_n hx hb dL_law_969 rfl (lv_at hl 0 rfl) ?_
  refine lv_iconst (v := 2) hx hb dL_law_970 (by decide) ?_
  refine lv_iadd hx hb dL_law_971 ?_
  refine va_sld hx hb hX hbl hbA hS (sc_in (by omega) t_2 (by omega) (by omega) (by omega)) dL_law_972 ?_
  refine lv_aload_n hx hb dL_law_973 rfl (lv_at hl 3 rfl) ?_
  refine lv_iload_n hx hb dL_law_974 rfl (lv_at hl 0 rfl) ?_
  refine lv_iconst (v := 3) hx hb dL_law_975 (by decide) ?_
  refine lv_iadd hx hb dL_law_976 ?_
  refine va_sld hx hb hX hbl hbA hS (sc_in (by omega) t_3 (by omega) (by omega) (by omega)) dL_law_977 ?_
  refine aftU_i (runMG (rest := []) (As := [.int (xs (i + 1).toNatClampNeg), .int (xs (i + 2).toNatClampNeg), .int (xs (i + 3).toNatClampNeg)]) hx hb hml hown htb (U_X8_trial l D E qx (xs (i + 1).toNatClampNeg) (xs (i + 2).toNatClampNeg) (xs (i + 3).toNatClampNeg) _ zx hIx) ok_X8_trial k_708 k_709 k_710 k_1 k_711 ⟨(Nat.le_of_ble_eq_true rfl), (Nat.le_of_ble_eq_true rfl)⟩ ⟨(show (123 + 5 * k) + 0 ≤ 600000 by omega), (show (44666 + 1604 * k) + 0 ≤ 7302250 by omega)⟩ hl.1 (Nat.le_of_ble_eq_true rfl) rfl rfl dL_law_978 (pmU (List.Perm.refl _) hP hD hK (XW_c (lP hP)) rfl rfl 0 rfl)) (List.Perm.refl _) hP hD hS hA (fun r_1 zs_3 H locs hw_2 hP hD hS => ?_)
  obtain ⟨hIx, hw_2_0⟩ := hw_2
  refine lv_pop hx hb dL_law_981 rfl ?_
  refine lv_aload_n hx hb dL_law_982 rfl (lv_at hl 1 rfl) ?_
  refine lv_aload_n hx hb dL_law_983 rfl (lv_at hl 3 rfl) ?_
  refine lv_iload_n hx hb dL_law_984 rfl (lv_at hl 0 rfl) ?_
  refine lv_iconst (v := 1) hx hb dL_law_985 (by decide) ?_
  refine lv_iadd hx hb dL_law_986 ?_
  refine va_sld hx hb hX hbl hbA hS (sc_in (by omega) t_1 (by omega) (by omega) (by omega)) dL_law_987 ?_
  refine lv_aload_n hx hb dL_law_988 rfl (lv_at hl 3 rfl) ?_
  refine lv_iload_n hx hb dL_law_989 rfl (lv_at hl 0 rfl) ?_
  refine lv_iconst (v := 2) hx hb dL_law_990 (by decide) ?_
  refine lv_iadd hx hb dL_law_991 ?_
  refine va_sld hx hb hX hbl hbA hS (sc_in (by omega) t_2 (by omega) (by omega) (by omega)) dL_law_992 ?_
  refine lv_aload_n hx hb dL_law_993 rfl (lv_at hl 3 rfl) ?_
  refine lv_iload_n hx hb dL_law_994 rfl (lv_at hl 0 rfl) ?_
  refine lv_iconst (v := 3) hx hb dL_law_995 (by decide) ?_
  refine lv_iadd hx hb dL_law_996 ?_
  refine va_sld hx hb hX hbl hbA hS (sc_in (by omega) t_3 (by omega) (by omega) (by omega)) dL_law_997 ?_
  refine aftU_i (runMG (rest := []) (As := [.int (xs (i + 1).toNatClampNeg), .int (xs (i + 2).toNatClampNeg), .int (xs (i + 3).toNatClampNeg)]) hx hb hml hown htb (U_X9_trial l D E qm (xs (i + 1).toNatClampNeg) (xs (i + 2).toNatClampNeg) (xs (i + 3).toNatClampNeg) _ zm hIm) ok_X9_trial k_1387 k_1388 k_1389 k_9 k_1390 ⟨(Nat.le_of_ble_eq_true rfl), (Nat.le_of_ble_eq_true rfl)⟩ ⟨(show (123 + 5 * k) + 0 + 0 ≤ 600000 by omega), (show (44666 + 1604 * k) + 0 + 0 ≤ 7302250 by omega)⟩ hl.1 (Nat.le_of_ble_eq_true rfl) rfl rfl dL_law_998 (pmU List.perm_append_comm hP hD hK (rP hP) rfl rfl 0 rfl)) List.perm_append_comm hP hD hS hA (fun r_4 zs_6 H locs hw_5 hP hD hS => ?_)
  have hP := sw_P hP; have hD := sw_D hD
  obtain ⟨hIm, hw_5_0⟩ := hw_5
  refine lv_pop hx hb dL_law_1001 rfl ?_
  refine lv_goto (tgt := 1550) hx hb dL_law_1002 (by decide) ?_
  refine W.widen (k := (123 + 5 * k) + 5) (n := (44666 + 1604 * k) + 1604) (by omega) (by omega) ?_
  exact next zs_3 zs_6 _ _ _ ⟨hIx, hIm, (TR_kp hTR (KP_X8_trial hw_2_0) (KP_X9_trial hw_5_0) (KQ_X9_trial hw_5_0)), ⟨(TR2_k hT2.1 (K2_X8_trial hw_2_0) (K2_X9_trial hw_5_0)), (TT_k hT2.2.1 (K3_X8_trial hw_2_0) (K3_X9_trial hw_5_0)), (TU_k hT2.2.2 (K4_X8_trial hw_2_0) (K4_X9_trial hw_5_0))⟩, (TV_k hTV (K5_X8_trial hw_2_0) (K5_X9_trial hw_5_0))⟩ hP hD hS (lv_sub hl [0, 1, 2, 3] rfl)
set_option maxHeartbeats 4000000 in
set_option maxRecDepth 100000 in
theorem law_21 {p : Program} {l : Launch} {e : Env} {s : State} {m : MethodId} {below : List Frame} {meth : Method} {c : Code} {D : va_G} {E : Nat → Nat} {b L : Nat} {xs : Nat → Int32} (hx : p.tables.exec = Jvm.exec) (hb : c.code = code) (hr : meth.sig.returnType = ret) (hml : c.maxLocals = 4) (hown : s.vm.findClass R_law = some m.cls) (htb : ∀ w ∈ tb, w.before #[Value.ref b] s = true) (hK : KX D E s) (hG : SGs [((E 6), (E 8), 60, tw6), ((E 7), (E 9), 35, tw7)] (fun q : Nat => s.heap.size ≤ q) s s.heap) (hX : va_X b L xs s s.heap) (hL : L ≤ 3072) (hbl : b < s.heap.size) (hlocks : meth.locks = false) {qx qm k : Nat} {i : Int32} (hk : k ≤ 512) (hi : i.toInt = 6 * (k : Int)) (hiL : i.toInt + 6 ≤ (L : Int)) {zx : XS} {zm : MS} {H : Heap} {locs : List Loc} {ls : Array Slot} (hI : LI zx zm) (hP : va_P D vwCl (XW E qx zx ++ MW E qm zm) H) (hD : va_D (fun q : Nat => s.heap.size ≤ q) (XW E qx zx ++ MW E qm zm)) (hS : va_S (fun q : Nat => s.heap.size ≤ q) s.heap H locs) (hl : lv_has ls 4 [(3, .int i), (2, .ref qm), (1, .ref qx), (0, .ref b)]) (next : ∀ (zx : XS) (zm : MS) (H : Heap) (locs : List Loc) (ls : Array Slot), LI zx zm → va_P D vwCl (XW E qx zx ++ MW E qm zm) H → va_D (fun q : Nat => s.heap.size ≤ q) (XW E qx zx ++ MW E qm zm) → va_S (fun q : Nat => s.heap.size ≤ q) s.heap H locs → lv_has ls 4 [(3, .int i), (2, .ref qm), (1, .ref qx), (0, .ref b)] → W p l e room_1 s m #[Value.ref b] below meth c H locs ((123 + 5 * k) + 5) ((44666 + 1604 * k) + 1604) (lw_Z below #[Value.ref b] s) (F0 m 1550 ls [])) : W p l e room_1 s m #[Value.ref b] below meth c H locs (123 + 5 * k) (44666 + 1604 * k) (lw_Z below #[Value.ref b] s) (F0 m 1005 ls []) := by
  have hA : ∀ q : Nat, s.heap.size ≤ q → (fun q : Nat => s.heap.size ≤ q) q := fun _ h => h
  have hbA : ¬ (fun q : Nat => s.heap.size ≤ q) b := Nat.not_le.mpr hbl
  obtain ⟨hIx, hIm, hTR, hT2, hTV⟩ := hI
  have hI0 := hIx; have hM0 := hIm
  refine lv_aload_n hx hb dL_law_1005 rfl (lv_at hl 2 rfl) ?_
  refine lv_aload_n hx hb dL_law_1006 rfl (lv_at hl 3 rfl) ?_
  refine lv_iload_n hx hb dL_law_1007 rfl (lv_at hl 0 rfl) ?_
  refine lv_iconst (v := 1) hx hb dL_law_1008 (by decide) ?_
  refine lv_iadd hx hb dL_law_1009 ?_
  refine va_sld hx hb hX hbl hbA hS (sc_in (by omega) t_1 (by omega) (by omega) (by omega)) dL_law_1010 ?_
  refine lv_aload_n hx hb dL_law_1011 rfl (lv_at hl 3 rfl) ?_
  refine lv_iload_n hx hb dL_law_1012 rfl (lv_at hl 0 rfl) ?_
  refine lv_iconst (v := 2) hx hb dL_law_1013 (by decide) ?_
  refine lv_iadd hx hb dL_law_1014 ?_
  refine va_sld hx hb hX hbl hbA hS (sc_in (by omega) t_2 (by omega) (by omega) (by omega)) dL_law_1015 ?_
  refine lv_aload_n hx hb dL_law_1016 rfl (lv_at hl 3 rfl) ?_
  refine lv_iload_n hx hb dL_law_1017 rfl (lv_at hl 0 rfl) ?_
  refine lv_iconst (v := 3) hx hb dL_law_1018 (by decide) ?_
  refine lv_iadd hx hb dL_law_1019 ?_
  refine va_sld hx hb hX hbl hbA hS (sc_in (by omega) t_3 (by omega) (by omega) (by omega)) dL_law_1020 ?_
  refine aftU_i (runMG (rest := []) (As := [.int (xs (i + 1).toNatClampNeg), .int (xs (i + 2).toNatClampNeg), .int (xs (i + 3).toNatClampNeg)]) hx hb hml hown htb (U_X8_order l D E qx (xs (i + 1).toNatClampNeg) (xs (i + 2).toNatClampNeg) (xs (i + 3).toNatClampNeg) _ zx hIx) ok_X8_order k_765 k_766 k_767 k_1 k_768 ⟨(Nat.le_of_ble_eq_true rfl), (Nat.le_of_ble_eq_true rfl)⟩ ⟨(show (123 + 5 * k) + 0 ≤ 600000 by omega), (show (44666 + 1604 * k) + 0 ≤ 7302250 by omega)⟩ hl.1 (Nat.le_of_ble_eq_true rfl) rfl rfl dL_law_1021 (pmU (List.Perm.refl _) hP hD hK (XW_c (lP hP)) rfl rfl 0 rfl)) (List.Perm.refl _) hP hD hS hA (fun r_1 zs_3 H locs hw_2 hP hD hS => ?_)
  obtain ⟨hIx, hw_2_0⟩ := hw_2
  refine lv_pop hx hb dL_law_1024 rfl ?_
  refine lv_aload_n hx hb dL_law_1025 rfl (lv_at hl 1 rfl) ?_
  refine lv_aload_n hx hb dL_law_1026 rfl (lv_at hl 3 rfl) ?_
  refine lv_iload_n hx hb dL_law_1027 rfl (lv_at hl 0 rfl) ?_
  refine lv_iconst (v := 1) hx hb dL_law_1028 (by decide) ?_
  refine lv_iadd hx hb dL_law_1029 ?_
  refine va_sld hx hb hX hbl hbA hS (sc_in (by omega) t_1 (by omega) (by omega) (by omega)) dL_law_1030 ?_
  refine lv_aload_n hx hb dL_law_1031 rfl (lv_at hl 3 rfl) ?_
  refine lv_iload_n hx hb dL_law_1032 rfl (lv_at hl 0 rfl) ?_
  refine lv_iconst (v := 2) hx hb dL_law_1033 (by decide) ?_
  refine lv_iadd hx hb dL_law_1034 ?_
  refine va_sld hx hb hX hbl hbA hS (sc_in (by omega) t_2 (by omega) (by omega) (by omega)) dL_law_1035 ?_
  refine lv_aload_n hx hb dL_law_1036 rfl (lv_at hl 3 rfl) ?_
  refine lv_iload_n hx hb dL_law_1037 rfl (lv_at hl 0 rfl) ?_
  refine lv_iconst (v := 3) hx hb dL_law_1038 (by decide) ?_
  refine lv_iadd hx hb dL_law_1039 ?_
  refine va_sld hx hb hX hbl hbA hS (sc_in (by omega) t_3 (by omega) (by omega) (by omega)) dL_law_1040 ?_
  refine aftU_i (runMG (rest := []) (As := [.int (xs (i + 1).toNatClampNeg), .int (xs (i + 2).toNatClampNeg), .int (xs (i + 3).toNatClampNeg)]) hx hb hml hown htb (U_X9_order l D E qm (xs (i + 1).toNatClampNeg) (xs (i + 2).toNatClampNeg) (xs (i + 3).toNatClampNeg) _ zm hIm) ok_X9_order k_1402 k_1403 k_1404 k_9 k_1405 ⟨(Nat.le_of_ble_eq_true rfl), (Nat.le_of_ble_eq_true rfl)⟩ ⟨(show (123 + 5 * k) + 0 + 0 ≤ 600000 by omega), (show (44666 + 1604 * k) + 0 + 0 ≤ 7302250 by omega)⟩ hl.1 (Nat.le_of_ble_eq_true rfl) rfl rfl dL_law_1041 (pmU List.perm_append_comm hP hD hK (rP hP) rfl rfl 0 rfl)) List.perm_append_comm hP hD hS hA (fun r_4 zs_6 H locs hw_5 hP hD hS => ?_)
  have hP := sw_P hP; have hD := sw_D hD
  obtain ⟨hIm, hw_5_0⟩ := hw_5
  refine lv_pop hx hb dL_law_1044 rfl ?_
  refine lv_goto (tgt := 1550) hx hb dL_law_1045 (by decide) ?_
  refine W.widen (k := (123 + 5 * k) + 5) (n := (44666 + 1604 * k) + 1604) (by omega) (by omega) ?_
  exact next zs_3 zs_6 _ _ _ ⟨hIx, hIm, (TR_kp hTR hw_2_0.1 (KP_X9_order hw_5_0) (KQ_X9_order hw_5_0)), ⟨(TR2_k hT2.1 (K2_X8_order hw_2_0) (K2_X9_order hw_5_0)), (TT_k hT2.2.1 (K3_X8_order hw_2_0) (K3_X9_order hw_5_0)), (TU_k hT2.2.2 (K4_X8_order hw_2_0) (K4_X9_order hw_5_0))⟩, (TV_k hTV (K5_X8_order hw_2_0) (K5_X9_order hw_5_0))⟩ hP hD hS (lv_sub hl [0, 1, 2, 3] rfl)
set_option maxHeartbeats 4000000 in
set_option maxRecDepth 100000 in
theorem law_22 {p : Program} {l : Launch} {e : Env} {s : State} {m : MethodId} {below : List Frame} {meth : Method} {c : Code} {D : va_G} {E : Nat → Nat} {b L : Nat} {xs : Nat → Int32} (hx : p.tables.exec = Jvm.exec) (hb : c.code = code) (hr : meth.sig.returnType = ret) (hml : c.maxLocals = 4) (hown : s.vm.findClass R_law = some m.cls) (htb : ∀ w ∈ tb, w.before #[Value.ref b] s = true) (hK : KX D E s) (hG : SGs [((E 6), (E 8), 60, tw6), ((E 7), (E 9), 35, tw7)] (fun q : Nat => s.heap.size ≤ q) s s.heap) (hX : va_X b L xs s s.heap) (hL : L ≤ 3072) (hbl : b < s.heap.size) (hlocks : meth.locks = false) {qx qm k : Nat} {i : Int32} (hk : k ≤ 512) (hi : i.toInt = 6 * (k : Int)) (hiL : i.toInt + 6 ≤ (L : Int)) {zx : XS} {zm : MS} {H : Heap} {locs : List Loc} {ls : Array Slot} (hI : LI zx zm) (hP : va_P D vwCl (XW E qx zx ++ MW E qm zm) H) (hD : va_D (fun q : Nat => s.heap.size ≤ q) (XW E qx zx ++ MW E qm zm)) (hS : va_S (fun q : Nat => s.heap.size ≤ q) s.heap H locs) (hl : lv_has ls 4 [(3, .int i), (2, .ref qm), (1, .ref qx), (0, .ref b)]) (next : ∀ (zx : XS) (zm : MS) (H : Heap) (locs : List Loc) (ls : Array Slot), LI zx zm → va_P D vwCl (XW E qx zx ++ MW E qm zm) H → va_D (fun q : Nat => s.heap.size ≤ q) (XW E qx zx ++ MW E qm zm) → va_S (fun q : Nat => s.heap.size ≤ q) s.heap H locs → lv_has ls 4 [(3, .int i), (2, .ref qm), (1, .ref qx), (0, .ref b)] → W p l e room_1 s m #[Value.ref b] below meth c H locs ((123 + 5 * k) + 5) ((44666 + 1604 * k) + 1604) (lw_Z below #[Value.ref b] s) (F0 m 1550 ls [])) : W p l e room_1 s m #[Value.ref b] below meth c H locs (123 + 5 * k) (44666 + 1604 * k) (lw_Z below #[Value.ref b] s) (F0 m 1048 ls []) := by
  have hA : ∀ q : Nat, s.heap.size ≤ q → (fun q : Nat => s.heap.size ≤ q) q := fun _ h => h
  have hbA : ¬ (fun q : Nat => s.heap.size ≤ q) b := Nat.not_le.mpr hbl
  obtain ⟨hIx, hIm, hTR, hT2, hTV⟩ := hI
  have hI0 := hIx; have hM0 := hIm
  refine lv_aload_n hx hb dL_law_1048 rfl (lv_at hl 2 rfl) ?_
  refine lv_aload_n hx hb dL_law_1049 rfl (lv_at hl 3 rfl) ?_
  refine lv_iload_n hx hb dL_law_1050 rfl (lv_at hl 0 rfl) ?_
  refine lv_iconst (v := 1) hx hb dL_law_1051 (by decide) ?_
  refine lv_iadd hx hb dL_law_1052 ?_
  refine va_sld hx hb hX hbl hbA hS (sc_in (by omega) t_1 (by omega) (by omega) (by omega)) dL_law_1053 ?_
  refine lv_aload_n hx hb dL_law_1054 rfl (lv_at hl 3 rfl) ?_
  refine lv_iload_n hx hb dL_law_1055 rfl (lv_at hl 0 rfl) ?_
  refine lv_iconst (v := 2) hx hb dL_law_1056 (by decide) ?_
  refine lv_iadd hx hb dL_law_1057 ?_
  refine va_sld hx hb hX hbl hbA hS (sc_in (by omega) t_2 (by omega) (by omega) (by omega)) dL_law_1058 ?_
  refine lv_aload_n hx hb dL_law_1059 rfl (lv_at hl 3 rfl) ?_
  refine lv_iload_n hx hb dL_law_1060 rfl (lv_at hl 0 rfl) ?_
  refine lv_iconst (v := 3) hx hb dL_law_1061 (by decide) ?_
  refine lv_iadd hx hb dL_law_1062 ?_
  refine va_sld hx hb hX hbl hbA hS (sc_in (by omega) t_3 (by omega) (by omega) (by omega)) dL_law_1063 ?_
  refine lv_aload_n hx hb dL_law_1064 rfl (lv_at hl 3 rfl) ?_
  refine lv_iload_n hx hb dL_law_1065 rfl (lv_at hl 0 rfl) ?_
  refine lv_iconst (v := 4) hx hb dL_law_1066 (by decide) ?_
  refine lv_iadd hx hb dL_law_1067 ?_
  refine va_sld hx hb hX hbl hbA hS (sc_in (by omega) t_4 (by omega) (by omega) (by omega)) dL_law_1068 ?_
  refine aftU_i (runMG (rest := []) (As := [.int (xs (i + 1).toNatClampNeg), .int (xs (i + 2).toNatClampNeg), .int (xs (i + 3).toNatClampNeg), .int (xs (i + 4).toNatClampNeg)]) hx hb hml hown htb (U_X8_sail l D E qx (xs (i + 1).toNatClampNeg) (xs (i + 2).toNatClampNeg) (xs (i + 3).toNatClampNeg) (xs (i + 4).toNatClampNeg) _ zx hIx) ok_X8_sail k_769 k_770 k_771 k_1 k_772 ⟨(Nat.le_of_ble_eq_true rfl), (Nat.le_of_ble_eq_true rfl)⟩ ⟨(show (123 + 5 * k) + 0 ≤ 600000 by omega), (show (44666 + 1604 * k) + 0 ≤ 7302250 by omega)⟩ hl.1 (Nat.le_of_ble_eq_true rfl) rfl rfl dL_law_1069 (pmU (List.Perm.refl _) hP hD hK (XW_c (lP hP)) rfl rfl 0 rfl)) (List.Perm.refl _) hP hD hS hA (fun r_1 zs_3 H locs hw_2 hP hD hS => ?_)
  obtain ⟨hIx, hw_2_0⟩ := hw_2
  refine lv_pop hx hb dL_law_1072 rfl ?_
  refine lv_aload_n hx hb dL_law_1073 rfl (lv_at hl 1 rfl) ?_
  refine lv_aload_n hx hb dL_law_1074 rfl (lv_at hl 3 rfl) ?_
  refine lv_iload_n hx hb dL_law_1075 rfl (lv_at hl 0 rfl) ?_
  refine lv_iconst (v := 1) hx hb dL_law_1076 (by decide) ?_
  refine lv_iadd hx hb dL_law_1077 ?_
  refine va_sld hx hb hX hbl hbA hS (sc_in (by omega) t_1 (by omega) (by omega) (by omega)) dL_law_1078 ?_
  refine lv_aload_n hx hb dL_law_1079 rfl (lv_at hl 3 rfl) ?_
  refine lv_iload_n hx hb dL_law_1080 rfl (lv_at hl 0 rfl) ?_
  refine lv_iconst (v := 2) hx hb dL_law_1081 (by decide) ?_
  refine lv_iadd hx hb dL_law_1082 ?_
  refine va_sld hx hb hX hbl hbA hS (sc_in (by omega) t_2 (by omega) (by omega) (by omega)) dL_law_1083 ?_
  refine lv_aload_n hx hb dL_law_1084 rfl (lv_at hl 3 rfl) ?_
  refine lv_iload_n hx hb dL_law_1085 rfl (lv_at hl 0 rfl) ?_
  refine lv_iconst (v := 3) hx hb dL_law_1086 (by decide) ?_
  refine lv_iadd hx hb dL_law_1087 ?_
  refine va_sld hx hb hX hbl hbA hS (sc_in (by omega) t_3 (by omega) (by omega) (by omega)) dL_law_1088 ?_
  refine lv_aload_n hx hb dL_law_1089 rfl (lv_at hl 3 rfl) ?_
  refine lv_iload_n hx hb dL_law_1090 rfl (lv_at hl 0 rfl) ?_
  refine lv_iconst (v := 4) hx hb dL_law_1091 (by decide) ?_
  refine lv_iadd hx hb dL_law_1092 ?_
  refine va_sld hx hb hX hbl hbA hS (sc_in (by omega) t_4 (by omega) (by omega) (by omega)) dL_law_1093 ?_
  refine aftU_i (runMG (rest := []) (As := [.int (xs (i + 1).toNatClampNeg), .int (xs (i + 2).toNatClampNeg), .int (xs (i + 3).toNatClampNeg), .int (xs (i + 4).toNatClampNeg)]) hx hb hml hown htb (U_X9_sail l D E qm (xs (i + 1).toNatClampNeg) (xs (i + 2).toNatClampNeg) (xs (i + 3).toNatClampNeg) (xs (i + 4).toNatClampNeg) _ zm hIm) ok_X9_sail k_1410 k_1411 k_1412 k_9 k_1413 ⟨(Nat.le_of_ble_eq_true rfl), (Nat.le_of_ble_eq_true rfl)⟩ ⟨(show (123 + 5 * k) + 0 + 0 ≤ 600000 by omega), (show (44666 + 1604 * k) + 0 + 0 ≤ 7302250 by omega)⟩ hl.1 (Nat.le_of_ble_eq_true rfl) rfl rfl dL_law_1094 (pmU List.perm_append_comm hP hD hK (rP hP) rfl rfl 0 rfl)) List.perm_append_comm hP hD hS hA (fun r_4 zs_6 H locs hw_5 hP hD hS => ?_)
  have hP := sw_P hP; have hD := sw_D hD
  obtain ⟨hIm, hw_5_0⟩ := hw_5
  refine lv_pop hx hb dL_law_1097 rfl ?_
  refine lv_goto (tgt := 1550) hx hb dL_law_1098 (by decide) ?_
  refine W.widen (k := (123 + 5 * k) + 5) (n := (44666 + 1604 * k) + 1604) (by omega) (by omega) ?_
  exact next zs_3 zs_6 _ _ _ ⟨hIx, hIm, (ST_sail hI0 hTR hw_2_0 hw_5_0), ⟨(TR2_k hT2.1 (K2_X8_sail hw_2_0) (K2_X9_sail hw_5_0)), (TT_k hT2.2.1 (K3_X8_sail hw_2_0) (K3_X9_sail hw_5_0)), (TU_k hT2.2.2 (K4_X8_sail hw_2_0) (K4_X9_sail hw_5_0))⟩, (ST5_sail hI0 hTR hTV hw_2_0 hw_5_0)⟩ hP hD hS (lv_sub hl [0, 1, 2, 3] rfl)
set_option maxHeartbeats 4000000 in
set_option maxRecDepth 100000 in
theorem law_23 {p : Program} {l : Launch} {e : Env} {s : State} {m : MethodId} {below : List Frame} {meth : Method} {c : Code} {D : va_G} {E : Nat → Nat} {b L : Nat} {xs : Nat → Int32} (hx : p.tables.exec = Jvm.exec) (hb : c.code = code) (hr : meth.sig.returnType = ret) (hml : c.maxLocals = 4) (hown : s.vm.findClass R_law = some m.cls) (htb : ∀ w ∈ tb, w.before #[Value.ref b] s = true) (hK : KX D E s) (hG : SGs [((E 6), (E 8), 60, tw6), ((E 7), (E 9), 35, tw7)] (fun q : Nat => s.heap.size ≤ q) s s.heap) (hX : va_X b L xs s s.heap) (hL : L ≤ 3072) (hbl : b < s.heap.size) (hlocks : meth.locks = false) {qx qm k : Nat} {i : Int32} (hk : k ≤ 512) (hi : i.toInt = 6 * (k : Int)) (hiL : i.toInt + 6 ≤ (L : Int)) {zx : XS} {zm : MS} {H : Heap} {locs : List Loc} {ls : Array Slot} (hI : LI zx zm) (hP : va_P D vwCl (XW E qx zx ++ MW E qm zm) H) (hD : va_D (fun q : Nat => s.heap.size ≤ q) (XW E qx zx ++ MW E qm zm)) (hS : va_S (fun q : Nat => s.heap.size ≤ q) s.heap H locs) (hl : lv_has ls 4 [(3, .int i), (2, .ref qm), (1, .ref qx), (0, .ref b)]) (next : ∀ (zx : XS) (zm : MS) (H : Heap) (locs : List Loc) (ls : Array Slot), LI zx zm → va_P D vwCl (XW E qx zx ++ MW E qm zm) H → va_D (fun q : Nat => s.heap.size ≤ q) (XW E qx zx ++ MW E qm zm) → va_S (fun q : Nat => s.heap.size ≤ q) s.heap H locs → lv_has ls 4 [(3, .int i), (2, .ref qm), (1, .ref qx), (0, .ref b)] → W p l e room_1 s m #[Value.ref b] below meth c H locs ((123 + 5 * k) + 5) ((44666 + 1604 * k) + 1604) (lw_Z below #[Value.ref b] s) (F0 m 1550 ls [])) : W p l e room_1 s m #[Value.ref b] below meth c H locs (123 + 5 * k) (44666 + 1604 * k) (lw_Z below #[Value.ref b] s) (F0 m 1101 ls []) := by
  have hA : ∀ q : Nat, s.heap.size ≤ q → (fun q : Nat => s.heap.size ≤ q) q := fun _ h => h
  have hbA : ¬ (fun q : Nat => s.heap.size ≤ q) b := Nat.not_le.mpr hbl
  obtain ⟨hIx, hIm, hTR, hT2, hTV⟩ := hI
  have hI0 := hIx; have hM0 := hIm
  refine lv_aload_n hx hb dL_law_1101 rfl (lv_at hl 2 rfl) ?_
  refine lv_aload_n hx hb dL_law_1102 rfl (lv_at hl 3 rfl) ?_
  refine lv_iload_n hx hb dL_law_1103 rfl (lv_at hl 0 rfl) ?_
  refine lv_iconst (v := 1) hx hb dL_law_1104 (by decide) ?_
  refine lv_iadd hx hb dL_law_1105 ?_
  refine va_sld hx hb hX hbl hbA hS (sc_in (by omega) t_1 (by omega) (by omega) (by omega)) dL_law_1106 ?_
  refine lv_aload_n hx hb dL_law_1107 rfl (lv_at hl 3 rfl) ?_
  refine lv_iload_n hx hb dL_law_1108 rfl (lv_at hl 0 rfl) ?_
  refine lv_iconst (v := 2) hx hb dL_law_1109 (by decide) ?_
  refine lv_iadd hx hb dL_law_1110 ?_
  refine va_sld hx hb hX hbl hbA hS (sc_in (by omega) t_2 (by omega) (by omega) (by omega)) dL_law_1111 ?_
  refine lv_aload_n hx hb dL_law_1112 rfl (lv_at hl 3 rfl) ?_
  refine lv_iload_n hx hb dL_law_1113 rfl (lv_at hl 0 rfl) ?_
  refine lv_iconst (v := 3) hx hb dL_law_1114 (by decide) ?_
  refine lv_iadd hx hb dL_law_1115 ?_
  refine va_sld hx hb hX hbl hbA hS (sc_in (by omega) t_3 (by omega) (by omega) (by omega)) dL_law_1116 ?_
  refine aftU_i (runMG (rest := []) (As := [.int (xs (i + 1).toNatClampNeg), .int (xs (i + 2).toNatClampNeg), .int (xs (i + 3).toNatClampNeg)]) hx hb hml hown htb (U_X8_carried l D E qx (xs (i + 1).toNatClampNeg) (xs (i + 2).toNatClampNeg) (xs (i + 3).toNatClampNeg) _ zx hIx) ok_X8_carried k_808 k_809 k_810 k_1 k_811 ⟨(Nat.le_of_ble_eq_true rfl), (Nat.le_of_ble_eq_true rfl)⟩ ⟨(show (123 + 5 * k) + 0 ≤ 600000 by omega), (show (44666 + 1604 * k) + 0 ≤ 7302250 by omega)⟩ hl.1 (Nat.le_of_ble_eq_true rfl) rfl rfl dL_law_1117 (pmU (List.Perm.refl _) hP hD hK (XW_c (lP hP)) rfl rfl 0 rfl)) (List.Perm.refl _) hP hD hS hA (fun r_1 zs_3 H locs hw_2 hP hD hS => ?_)
  obtain ⟨hIx, hw_2_0⟩ := hw_2
  refine lv_pop hx hb dL_law_1120 rfl ?_
  refine lv_aload_n hx hb dL_law_1121 rfl (lv_at hl 1 rfl) ?_
  refine lv_aload_n hx hb dL_law_1122 rfl (lv_at hl 3 rfl) ?_
  refine lv_iload_n hx hb dL_law_1123 rfl (lv_at hl 0 rfl) ?_
  refine lv_iconst (v := 1) hx hb dL_law_1124 (by decide) ?_
  refine lv_iadd hx hb dL_law_1125 ?_
  refine va_sld hx hb hX hbl hbA hS (sc_in (by omega) t_1 (by omega) (by omega) (by omega)) dL_law_1126 ?_
  refine lv_aload_n hx hb dL_law_1127 rfl (lv_at hl 3 rfl) ?_
  refine lv_iload_n hx hb dL_law_1128 rfl (lv_at hl 0 rfl) ?_
  refine lv_iconst (v := 2) hx hb dL_law_1129 (by decide) ?_
  refine lv_iadd hx hb dL_law_1130 ?_
  refine va_sld hx hb hX hbl hbA hS (sc_in (by omega) t_2 (by omega) (by omega) (by omega)) dL_law_1131 ?_
  refine lv_aload_n hx hb dL_law_1132 rfl (lv_at hl 3 rfl) ?_
  refine lv_iload_n hx hb dL_law_1133 rfl (lv_at hl 0 rfl) ?_
  refine lv_iconst (v := 3) hx hb dL_law_1134 (by decide) ?_
  refine lv_iadd hx hb dL_law_1135 ?_
  refine va_sld hx hb hX hbl hbA hS (sc_in (by omega) t_3 (by omega) (by omega) (by omega)) dL_law_1136 ?_
  refine aftU_i (runMG (rest := []) (As := [.int (xs (i + 1).toNatClampNeg), .int (xs (i + 2).toNatClampNeg), .int (xs (i + 3).toNatClampNeg)]) hx hb hml hown htb (U_X9_carried l D E qm (xs (i + 1).toNatClampNeg) (xs (i + 2).toNatClampNeg) (xs (i + 3).toNatClampNeg) _ zm hIm) ok_X9_carried k_1425 k_1426 k_1427 k_9 k_1428 ⟨(Nat.le_of_ble_eq_true rfl), (Nat.le_of_ble_eq_true rfl)⟩ ⟨(show (123 + 5 * k) + 0 + 0 ≤ 600000 by omega), (show (44666 + 1604 * k) + 0 + 0 ≤ 7302250 by omega)⟩ hl.1 (Nat.le_of_ble_eq_true rfl) rfl rfl dL_law_1137 (pmU List.perm_append_comm hP hD hK (rP hP) rfl rfl 0 rfl)) List.perm_append_comm hP hD hS hA (fun r_4 zs_6 H locs hw_5 hP hD hS => ?_)
  have hP := sw_P hP; have hD := sw_D hD
  obtain ⟨hIm, hw_5_0⟩ := hw_5
  refine lv_pop hx hb dL_law_1140 rfl ?_
  refine lv_goto (tgt := 1550) hx hb dL_law_1141 (by decide) ?_
  refine W.widen (k := (123 + 5 * k) + 5) (n := (44666 + 1604 * k) + 1604) (by omega) (by omega) ?_
  exact next zs_3 zs_6 _ _ _ ⟨hIx, hIm, (TR_kp hTR (KP_X8_carried hw_2_0) (KP_X9_carried hw_5_0) (KQ_X9_carried hw_5_0)), ⟨(TR2_k hT2.1 (K2_X8_carried hw_2_0) (K2_X9_carried hw_5_0)), (TT_k hT2.2.1 (K3_X8_carried hw_2_0) (K3_X9_carried hw_5_0)), (TU_k hT2.2.2 (K4_X8_carried hw_2_0) (K4_X9_carried hw_5_0))⟩, (TV_k hTV (K5_X8_carried hw_2_0) (K5_X9_carried hw_5_0))⟩ hP hD hS (lv_sub hl [0, 1, 2, 3] rfl)
set_option maxHeartbeats 4000000 in
set_option maxRecDepth 100000 in
theorem law_24 {p : Program} {l : Launch} {e : Env} {s : State} {m : MethodId} {below : List Frame} {meth : Method} {c : Code} {D : va_G} {E : Nat → Nat} {b L : Nat} {xs : Nat → Int32} (hx : p.tables.exec = Jvm.exec) (hb : c.code = code) (hr : meth.sig.returnType = ret) (hml : c.maxLocals = 4) (hown : s.vm.findClass R_law = some m.cls) (htb : ∀ w ∈ tb, w.before #[Value.ref b] s = true) (hK : KX D E s) (hG : SGs [((E 6), (E 8), 60, tw6), ((E 7), (E 9), 35, tw7)] (fun q : Nat => s.heap.size ≤ q) s s.heap) (hX : va_X b L xs s s.heap) (hL : L ≤ 3072) (hbl : b < s.heap.size) (hlocks : meth.locks = false) {qx qm k : Nat} {i : Int32} (hk : k ≤ 512) (hi : i.toInt = 6 * (k : Int)) (hiL : i.toInt + 6 ≤ (L : Int)) {zx : XS} {zm : MS} {H : Heap} {locs : List Loc} {ls : Array Slot} (hI : LI zx zm) (hP : va_P D vwCl (XW E qx zx ++ MW E qm zm) H) (hD : va_D (fun q : Nat => s.heap.size ≤ q) (XW E qx zx ++ MW E qm zm)) (hS : va_S (fun q : Nat => s.heap.size ≤ q) s.heap H locs) (hl : lv_has ls 4 [(3, .int i), (2, .ref qm), (1, .ref qx), (0, .ref b)]) (next : ∀ (zx : XS) (zm : MS) (H : Heap) (locs : List Loc) (ls : Array Slot), LI zx zm → va_P D vwCl (XW E qx zx ++ MW E qm zm) H → va_D (fun q : Nat => s.heap.size ≤ q) (XW E qx zx ++ MW E qm zm) → va_S (fun q : Nat => s.heap.size ≤ q) s.heap H locs → lv_has ls 4 [(3, .int i), (2, .ref qm), (1, .ref qx), (0, .ref b)] → W p l e room_1 s m #[Value.ref b] below meth c H locs ((123 + 5 * k) + 5) ((44666 + 1604 * k) + 1604) (lw_Z below #[Value.ref b] s) (F0 m 1550 ls [])) : W p l e room_1 s m #[Value.ref b] below meth c H locs (123 + 5 * k) (44666 + 1604 * k) (lw_Z below #[Value.ref b] s) (F0 m 1144 ls []) := by
  have hA : ∀ q : Nat, s.heap.size ≤ q → (fun q : Nat => s.heap.size ≤ q) q := fun _ h => h
  have hbA : ¬ (fun q : Nat => s.heap.size ≤ q) b := Nat.not_le.mpr hbl
  obtain ⟨hIx, hIm, hTR, hT2, hTV⟩ := hI
  have hI0 := hIx; have hM0 := hIm
  refine lv_aload_n hx hb dL_law_1144 rfl (lv_at hl 2 rfl) ?_
  refine lv_aload_n hx hb dL_law_1145 rfl (lv_at hl 3 rfl) ?_
  refine lv_iload_n hx hb dL_law_1146 rfl (lv_at hl 0 rfl) ?_
  refine lv_iconst (v := 1) hx hb dL_law_1147 (by decide) ?_
  refine lv_iadd hx hb dL_law_1148 ?_
  refine va_sld hx hb hX hbl hbA hS (sc_in (by omega) t_1 (by omega) (by omega) (by omega)) dL_law_1149 ?_
  refine lv_aload_n hx hb dL_law_1150 rfl (lv_at hl 3 rfl) ?_
  refine lv_iload_n hx hb dL_law_1151 rfl (lv_at hl 0 rfl) ?_
  refine lv_iconst (v := 2) hx hb dL_law_1152 (by decide) ?_
  refine lv_iadd hx hb dL_law_1153 ?_
  refine va_sld hx hb hX hbl hbA hS (sc_in (by omega) t_2 (by omega) (by omega) (by omega)) dL_law_1154 ?_
  refine lv_aload_n hx hb dL_law_1155 rfl (lv_at hl 3 rfl) ?_
  refine lv_iload_n hx hb dL_law_1156 rfl (lv_at hl 0 rfl) ?_
  refine lv_iconst (v := 3) hx hb dL_law_1157 (by decide) ?_
  refine lv_iadd hx hb dL_law_1158 ?_
  refine va_sld hx hb hX hbl hbA hS (sc_in (by omega) t_3 (by omega) (by omega) (by omega)) dL_law_1159 ?_
  refine lv_aload_n hx hb dL_law_1160 rfl (lv_at hl 3 rfl) ?_
  refine lv_iload_n hx hb dL_law_1161 rfl (lv_at hl 0 rfl) ?_
  refine lv_iconst (v := 4) hx hb dL_law_1162 (by decide) ?_
  refine lv_iadd hx hb dL_law_1163 ?_
  refine va_sld hx hb hX hbl hbA hS (sc_in (by omega) t_4 (by omega) (by omega) (by omega)) dL_law_1164 ?_
  refine lv_aload_n hx hb dL_law_1165 rfl (lv_at hl 3 rfl) ?_
  refine lv_iload_n hx hb dL_law_1166 rfl (lv_at hl 0 rfl) ?_
  refine lv_iconst (v := 5) hx hb dL_law_1167 (by decide) ?_
  refine lv_iadd hx hb dL_law_1168 ?_
  refine va_sld hx hb hX hbl hbA hS (sc_in (by omega) t_5 (by omega) (by omega) (by omega)) dL_law_1169 ?_
  refine aftU_i (runMG (rest := []) (As := [.int (xs (i + 1).toNatClampNeg), .int (xs (i + 2).toNatClampNeg), .int (xs (i + 3).toNatClampNeg), .int (xs (i + 4).toNatClampNeg), .int (xs (i + 5).toNatClampNeg)]) hx hb hml hown htb (U_X8_sight l D E qx (xs (i + 1).toNatClampNeg) (xs (i + 2).toNatClampNeg) (xs (i + 3).toNatClampNeg) (xs (i + 4).toNatClampNeg) (xs (i + 5).toNatClampNeg) _ zx hIx) ok_X8_sight k_812 k_813 k_814 k_1 k_815 ⟨(Nat.le_of_ble_eq_true rfl), (Nat.le_of_ble_eq_true rfl)⟩ ⟨(show (123 + 5 * k) + 0 ≤ 600000 by omega), (show (44666 + 1604 * k) + 0 ≤ 7302250 by omega)⟩ hl.1 (Nat.le_of_ble_eq_true rfl) rfl rfl dL_law_1170 (pmU (List.Perm.refl _) hP hD hK (XW_c (lP hP)) rfl rfl 0 rfl)) (List.Perm.refl _) hP hD hS hA (fun r_1 zs_3 H locs hw_2 hP hD hS => ?_)
  obtain ⟨hIx, hw_2_0⟩ := hw_2
  refine lv_pop hx hb dL_law_1173 rfl ?_
  refine lv_aload_n hx hb dL_law_1174 rfl (lv_at hl 1 rfl) ?_
  refine lv_aload_n hx hb dL_law_1175 rfl (lv_at hl 3 rfl) ?_
  refine lv_iload_n hx hb dL_law_1176 rfl (lv_at hl 0 rfl) ?_
  refine lv_iconst (v := 1) hx hb dL_law_1177 (by decide) ?_
  refine lv_iadd hx hb dL_law_1178 ?_
  refine va_sld hx hb hX hbl hbA hS (sc_in (by omega) t_1 (by omega) (by omega) (by omega)) dL_law_1179 ?_
  refine lv_aload_n hx hb dL_law_1180 rfl (lv_at hl 3 rfl) ?_
  refine lv_iload_n hx hb dL_law_1181 rfl (lv_at hl 0 rfl) ?_
  refine lv_iconst (v := 2) hx hb dL_law_1182 (by decide) ?_
  refine lv_iadd hx hb dL_law_1183 ?_
  refine va_sld hx hb hX hbl hbA hS (sc_in (by omega) t_2 (by omega) (by omega) (by omega)) dL_law_1184 ?_
  refine lv_aload_n hx hb dL_law_1185 rfl (lv_at hl 3 rfl) ?_
  refine lv_iload_n hx hb dL_law_1186 rfl (lv_at hl 0 rfl) ?_
  refine lv_iconst (v := 3) hx hb dL_law_1187 (by decide) ?_
  refine lv_iadd hx hb dL_law_1188 ?_
  refine va_sld hx hb hX hbl hbA hS (sc_in (by omega) t_3 (by omega) (by omega) (by omega)) dL_law_1189 ?_
  refine lv_aload_n hx hb dL_law_1190 rfl (lv_at hl 3 rfl) ?_
  refine lv_iload_n hx hb dL_law_1191 rfl (lv_at hl 0 rfl) ?_
  refine lv_iconst (v := 4) hx hb dL_law_1192 (by decide) ?_
  refine lv_iadd hx hb dL_law_1193 ?_
  refine va_sld hx hb hX hbl hbA hS (sc_in (by omega) t_4 (by omega) (by omega) (by omega)) dL_law_1194 ?_
  refine lv_aload_n hx hb dL_law_1195 rfl (lv_at hl 3 rfl) ?_
  refine lv_iload_n hx hb dL_law_1196 rfl (lv_at hl 0 rfl) ?_
  refine lv_iconst (v := 5) hx hb dL_law_1197 (by decide) ?_
  refine lv_iadd hx hb dL_law_1198 ?_
  refine va_sld hx hb hX hbl hbA hS (sc_in (by omega) t_5 (by omega) (by omega) (by omega)) dL_law_1199 ?_
  refine aftU_i (runMG (rest := []) (As := [.int (xs (i + 1).toNatClampNeg), .int (xs (i + 2).toNatClampNeg), .int (xs (i + 3).toNatClampNeg), .int (xs (i + 4).toNatClampNeg), .int (xs (i + 5).toNatClampNeg)]) hx hb hml hown htb (U_X9_sight l D E qm (xs (i + 1).toNatClampNeg) (xs (i + 2).toNatClampNeg) (xs (i + 3).toNatClampNeg) (xs (i + 4).toNatClampNeg) (xs (i + 5).toNatClampNeg) _ zm hIm) ok_X9_sight k_1429 k_1430 k_1431 k_9 k_1432 ⟨(Nat.le_of_ble_eq_true rfl), (Nat.le_of_ble_eq_true rfl)⟩ ⟨(show (123 + 5 * k) + 0 + 0 ≤ 600000 by omega), (show (44666 + 1604 * k) + 0 + 0 ≤ 7302250 by omega)⟩ hl.1 (Nat.le_of_ble_eq_true rfl) rfl rfl dL_law_1200 (pmU List.perm_append_comm hP hD hK (rP hP) rfl rfl 0 rfl)) List.perm_append_comm hP hD hS hA (fun r_4 zs_6 H locs hw_5 hP hD hS => ?_)
  have hP := sw_P hP; have hD := sw_D hD
  obtain ⟨hIm, hw_5_0⟩ := hw_5
  refine lv_pop hx hb dL_law_1203 rfl ?_
  refine lv_goto (tgt := 1550) hx hb dL_law_1204 (by decide) ?_
  refine W.widen (k := (123 + 5 * k) + 5) (n := (44666 + 1604 * k) + 1604) (by omega) (by omega) ?_
  exact next zs_3 zs_6 _ _ _ ⟨hIx, hIm, (ST_sight hI0 hTR hw_2_0 hw_5_0), ⟨(TR2_k hT2.1 (K2_X8_sight hw_2_0) (K2_X9_sight hw_5_0)), (TT_k hT2.2.1 (K3_X8_sight hw_2_0) (K3_X9_sight hw_5_0)), (TU_k hT2.2.2 (K4_X8_sight hw_2_0) (K4_X9_sight hw_5_0))⟩, (ST5_sight hI0 hTR hTV hw_2_0 hw_5_0)⟩ hP hD hS (lv_sub hl [0, 1, 2, 3] rfl)
set_option maxHeartbeats 4000000 in
set_option maxRecDepth 100000 in
theorem law_25 {p : Program} {l : Launch} {e : Env} {s : State} {m : MethodId} {below : List Frame} {meth : Method} {c : Code} {D : va_G} {E : Nat → Nat} {b L : Nat} {xs : Nat → Int32} (hx : p.tables.exec = Jvm.exec) (hb : c.code = code) (hr : meth.sig.returnType = ret) (hml : c.maxLocals = 4) (hown : s.vm.findClass R_law = some m.cls) (htb : ∀ w ∈ tb, w.before #[Value.ref b] s = true) (hK : KX D E s) (hG : SGs [((E 6), (E 8), 60, tw6), ((E 7), (E 9), 35, tw7)] (fun q : Nat => s.heap.size ≤ q) s s.heap) (hX : va_X b L xs s s.heap) (hL : L ≤ 3072) (hbl : b < s.heap.size) (hlocks : meth.locks = false) {qx qm k : Nat} {i : Int32} (hk : k ≤ 512) (hi : i.toInt = 6 * (k : Int)) (hiL : i.toInt + 6 ≤ (L : Int)) {zx : XS} {zm : MS} {H : Heap} {locs : List Loc} {ls : Array Slot} (hI : LI zx zm) (hP : va_P D vwCl (XW E qx zx ++ MW E qm zm) H) (hD : va_D (fun q : Nat => s.heap.size ≤ q) (XW E qx zx ++ MW E qm zm)) (hS : va_S (fun q : Nat => s.heap.size ≤ q) s.heap H locs) (hl : lv_has ls 4 [(3, .int i), (2, .ref qm), (1, .ref qx), (0, .ref b)]) (next : ∀ (zx : XS) (zm : MS) (H : Heap) (locs : List Loc) (ls : Array Slot), LI zx zm → va_P D vwCl (XW E qx zx ++ MW E qm zm) H → va_D (fun q : Nat => s.heap.size ≤ q) (XW E qx zx ++ MW E qm zm) → va_S (fun q : Nat => s.heap.size ≤ q) s.heap H locs → lv_has ls 4 [(3, .int i), (2, .ref qm), (1, .ref qx), (0, .ref b)] → W p l e room_1 s m #[Value.ref b] below meth c H locs ((123 + 5 * k) + 5) ((44666 + 1604 * k) + 1604) (lw_Z below #[Value.ref b] s) (F0 m 1550 ls [])) : W p l e room_1 s m #[Value.ref b] below meth c H locs (123 + 5 * k) (44666 + 1604 * k) (lw_Z below #[Value.ref b] s) (F0 m 1207 ls []) := by
  have hA : ∀ q : Nat, s.heap.size ≤ q → (fun q : Nat => s.heap.size ≤ q) q := fun _ h => h
  have hbA : ¬ (fun q : Nat => s.heap.size ≤ q) b := Nat.not_le.mpr hbl
  obtain ⟨hIx, hIm, hTR, hT2, hTV⟩ := hI
  have hI0 := hIx; have hM0 := hIm
  refine lv_aload_n hx hb dL_law_1207 rfl (lv_at hl 2 rfl) ?_
  refine lv_aload_n hx hb dL_law_1208 rfl (lv_at hl 3 rfl) ?_
  refine lv_iload_n hx hb dL_law_1209 rfl (lv_at hl 0 rfl) ?_
  refine lv_iconst (v := 1) hx hb dL_law_1210 (by decide) ?_
  refine lv_iadd hx hb dL_law_1211 ?_
  refine va_sld hx hb hX hbl hbA hS (sc_in (by omega) t_1 (by omega) (by omega) (by omega)) dL_law_1212 ?_
  refine lv_aload_n hx hb dL_law_1213 rfl (lv_at hl 3 rfl) ?_
  refine lv_iload_n hx hb dL_law_1214 rfl (lv_at hl 0 rfl) ?_
  refine lv_iconst (v := 2) hx hb dL_law_1215 (by decide) ?_
  refine lv_iadd hx hb dL_law_1216 ?_
  refine va_sld hx hb hX hbl hbA hS (sc_in (by omega) t_2 (by omega) (by omega) (by omega)) dL_law_1217 ?_
  refine lv_aload_n hx hb dL_law_1218 rfl (lv_at hl 3 rfl) ?_
  refine lv_iload_n hx hb dL_law_1219 rfl (lv_at hl 0 rfl) ?_
  refine lv_iconst (v := 3) hx hb dL_law_1220 (by decide) ?_
  refine lv_iadd hx hb dL_law_1221 ?_
  refine va_sld hx hb hX hbl hbA hS (sc_in (by omega) t_3 (by omega) (by omega) (by omega)) dL_law_1222 ?_
  refine aftU_i (runMG (rest := []) (As := [.int (xs (i + 1).toNatClampNeg), .int (xs (i + 2).toNatClampNeg), .int (xs (i + 3).toNatClampNeg)]) hx hb hml hown htb (U_X8_told l D E qx (xs (i + 1).toNatClampNeg) (xs (i + 2).toNatClampNeg) (xs (i + 3).toNatClampNeg) _ zx hIx) ok_X8_told k_825 k_826 k_827 k_1 k_828 ⟨(Nat.le_of_ble_eq_true rfl), (Nat.le_of_ble_eq_true rfl)⟩ ⟨(show (123 + 5 * k) + 0 ≤ 600000 by omega), (show (44666 + 1604 * k) + 0 ≤ 7302250 by omega)⟩ hl.1 (Nat.le_of_ble_eq_true rfl) rfl rfl dL_law_1223 (pmU (List.Perm.refl _) hP hD hK (XW_c (lP hP)) rfl rfl 0 rfl)) (List.Perm.refl _) hP hD hS hA (fun r_1 zs_3 H locs hw_2 hP hD hS => ?_)
  obtain ⟨hIx, hw_2_0⟩ := hw_2
  refine lv_aload_n hx hb dL_law_1226 rfl (lv_at hl 1 rfl) ?_
  refine lv_aload_n hx hb dL_law_1227 rfl (lv_at hl 3 rfl) ?_
  refine lv_iload_n hx hb dL_law_1228 rfl (lv_at hl 0 rfl) ?_
  refine lv_iconst (v := 1) hx hb dL_law_1229 (by decide) ?_
  refine lv_iadd hx hb dL_law_1230 ?_
  refine va_sld hx hb hX hbl hbA hS (sc_in (by omega) t_1 (by omega) (by omega) (by omega)) dL_law_1231 ?_
  refine lv_aload_n hx hb dL_law_1232 rfl (lv_at hl 3 rfl) ?_
  refine lv_iload_n hx hb dL_law_1233 rfl (lv_at hl 0 rfl) ?_
  refine lv_iconst (v := 2) hx hb dL_law_1234 (by decide) ?_
  refine lv_iadd hx hb dL_law_1235 ?_
  refine va_sld hx hb hX hbl hbA hS (sc_in (by omega) t_2 (by omega) (by omega) (by omega)) dL_law_1236 ?_
  refine lv_aload_n hx hb dL_law_1237 rfl (lv_at hl 3 rfl) ?_
  refine lv_iload_n hx hb dL_law_1238 rfl (lv_at hl 0 rfl) ?_
  refine lv_iconst (v := 3) hx hb dL_law_1239 (by decide) ?_
  refine lv_iadd hx hb dL_law_1240 ?_
  refine va_sld hx hb hX hbl hbA hS (sc_in (by omega) t_3 (by omega) (by omega) (by omega)) dL_law_1241 ?_
  refine aftU_i (runMG (rest := [.int r_1]) (As := [.int (xs (i + 1).toNatClampNeg), .int (xs (i + 2).toNatClampNeg), .int (xs (i + 3).toNatClampNeg)]) hx hb hml hown htb (U_X9_told l D E qm (xs (i + 1).toNatClampNeg) (xs (i + 2).toNatClampNeg) (xs (i + 3).toNatClampNeg) _ zm hIm) ok_X9_told k_1438 k_1439 k_1440 k_9 k_1441 ⟨(Nat.le_of_ble_eq_true rfl), (Nat.le_of_ble_eq_true rfl)⟩ ⟨(show (123 + 5 * k) + 0 + 0 ≤ 600000 by omega), (show (44666 + 1604 * k) + 0 + 0 ≤ 7302250 by omega)⟩ hl.1 (Nat.le_of_ble_eq_true rfl) rfl rfl dL_law_1242 (pmU List.perm_append_comm hP hD hK (rP hP) rfl rfl 0 rfl)) List.perm_append_comm hP hD hS hA (fun r_4 zs_6 H locs hw_5 hP hD hS => ?_)
  have hP := sw_P hP; have hD := sw_D hD
  obtain ⟨hIm, hw_5_0⟩ := hw_5
  have heq_7 : r_1 = r_4 := AN5_told hI0 hTR hM0 hT2.2.2 hTV hw_2_0 hw_5_0
  refine lv_icmp_eq (tgt := 1550) hx hb dL_law_1245 (by decide) (fun _ => ?_) (fun h9 => absurd heq_7 h9)
  refine W.widen (k := (123 + 5 * k) + 5) (n := (44666 + 1604 * k) + 1604) (by omega) (by omega) ?_
  exact next zs_3 zs_6 _ _ _ ⟨hIx, hIm, (TR_kp hTR (KP_X8_told hw_2_0) (KP_X9_told hw_5_0) (KQ_X9_told hw_5_0)), ⟨(TR2_k hT2.1 (K2_X8_told hw_2_0) (K2_X9_told hw_5_0)), (TT_k hT2.2.1 (K3_X8_told hw_2_0) (K3_X9_told hw_5_0)), (TU_k hT2.2.2 (K4_X8_told hw_2_0) (K4_X9_told hw_5_0))⟩, (TV_k hTV (K5_X8_told hw_2_0) (K5_X9_told hw_5_0))⟩ hP hD hS (lv_sub hl [0, 1, 2, 3] rfl)
set_option maxHeartbeats 4000000 in
set_option maxRecDepth 100000 in
theorem law_26 {p : Program} {l : Launch} {e : Env} {s : State} {m : MethodId} {below : List Frame} {meth : Method} {c : Code} {D : va_G} {E : Nat → Nat} {b L : Nat} {xs : Nat → Int32} (hx : p.tables.exec = Jvm.exec) (hb : c.code = code) (hr : meth.sig.returnType = ret) (hml : c.maxLocals = 4) (hown : s.vm.findClass R_law = some m.cls) (htb : ∀ w ∈ tb, w.before #[Value.ref b] s = true) (hK : KX D E s) (hG : SGs [((E 6), (E 8), 60, tw6), ((E 7), (E 9), 35, tw7)] (fun q : Nat => s.heap.size ≤ q) s s.heap) (hX : va_X b L xs s s.heap) (hL : L ≤ 3072) (hbl : b < s.heap.size) (hlocks : meth.locks = false) {qx qm k : Nat} {i : Int32} (hk : k ≤ 512) (hi : i.toInt = 6 * (k : Int)) (hiL : i.toInt + 6 ≤ (L : Int)) {zx : XS} {zm : MS} {H : Heap} {locs : List Loc} {ls : Array Slot} (hI : LI zx zm) (hP : va_P D vwCl (XW E qx zx ++ MW E qm zm) H) (hD : va_D (fun q : Nat => s.heap.size ≤ q) (XW E qx zx ++ MW E qm zm)) (hS : va_S (fun q : Nat => s.heap.size ≤ q) s.heap H locs) (hl : lv_has ls 4 [(3, .int i), (2, .ref qm), (1, .ref qx), (0, .ref b)]) (next : ∀ (zx : XS) (zm : MS) (H : Heap) (locs : List Loc) (ls : Array Slot), LI zx zm → va_P D vwCl (XW E qx zx ++ MW E qm zm) H → va_D (fun q : Nat => s.heap.size ≤ q) (XW E qx zx ++ MW E qm zm) → va_S (fun q : Nat => s.heap.size ≤ q) s.heap H locs → lv_has ls 4 [(3, .int i), (2, .ref qm), (1, .ref qx), (0, .ref b)] → W p l e room_1 s m #[Value.ref b] below meth c H locs ((123 + 5 * k) + 5) ((44666 + 1604 * k) + 1604) (lw_Z below #[Value.ref b] s) (F0 m 1550 ls [])) : W p l e room_1 s m #[Value.ref b] below meth c H locs (123 + 5 * k) (44666 + 1604 * k) (lw_Z below #[Value.ref b] s) (F0 m 1250 ls []) := by
  have hA : ∀ q : Nat, s.heap.size ≤ q → (fun q : Nat => s.heap.size ≤ q) q := fun _ h => h
  have hbA : ¬ (fun q : Nat => s.heap.size ≤ q) b := Nat.not_le.mpr hbl
  obtain ⟨hIx, hIm, hTR, hT2, hTV⟩ := hI
  have hI0 := hIx; have hM0 := hIm
  refine lv_aload_n hx hb dL_law_1250 rfl (lv_at hl 2 rfl) ?_
  refine lv_aload_n hx hb dL_law_1251 rfl (lv_at hl 3 rfl) ?_
  refine lv_iload_n hx hb dL_law_1252 rfl (lv_at hl 0 rfl) ?_
  refine lv_iconst (v := 1) hx hb dL_law_1253 (by decide) ?_
  refine lv_iadd hx hb dL_law_1254 ?_
  refine va_sld hx hb hX hbl hbA hS (sc_in (by omega) t_1 (by omega) (by omega) (by omega)) dL_law_1255 ?_
  refine lv_aload_n hx hb dL_law_1256 rfl (lv_at hl 3 rfl) ?_
  refine lv_iload_n hx hb dL_law_1257 rfl (lv_at hl 0 rfl) ?_
  refine lv_iconst (v := 2) hx hb dL_law_1258 (by decide) ?_
  refine lv_iadd hx hb dL_law_1259 ?_
  refine va_sld hx hb hX hbl hbA hS (sc_in (by omega) t_2 (by omega) (by omega) (by omega)) dL_law_1260 ?_
  refine lv_aload_n hx hb dL_law_1261 rfl (lv_at hl 3 rfl) ?_
  refine lv_iload_n hx hb dL_law_1262 rfl (lv_at hl 0 rfl) ?_
  refine lv_iconst (v := 3) hx hb dL_law_1263 (by decide) ?_
  refine lv_iadd hx hb dL_law_1264 ?_
  refine va_sld hx hb hX hbl hbA hS (sc_in (by omega) t_3 (by omega) (by omega) (by omega)) dL_law_1265 ?_
  refine lv_aload_n hx hb dL_law_1266 rfl (lv_at hl 3 rfl) ?_
  refine lv_iload_n hx hb dL_law_1267 rfl (lv_at hl 0 rfl) ?_
  refine lv_iconst (v := 4) hx hb dL_law_1268 (by decide) ?_
  refine lv_iadd hx hb dL_law_1269 ?_
  refine va_sld hx hb hX hbl hbA hS (sc_in (by omega) t_4 (by omega) (by omega) (by omega)) dL_law_1270 ?_
  refine aftU_i (runMG (rest := []) (As := [.int (xs (i + 1).toNatClampNeg), .int (xs (i + 2).toNatClampNeg), .int (xs (i + 3).toNatClampNeg), .int (xs (i + 4).toNatClampNeg)]) hx hb hml hown htb (U_X8_back l D E qx (xs (i + 1).toNatClampNeg) (xs (i + 2).toNatClampNeg) (xs (i + 3).toNatClampNeg) (xs (i + 4).toNatClampNeg) _ zx hIx) ok_X8_back k_870 k_871 k_872 k_1 k_873 ⟨(Nat.le_of_ble_eq_true rfl), (Nat.le_of_ble_eq_true rfl)⟩ ⟨(show (123 + 5 * k) + 0 ≤ 600000 by omega), (show (44666 + 1604 * k) + 0 ≤ 7302250 by omega)⟩ hl.1 (Nat.le_of_ble_eq_true rfl) rfl rfl dL_law_1271 (pmU (List.Perm.refl _) hP hD hK (XW_c (lP hP)) rfl rfl 0 rfl)) (List.Perm.refl _) hP hD hS hA (fun r_1 zs_3 H locs hw_2 hP hD hS => ?_)
  obtain ⟨hIx, hw_2_0⟩ := hw_2
  refine lv_pop hx hb dL_law_1274 rfl ?_
  refine lv_aload_n hx hb dL_law_1275 rfl (lv_at hl 1 rfl) ?_
  refine lv_aload_n hx hb dL_law_1276 rfl (lv_at hl 3 rfl) ?_
  refine lv_iload_n hx hb dL_law_1277 rfl (lv_at hl 0 rfl) ?_
  refine lv_iconst (v := 1) hx hb dL_law_1278 (by decide) ?_
  refine lv_iadd hx hb dL_law_1279 ?_
  refine va_sld hx hb hX hbl hbA hS (sc_in (by omega) t_1 (by omega) (by omega) (by omega)) dL_law_1280 ?_
  refine lv_aload_n hx hb dL_law_1281 rfl (lv_at hl 3 rfl) ?_
  refine lv_iload_n hx hb dL_law_1282 rfl (lv_at hl 0 rfl) ?_
  refine lv_iconst (v := 2) hx hb dL_law_1283 (by decide) ?_
  refine lv_iadd hx hb dL_law_1284 ?_
  refine va_sld hx hb hX hbl hbA hS (sc_in (by omega) t_2 (by omega) (by omega) (by omega)) dL_law_1285 ?_
  refine lv_aload_n hx hb dL_law_1286 rfl (lv_at hl 3 rfl) ?_
  refine lv_iload_n hx hb dL_law_1287 rfl (lv_at hl 0 rfl) ?_
  refine lv_iconst (v := 3) hx hb dL_law_1288 (by decide) ?_
  refine lv_iadd hx hb dL_law_1289 ?_
  refine va_sld hx hb hX hbl hbA hS (sc_in (by omega) t_3 (by omega) (by omega) (by omega)) dL_law_1290 ?_
  refine lv_aload_n hx hb dL_law_1291 rfl (lv_at hl 3 rfl) ?_
  refine lv_iload_n hx hb dL_law_1292 rfl (lv_at hl 0 rfl) ?_
  refine lv_iconst (v := 4) hx hb dL_law_1293 (by decide) ?_
  refine lv_iadd hx hb dL_law_1294 ?_
  refine va_sld hx hb hX hbl hbA hS (sc_in (by omega) t_4 (by omega) (by omega) (by omega)) dL_law_1295 ?_
  refine aftU_i (runMG (rest := []) (As := [.int (xs (i + 1).toNatClampNeg), .int (xs (i + 2).toNatClampNeg), .int (xs (i + 3).toNatClampNeg), .int (xs (i + 4).toNatClampNeg)]) hx hb hml hown htb (U_X9_back l D E qm (xs (i + 1).toNatClampNeg) (xs (i + 2).toNatClampNeg) (xs (i + 3).toNatClampNeg) (xs (i + 4).toNatClampNeg) _ zm hIm) ok_X9_back k_1448 k_1449 k_1450 k_9 k_1451 ⟨(Nat.le_of_ble_eq_true rfl), (Nat.le_of_ble_eq_true rfl)⟩ ⟨(show (123 + 5 * k) + 0 + 0 ≤ 600000 by omega), (show (44666 + 1604 * k) + 0 + 0 ≤ 7302250 by omega)⟩ hl.1 (Nat.le_of_ble_eq_true rfl) rfl rfl dL_law_1296 (pmU List.perm_append_comm hP hD hK (rP hP) rfl rfl 0 rfl)) List.perm_append_comm hP hD hS hA (fun r_4 zs_6 H locs hw_5 hP hD hS => ?_)
  have hP := sw_P hP; have hD := sw_D hD
  obtain ⟨hIm, hw_5_0⟩ := hw_5
  refine lv_pop hx hb dL_law_1299 rfl ?_
  refine lv_goto (tgt := 1550) hx hb dL_law_1300 (by decide) ?_
  refine W.widen (k := (123 + 5 * k) + 5) (n := (44666 + 1604 * k) + 1604) (by omega) (by omega) ?_
  exact next zs_3 zs_6 _ _ _ ⟨hIx, hIm, (ST_back hI0 hTR hw_2_0 hw_5_0), ⟨(TR2_k hT2.1 (K2_X8_back hw_2_0) (K2_X9_back hw_5_0)), (TT_k hT2.2.1 (K3_X8_back hw_2_0) (K3_X9_back hw_5_0)), (TU_k hT2.2.2 (K4_X8_back hw_2_0) (K4_X9_back hw_5_0))⟩, (ST5_back hI0 hTR hTV hw_2_0 hw_5_0)⟩ hP hD hS (lv_sub hl [0, 1, 2, 3] rfl)
set_option maxHeartbeats 4000000 in
set_option maxRecDepth 100000 in
theorem law_27 {p : Program} {l : Launch} {e : Env} {s : State} {m : MethodId} {below : List Frame} {meth : Method} {c : Code} {D : va_G} {E : Nat → Nat} {b L : Nat} {xs : Nat → Int32} (hx : p.tables.exec = Jvm.exec) (hb : c.code = code) (hr : meth.sig.returnType = ret) (hml : c.maxLocals = 4) (hown : s.vm.findClass R_law = some m.cls) (htb : ∀ w ∈ tb, w.before #[Value.ref b] s = true) (hK : KX D E s) (hG : SGs [((E 6), (E 8), 60, tw6), ((E 7), (E 9), 35, tw7)] (fun q : Nat => s.heap.size ≤ q) s s.heap) (hX : va_X b L xs s s.heap) (hL : L ≤ 3072) (hbl : b < s.heap.size) (hlocks : meth.locks = false) {qx qm k : Nat} {i : Int32} (hk : k ≤ 512) (hi : i.toInt = 6 * (k : Int)) (hiL : i.toInt + 6 ≤ (L : Int)) {zx : XS} {zm : MS} {H : Heap} {locs : List Loc} {ls : Array Slot} (hI : LI zx zm) (hP : va_P D vwCl (XW E qx zx ++ MW E qm zm) H) (hD : va_D (fun q : Nat => s.heap.size ≤ q) (XW E qx zx ++ MW E qm zm)) (hS : va_S (fun q : Nat => s.heap.size ≤ q) s.heap H locs) (hl : lv_has ls 4 [(3, .int i), (2, .ref qm), (1, .ref qx), (0, .ref b)]) (next : ∀ (zx : XS) (zm : MS) (H : Heap) (locs : List Loc) (ls : Array Slot), LI zx zm → va_P D vwCl (XW E qx zx ++ MW E qm zm) H → va_D (fun q : Nat => s.heap.size ≤ q) (XW E qx zx ++ MW E qm zm) → va_S (fun q : Nat => s.heap.size ≤ q) s.heap H locs → lv_has ls 4 [(3, .int i), (2, .ref qm), (1, .ref qx), (0, .ref b)] → W p l e room_1 s m #[Value.ref b] below meth c H locs ((123 + 5 * k) + 5) ((44666 + 1604 * k) + 1604) (lw_Z below #[Value.ref b] s) (F0 m 1550 ls [])) : W p l e room_1 s m #[Value.ref b] below meth c H locs (123 + 5 * k) (44666 + 1604 * k) (lw_Z below #[Value.ref b] s) (F0 m 1303 ls []) := by
  have hA : ∀ q : Nat, s.heap.size ≤ q → (fun q : Nat => s.heap.size ≤ q) q := fun _ h => h
  have hbA : ¬ (fun q : Nat => s.heap.size ≤ q) b := Nat.not_le.mpr hbl
  obtain ⟨hIx, hIm, hTR, hT2, hTV⟩ := hI
  have hI0 := hIx; have hM0 := hIm
  refine lv_aload_n hx hb dL_law_1303 rfl (lv_at hl 2 rfl) ?_
  refine lv_aload_n hx hb dL_law_1304 rfl (lv_at hl 3 rfl) ?_
  refine lv_iload_n hx hb dL_law_1305 rfl (lv_at hl 0 rfl) ?_
  refine lv_iconst (v := 1) hx hb dL_law_1306 (by decide) ?_
  refine lv_iadd hx hb dL_law_1307 ?_
  refine va_sld hx hb hX hbl hbA hS (sc_in (by omega) t_1 (by omega) (by omega) (by omega)) dL_law_1308 ?_
  refine aftU_i (runMG (rest := []) (As := [.int (xs (i + 1).toNatClampNeg)]) hx hb hml hown htb (U_X8_state l D E qx (xs (i + 1).toNatClampNeg) _ zx hIx) ok_X8_state k_882 k_883 k_884 k_1 k_885 ⟨(Nat.le_of_ble_eq_true rfl), (Nat.le_of_ble_eq_true rfl)⟩ ⟨(show (123 + 5 * k) + 0 ≤ 600000 by omega), (show (44666 + 1604 * k) + 0 ≤ 7302250 by omega)⟩ hl.1 (Nat.le_of_ble_eq_true rfl) rfl rfl dL_law_1309 (pmU (List.Perm.refl _) hP hD hK (XW_c (lP hP)) rfl rfl 0 rfl)) (List.Perm.refl _) hP hD hS hA (fun r_1 zs_3 H locs hw_2 hP hD hS => ?_)
  obtain ⟨hIx, hw_2_0⟩ := hw_2
  refine lv_pop hx hb dL_law_1312 rfl ?_
  refine lv_aload_n hx hb dL_law_1313 rfl (lv_at hl 1 rfl) ?_
  refine lv_aload_n hx hb dL_law_1314 rfl (lv_at hl 3 rfl) ?_
  refine lv_iload_n hx hb dL_law_1315 rfl (lv_at hl 0 rfl) ?_
  refine lv_iconst (v := 1) hx hb dL_law_1316 (by decide) ?_
  refine lv_iadd hx hb dL_law_1317 ?_
  refine va_sld hx hb hX hbl hbA hS (sc_in (by omega) t_1 (by omega) (by omega) (by omega)) dL_law_1318 ?_
  refine aftU_i (runMG (rest := []) (As := [.int (xs (i + 1).toNatClampNeg)]) hx hb hml hown htb (U_X9_state l D E qm (xs (i + 1).toNatClampNeg) _ zm hIm) ok_X9_state k_1452 k_1453 k_1454 k_9 k_1455 ⟨(Nat.le_of_ble_eq_true rfl), (Nat.le_of_ble_eq_true rfl)⟩ ⟨(show (123 + 5 * k) + 0 + 0 ≤ 600000 by omega), (show (44666 + 1604 * k) + 0 + 0 ≤ 7302250 by omega)⟩ hl.1 (Nat.le_of_ble_eq_true rfl) rfl rfl dL_law_1319 (pmU List.perm_append_comm hP hD hK (rP hP) rfl rfl 0 rfl)) List.perm_append_comm hP hD hS hA (fun r_4 zs_6 H locs hw_5 hP hD hS => ?_)
  have hP := sw_P hP; have hD := sw_D hD
  obtain ⟨hIm, hw_5_0⟩ := hw_5
  refine lv_pop hx hb dL_law_1322 rfl ?_
  refine lv_goto (tgt := 1550) hx hb dL_law_1323 (by decide) ?_
  refine W.widen (k := (123 + 5 * k) + 5) (n := (44666 + 1604 * k) + 1604) (by omega) (by omega) ?_
  exact next zs_3 zs_6 _ _ _ ⟨hIx, hIm, (TR_kp hTR (KP_X8_state hw_2_0) (KP_X9_state hw_5_0) (KQ_X9_state hw_5_0)), ⟨(TR2_k hT2.1 (K2_X8_state hw_2_0) (K2_X9_state hw_5_0)), (TT_k hT2.2.1 (K3_X8_state hw_2_0) (K3_X9_state hw_5_0)), (TU_k hT2.2.2 (K4_X8_state hw_2_0) (K4_X9_state hw_5_0))⟩, (TV_k hTV (K5_X8_state hw_2_0) (K5_X9_state hw_5_0))⟩ hP hD hS (lv_sub hl [0, 1, 2, 3] rfl)
set_option maxHeartbeats 4000000 in
set_option maxRecDepth 100000 in
theorem law_28 {p : Program} {l : Launch} {e : Env} {s : State} {m : MethodId} {below : List Frame} {meth : Method} {c : Code} {D : va_G} {E : Nat → Nat} {b L : Nat} {xs : Nat → Int32} (hx : p.tables.exec = Jvm.exec) (hb : c.code = code) (hr : meth.sig.returnType = ret) (hml : c.maxLocals = 4) (hown : s.vm.findClass R_law = some m.cls) (htb : ∀ w ∈ tb, w.before #[Value.ref b] s = true) (hK : KX D E s) (hG : SGs [((E 6), (E 8), 60, tw6), ((E 7), (E 9), 35, tw7)] (fun q : Nat => s.heap.size ≤ q) s s.heap) (hX : va_X b L xs s s.heap) (hL : L ≤ 3072) (hbl : b < s.heap.size) (hlocks : meth.locks = false) {qx qm k : Nat} {i : Int32} (hk : k ≤ 512) (hi : i.toInt = 6 * (k : Int)) (hiL : i.toInt + 6 ≤ (L : Int)) {zx : XS} {zm : MS} {H : Heap} {locs : List Loc} {ls : Array Slot} (hI : LI zx zm) (hP : va_P D vwCl (XW E qx zx ++ MW E qm zm) H) (hD : va_D (fun q : Nat => s.heap.size ≤ q) (XW E qx zx ++ MW E qm zm)) (hS : va_S (fun q : Nat => s.heap.size ≤ q) s.heap H locs) (hl : lv_has ls 4 [(3, .int i), (2, .ref qm), (1, .ref qx), (0, .ref b)]) (next : ∀ (zx : XS) (zm : MS) (H : Heap) (locs : List Loc) (ls : Array Slot), LI zx zm → va_P D vwCl (XW E qx zx ++ MW E qm zm) H → va_D (fun q : Nat => s.heap.size ≤ q) (XW E qx zx ++ MW E qm zm) → va_S (fun q : Nat => s.heap.size ≤ q) s.heap H locs → lv_has ls 4 [(3, .int i), (2, .ref qm), (1, .ref qx), (0, .ref b)] → W p l e room_1 s m #[Value.ref b] below meth c H locs ((123 + 5 * k) + 5) ((44666 + 1604 * k) + 1604) (lw_Z below #[Value.ref b] s) (F0 m 1550 ls [])) : W p l e room_1 s m #[Value.ref b] below meth c H locs (123 + 5 * k) (44666 + 1604 * k) (lw_Z below #[Value.ref b] s) (F0 m 1326 ls []) := by
  have hA : ∀ q : Nat, s.heap.size ≤ q → (fun q : Nat => s.heap.size ≤ q) q := fun _ h => h
  have hbA : ¬ (fun q : Nat => s.heap.size ≤ q) b := Nat.not_le.mpr hbl
  obtain ⟨hIx, hIm, hTR, hT2, hTV⟩ := hI
  have hI0 := hIx; have hM0 := hIm
  refine lv_aload_n hx hb dL_law_1326 rfl (lv_at hl 2 rfl) ?_
  refine lv_aload_n hx hb dL_law_1327 rfl (lv_at hl 3 rfl) ?_
  refine lv_iload_n hx hb dL_law_1328 rfl (lv_at hl 0 rfl) ?_
  refine lv_iconst (v := 1) hx hb dL_law_1329 (by decide) ?_
  refine lv_iadd hx hb dL_law_1330 ?_
  refine va_sld hx hb hX hbl hbA hS (sc_in (by omega) t_1 (by omega) (by omega) (by omega)) dL_law_1331 ?_
  refine aftU_i (runMG (rest := []) (As := [.int (xs (i + 1).toNatClampNeg)]) hx hb hml hown htb (U_X8_doubt l D E qx (xs (i + 1).toNatClampNeg) _ zx hIx) ok_X8_doubt k_886 k_887 k_888 k_1 k_889 ⟨(Nat.le_of_ble_eq_true rfl), (Nat.le_of_ble_eq_true rfl)⟩ ⟨(show (123 + 5 * k) + 0 ≤ 600000 by omega), (show (44666 + 1604 * k) + 0 ≤ 7302250 by omega)⟩ hl.1 (Nat.le_of_ble_eq_true rfl) rfl rfl dL_law_1332 (pmU (List.Perm.refl _) hP hD hK (XW_c (lP hP)) rfl rfl 0 rfl)) (List.Perm.refl _) hP hD hS hA (fun r_1 zs_3 H locs hw_2 hP hD hS => ?_)
  obtain ⟨hIx, hw_2_0⟩ := hw_2
  refine lv_pop hx hb dL_law_1335 rfl ?_
  refine lv_aload_n hx hb dL_law_1336 rfl (lv_at hl 1 rfl) ?_
  refine lv_aload_n hx hb dL_law_1337 rfl (lv_at hl 3 rfl) ?_
  refine lv_iload_n hx hb dL_law_1338 rfl (lv_at hl 0 rfl) ?_
  refine lv_iconst (v := 1) hx hb dL_law_1339 (by decide) ?_
  refine lv_iadd hx hb dL_law_1340 ?_
  refine va_sld hx hb hX hbl hbA hS (sc_in (by omega) t_1 (by omega) (by omega) (by omega)) dL_law_1341 ?_
  refine aftU_i (runMG (rest := []) (As := [.int (xs (i + 1).toNatClampNeg)]) hx hb hml hown htb (U_X9_doubt l D E qm (xs (i + 1).toNatClampNeg) _ zm hIm) ok_X9_doubt k_1456 k_1457 k_1458 k_9 k_1459 ⟨(Nat.le_of_ble_eq_true rfl), (Nat.le_of_ble_eq_true rfl)⟩ ⟨(show (123 + 5 * k) + 0 + 0 ≤ 600000 by omega), (show (44666 + 1604 * k) + 0 + 0 ≤ 7302250 by omega)⟩ hl.1 (Nat.le_of_ble_eq_true rfl) rfl rfl dL_law_1342 (pmU List.perm_append_comm hP hD hK (rP hP) rfl rfl 0 rfl)) List.perm_append_comm hP hD hS hA (fun r_4 zs_6 H locs hw_5 hP hD hS => ?_)
  have hP := sw_P hP; have hD := sw_D hD
  obtain ⟨hIm, hw_5_0⟩ := hw_5
  refine lv_pop hx hb dL_law_1345 rfl ?_
  refine lv_goto (tgt := 1550) hx hb dL_law_1346 (by decide) ?_
  refine W.widen (k := (123 + 5 * k) + 5) (n := (44666 + 1604 * k) + 1604) (by omega) (by omega) ?_
  exact next zs_3 zs_6 _ _ _ ⟨hIx, hIm, (ST_doubt hI0 hTR hw_2_0 hw_5_0), ⟨(ST2_doubt hI0 hTR hT2.1 hw_2_0 hw_5_0), (TT_k hT2.2.1 (K3_X8_doubt hw_2_0) (K3_X9_doubt hw_5_0)), (TU_k hT2.2.2 (K4_X8_doubt hw_2_0) (K4_X9_doubt hw_5_0))⟩, (TV_k hTV (K5_X8_doubt hw_2_0) (K5_X9_doubt hw_5_0))⟩ hP hD hS (lv_sub hl [0, 1, 2, 3] rfl)
set_option maxHeartbeats 4000000 in
set_option maxRecDepth 100000 in
theorem law_29 {p : Program} {l : Launch} {e : Env} {s : State} {m : MethodId} {below : List Frame} {meth : Method} {c : Code} {D : va_G} {E : Nat → Nat} {b L : Nat} {xs : Nat → Int32} (hx : p.tables.exec = Jvm.exec) (hb : c.code = code) (hr : meth.sig.returnType = ret) (hml : c.maxLocals = 4) (hown : s.vm.findClass R_law = some m.cls) (htb : ∀ w ∈ tb, w.before #[Value.ref b] s = true) (hK : KX D E s) (hG : SGs [((E 6), (E 8), 60, tw6), ((E 7), (E 9), 35, tw7)] (fun q : Nat => s.heap.size ≤ q) s s.heap) (hX : va_X b L xs s s.heap) (hL : L ≤ 3072) (hbl : b < s.heap.size) (hlocks : meth.locks = false) {qx qm k : Nat} {i : Int32} (hk : k ≤ 512) (hi : i.toInt = 6 * (k : Int)) (hiL : i.toInt + 6 ≤ (L : Int)) {zx : XS} {zm : MS} {H : Heap} {locs : List Loc} {ls : Array Slot} (hI : LI zx zm) (hP : va_P D vwCl (XW E qx zx ++ MW E qm zm) H) (hD : va_D (fun q : Nat => s.heap.size ≤ q) (XW E qx zx ++ MW E qm zm)) (hS : va_S (fun q : Nat => s.heap.size ≤ q) s.heap H locs) (hl : lv_has ls 4 [(3, .int i), (2, .ref qm), (1, .ref qx), (0, .ref b)]) (next : ∀ (zx : XS) (zm : MS) (H : Heap) (locs : List Loc) (ls : Array Slot), LI zx zm → va_P D vwCl (XW E qx zx ++ MW E qm zm) H → va_D (fun q : Nat => s.heap.size ≤ q) (XW E qx zx ++ MW E qm zm) → va_S (fun q : Nat => s.heap.size ≤ q) s.heap H locs → lv_has ls 4 [(3, .int i), (2, .ref qm), (1, .ref qx), (0, .ref b)] → W p l e room_1 s m #[Value.ref b] below meth c H locs ((123 + 5 * k) + 5) ((44666 + 1604 * k) + 1604) (lw_Z below #[Value.ref b] s) (F0 m 1550 ls [])) : W p l e room_1 s m #[Value.ref b] below meth c H locs (123 + 5 * k) (44666 + 1604 * k) (lw_Z below #[Value.ref b] s) (F0 m 1349 ls []) := by
  have hA : ∀ q : Nat, s.heap.size ≤ q → (fun q : Nat => s.heap.size ≤ q) q := fun _ h => h
  have hbA : ¬ (fun q : Nat => s.heap.size ≤ q) b := Nat.not_le.mpr hbl
  obtain ⟨hIx, hIm, hTR, hT2, hTV⟩ := hI
  have hI0 := hIx; have hM0 := hIm
  refine lv_aload_n hx hb dL_law_1349 rfl (lv_at hl 2 rfl) ?_
  refine lv_aload_n hx hb dL_law_1350 rfl (lv_at hl 3 rfl) ?_
  refine lv_iload_n hx hb dL_law_1351 rfl (lv_at hl 0 rfl) ?_
  refine lv_iconst (v := 1) hx hb dL_law_1352 (by decide) ?_
  refine lv_iadd hx hb dL_law_1353 ?_
  refine va_sld hx hb hX hbl hbA hS (sc_in (by omega) t_1 (by omega) (by omega) (by omega)) dL_law_1354 ?_
  refine lv_aload_n hx hb dL_law_1355 rfl (lv_at hl 3 rfl) ?_
  refine lv_iload_n hx hb dL_law_1356 rfl (lv_at hl 0 rfl) ?_
  refine lv_iconst (v := 2) hx hb dL_law_1357 (by decide) ?_
  refine lv_iadd hx hb dL_law_1358 ?_
  refine va_sld hx hb hX hbl hbA hS (sc_in (by omega) t_2 (by omega) (by omega) (by omega)) dL_law_1359 ?_
  refine lv_aload_n hx hb dL_law_1360 rfl (lv_at hl 3 rfl) ?_
  refine lv_iload_n hx hb dL_law_1361 rfl (lv_at hl 0 rfl) ?_
  refine lv_iconst (v := 3) hx hb dL_law_1362 (by decide) ?_
  refine lv_iadd hx hb dL_law_1363 ?_
  refine va_sld hx hb hX hbl hbA hS (sc_in (by omega) t_3 (by omega) (by omega) (by omega)) dL_law_1364 ?_
  refine aftU_i (runMG (rest := []) (As := [.int (xs (i + 1).toNatClampNeg), .int (xs (i + 2).toNatClampNeg), .int (xs (i + 3).toNatClampNeg)]) hx hb hml hown htb (U_X8_deal l D E qx (xs (i + 1).toNatClampNeg) (xs (i + 2).toNatClampNeg) (xs (i + 3).toNatClampNeg) _ zx hIx) ok_X8_deal k_894 k_895 k_896 k_1 k_897 ⟨(Nat.le_of_ble_eq_true rfl), (Nat.le_of_ble_eq_true rfl)⟩ ⟨(show (123 + 5 * k) + 0 ≤ 600000 by omega), (show (44666 + 1604 * k) + 0 ≤ 7302250 by omega)⟩ hl.1 (Nat.le_of_ble_eq_true rfl) rfl rfl dL_law_1365 (pmU (List.Perm.refl _) hP hD hK (XW_c (lP hP)) rfl rfl 0 rfl)) (List.Perm.refl _) hP hD hS hA (fun r_1 zs_3 H locs hw_2 hP hD hS => ?_)
  obtain ⟨hIx, hw_2_0⟩ := hw_2
  refine lv_pop hx hb dL_law_1368 rfl ?_
  refine lv_aload_n hx hb dL_law_1369 rfl (lv_at hl 1 rfl) ?_
  refine lv_aload_n hx hb dL_law_1370 rfl (lv_at hl 3 rfl) ?_
  refine lv_iload_n hx hb dL_law_1371 rfl (lv_at hl 0 rfl) ?_
  refine lv_iconst (v := 1) hx hb dL_law_1372 (by decide) ?_
  refine lv_iadd hx hb dL_law_1373 ?_
  refine va_sld hx hb hX hbl hbA hS (sc_in (by omega) t_1 (by omega) (by omega) (by omega)) dL_law_1374 ?_
  refine lv_aload_n hx hb dL_law_1375 rfl (lv_at hl 3 rfl) ?_
  refine lv_iload_n hx hb dL_law_1376 rfl (lv_at hl 0 rfl) ?_
  refine lv_iconst (v := 2) hx hb dL_law_1377 (by decide) ?_
  refine lv_iadd hx hb dL_law_1378 ?_
  refine va_sld hx hb hX hbl hbA hS (sc_in (by omega) t_2 (by omega) (by omega) (by omega)) dL_law_1379 ?_
  refine lv_aload_n hx hb dL_law_1380 rfl (lv_at hl 3 rfl) ?_
  refine lv_iload_n hx hb dL_law_1381 rfl (lv_at hl 0 rfl) ?_
  refine lv_iconst (v := 3) hx hb dL_law_1382 (by decide) ?_
  refine lv_iadd hx hb dL_law_1383 ?_
  refine va_sld hx hb hX hbl hbA hS (sc_in (by omega) t_3 (by omega) (by omega) (by omega)) dL_law_1384 ?_
  refine aftU_i (runMG (rest := []) (As := [.int (xs (i + 1).toNatClampNeg), .int (xs (i + 2).toNatClampNeg), .int (xs (i + 3).toNatClampNeg)]) hx hb hml hown htb (U_X9_deal l D E qm (xs (i + 1).toNatClampNeg) (xs (i + 2).toNatClampNeg) (xs (i + 3).toNatClampNeg) _ zm hIm) ok_X9_deal k_1460 k_1461 k_1462 k_9 k_1463 ⟨(Nat.le_of_ble_eq_true rfl), (Nat.le_of_ble_eq_true rfl)⟩ ⟨(show (123 + 5 * k) + 0 + 0 ≤ 600000 by omega), (show (44666 + 1604 * k) + 0 + 0 ≤ 7302250 by omega)⟩ hl.1 (Nat.le_of_ble_eq_true rfl) rfl rfl dL_law_1385 (pmU List.perm_append_comm hP hD hK (rP hP) rfl rfl 0 rfl)) List.perm_append_comm hP hD hS hA (fun r_4 zs_6 H locs hw_5 hP hD hS => ?_)
  have hP := sw_P hP; have hD := sw_D hD
  obtain ⟨hIm, hw_5_0⟩ := hw_5
  refine lv_pop hx hb dL_law_1388 rfl ?_
  refine lv_goto (tgt := 1550) hx hb dL_law_1389 (by decide) ?_
  refine W.widen (k := (123 + 5 * k) + 5) (n := (44666 + 1604 * k) + 1604) (by omega) (by omega) ?_
  exact next zs_3 zs_6 _ _ _ ⟨hIx, hIm, (ST_deal hI0 hTR hw_2_0 hw_5_0), ⟨(ST2_deal hI0 hTR hT2.1 hw_2_0 hw_5_0), (TT_k hT2.2.1 (K3_X8_deal hw_2_0) (K3_X9_deal hw_5_0)), (TU_k hT2.2.2 (K4_X8_deal hw_2_0) (K4_X9_deal hw_5_0))⟩, (TV_k hTV (K5_X8_deal hw_2_0) (K5_X9_deal hw_5_0))⟩ hP hD hS (lv_sub hl [0, 1, 2, 3] rfl)
set_option maxHeartbeats 4000000 in
set_option maxRecDepth 100000 in
theorem law_30 {p : Program} {l : Launch} {e : Env} {s : State} {m : MethodId} {below : List Frame} {meth : Method} {c : Code} {D : va_G} {E : Nat → Nat} {b L : Nat} {xs : Nat → Int32} (hx : p.tables.exec = Jvm.exec) (hb : c.code = code) (hr : meth.sig.returnType = ret) (hml : c.maxLocals = 4) (hown : s.vm.findClass R_law = some m.cls) (htb : ∀ w ∈ tb, w.before #[Value.ref b] s = true) (hK : KX D E s) (hG : SGs [((E 6), (E 8), 60, tw6), ((E 7), (E 9), 35, tw7)] (fun q : Nat => s.heap.size ≤ q) s s.heap) (hX : va_X b L xs s s.heap) (hL : L ≤ 3072) (hbl : b < s.heap.size) (hlocks : meth.locks = false) {qx qm k : Nat} {i : Int32} (hk : k ≤ 512) (hi : i.toInt = 6 * (k : Int)) (hiL : i.toInt + 6 ≤ (L : Int)) {zx : XS} {zm : MS} {H : Heap} {locs : List Loc} {ls : Array Slot} (hI : LI zx zm) (hP : va_P D vwCl (XW E qx zx ++ MW E qm zm) H) (hD : va_D (fun q : Nat => s.heap.size ≤ q) (XW E qx zx ++ MW E qm zm)) (hS : va_S (fun q : Nat => s.heap.size ≤ q) s.heap H locs) (hl : lv_has ls 4 [(3, .int i), (2, .ref qm), (1, .ref qx), (0, .ref b)]) (next : ∀ (zx : XS) (zm : MS) (H : Heap) (locs : List Loc) (ls : Array Slot), LI zx zm → va_P D vwCl (XW E qx zx ++ MW E qm zm) H → va_D (fun q : Nat => s.heap.size ≤ q) (XW E qx zx ++ MW E qm zm) → va_S (fun q : Nat => s.heap.size ≤ q) s.heap H locs → lv_has ls 4 [(3, .int i), (2, .ref qm), (1, .ref qx), (0, .ref b)] → W p l e room_1 s m #[Value.ref b] below meth c H locs ((123 + 5 * k) + 5) ((44666 + 1604 * k) + 1604) (lw_Z below #[Value.ref b] s) (F0 m 1550 ls [])) : W p l e room_1 s m #[Value.ref b] below meth c H locs (123 + 5 * k) (44666 + 1604 * k) (lw_Z below #[Value.ref b] s) (F0 m 1392 ls []) := by
  have hA : ∀ q : Nat, s.heap.size ≤ q → (fun q : Nat => s.heap.size ≤ q) q := fun _ h => h
  have hbA : ¬ (fun q : Nat => s.heap.size ≤ q) b := Nat.not_le.mpr hbl
  obtain ⟨hIx, hIm, hTR, hT2, hTV⟩ := hI
  have hI0 := hIx; have hM0 := hIm
  refine lv_aload_n hx hb dL_law_1392 rfl (lv_at hl 2 rfl) ?_
  refine lv_aload_n hx hb dL_law_1393 rfl (lv_at hl 3 rfl) ?_
  refine lv_iload_n hx hb dL_law_1394 rfl (lv_at hl 0 rfl) ?_
  refine lv_iconst (v := 1) hx hb dL_law_1395 (by decide) ?_
  refine lv_iadd hx hb dL_law_1396 ?_
  refine va_sld hx hb hX hbl hbA hS (sc_in (by omega) t_1 (by omega) (by omega) (by omega)) dL_law_1397 ?_
  refine aftU_i (runMG (rest := []) (As := [.int (xs (i + 1).toNatClampNeg)]) hx hb hml hown htb (U_X8_dealt l D E qx (xs (i + 1).toNatClampNeg) _ zx hIx) ok_X8_dealt k_917 k_918 k_919 k_1 k_920 ⟨(Nat.le_of_ble_eq_true rfl), (Nat.le_of_ble_eq_true rfl)⟩ ⟨(show (123 + 5 * k) + 0 ≤ 600000 by omega), (show (44666 + 1604 * k) + 0 ≤ 7302250 by omega)⟩ hl.1 (Nat.le_of_ble_eq_true rfl) rfl rfl dL_law_1398 (pmU (List.Perm.refl _) hP hD hK (XW_c (lP hP)) rfl rfl 0 rfl)) (List.Perm.refl _) hP hD hS hA (fun r_1 zs_3 H locs hw_2 hP hD hS => ?_)
  obtain ⟨hIx, hw_2_0⟩ := hw_2
  refine lv_pop hx hb dL_law_1401 rfl ?_
  refine lv_aload_n hx hb dL_law_1402 rfl (lv_at hl 1 rfl) ?_
  refine lv_aload_n hx hb dL_law_1403 rfl (lv_at hl 3 rfl) ?_
  refine lv_iload_n hx hb dL_law_1404 rfl (lv_at hl 0 rfl) ?_
  refine lv_iconst (v := 1) hx hb dL_law_1405 (by decide) ?_
  refine lv_iadd hx hb dL_law_1406 ?_
  refine va_sld hx hb hX hbl hbA hS (sc_in (by omega) t_1 (by omega) (by omega) (by omega)) dL_law_1407 ?_
  refine aftU_i (runMG (rest := []) (As := [.int (xs (i + 1).toNatClampNeg)]) hx hb hml hown htb (U_X9_dealt l D E qm (xs (i + 1).toNatClampNeg) _ zm hIm) ok_X9_dealt k_1472 k_1473 k_1474 k_9 k_1475 ⟨(Nat.le_of_ble_eq_true rfl), (Nat.le_of_ble_eq_true rfl)⟩ ⟨(show (123 + 5 * k) + 0 + 0 ≤ 600000 by omega), (show (44666 + 1604 * k) + 0 + 0 ≤ 7302250 by omega)⟩ hl.1 (Nat.le_of_ble_eq_true rfl) rfl rfl dL_law_1408 (pmU List.perm_append_comm hP hD hK (rP hP) rfl rfl 0 rfl)) List.perm_append_comm hP hD hS hA (fun r_4 zs_6 H locs hw_5 hP hD hS => ?_)
  have hP := sw_P hP; have hD := sw_D hD
  obtain ⟨hIm, hw_5_0⟩ := hw_5
  refine lv_pop hx hb dL_law_1411 rfl ?_
  refine lv_goto (tgt := 1550) hx hb dL_law_1412 (by decide) ?_
  refine W.widen (k := (123 + 5 * k) + 5) (n := (44666 + 1604 * k) + 1604) (by omega) (by omega) ?_
  exact next zs_3 zs_6 _ _ _ ⟨hIx, hIm, (TR_kp hTR (KP_X8_dealt hw_2_0) (KP_X9_dealt hw_5_0) (KQ_X9_dealt hw_5_0)), ⟨(TR2_k hT2.1 (K2_X8_dealt hw_2_0) (K2_X9_dealt hw_5_0)), (TT_k hT2.2.1 (K3_X8_dealt hw_2_0) (K3_X9_dealt hw_5_0)), (TU_k hT2.2.2 (K4_X8_dealt hw_2_0) (K4_X9_dealt hw_5_0))⟩, (TV_k hTV (K5_X8_dealt hw_2_0) (K5_X9_dealt hw_5_0))⟩ hP hD hS (lv_sub hl [0, 1, 2, 3] rfl)
set_option maxHeartbeats 4000000 in
set_option maxRecDepth 100000 in
theorem law_31 {p : Program} {l : Launch} {e : Env} {s : State} {m : MethodId} {below : List Frame} {meth : Method} {c : Code} {D : va_G} {E : Nat → Nat} {b L : Nat} {xs : Nat → Int32} (hx : p.tables.exec = Jvm.exec) (hb : c.code = code) (hr : meth.sig.returnType = ret) (hml : c.maxLocals = 4) (hown : s.vm.findClass R_law = some m.cls) (htb : ∀ w ∈ tb, w.before #[Value.ref b] s = true) (hK : KX D E s) (hG : SGs [((E 6), (E 8), 60, tw6), ((E 7), (E 9), 35, tw7)] (fun q : Nat => s.heap.size ≤ q) s s.heap) (hX : va_X b L xs s s.heap) (hL : L ≤ 3072) (hbl : b < s.heap.size) (hlocks : meth.locks = false) {qx qm k : Nat} {i : Int32} (hk : k ≤ 512) (hi : i.toInt = 6 * (k : Int)) (hiL : i.toInt + 6 ≤ (L : Int)) {zx : XS} {zm : MS} {H : Heap} {locs : List Loc} {ls : Array Slot} (hI : LI zx zm) (hP : va_P D vwCl (XW E qx zx ++ MW E qm zm) H) (hD : va_D (fun q : Nat => s.heap.size ≤ q) (XW E qx zx ++ MW E qm zm)) (hS : va_S (fun q : Nat => s.heap.size ≤ q) s.heap H locs) (hl : lv_has ls 4 [(3, .int i), (2, .ref qm), (1, .ref qx), (0, .ref b)]) (next : ∀ (zx : XS) (zm : MS) (H : Heap) (locs : List Loc) (ls : Array Slot), LI zx zm → va_P D vwCl (XW E qx zx ++ MW E qm zm) H → va_D (fun q : Nat => s.heap.size ≤ q) (XW E qx zx ++ MW E qm zm) → va_S (fun q : Nat => s.heap.size ≤ q) s.heap H locs → lv_has ls 4 [(3, .int i), (2, .ref qm), (1, .ref qx), (0, .ref b)] → W p l e room_1 s m #[Value.ref b] below meth c H locs ((123 + 5 * k) + 5) ((44666 + 1604 * k) + 1604) (lw_Z below #[Value.ref b] s) (F0 m 1550 ls [])) : W p l e room_1 s m #[Value.ref b] below meth c H locs (123 + 5 * k) (44666 + 1604 * k) (lw_Z below #[Value.ref b] s) (F0 m 1415 ls []) := by
  have hA : ∀ q : Nat, s.heap.size ≤ q → (fun q : Nat => s.heap.size ≤ q) q := fun _ h => h
  have hbA : ¬ (fun q : Nat => s.heap.size ≤ q) b := Nat.not_le.mpr hbl
  obtain ⟨hIx, hIm, hTR, hT2, hTV⟩ := hI
  have hI0 := hIx; have hM0 := hIm
  refine lv_aload_n hx hb dL_law_1415 rfl (lv_at hl 2 rfl) ?_
  refine lv_aload_n hx hb dL_law_1416 rfl (lv_at hl 3 rfl) ?_
  refine lv_iload_n hx hb dL_law_1417 rfl (lv_at hl 0 rfl) ?_
  refine lv_iconst (v := 1) hx hb dL_law_1418 (by decide) ?_
  refine lv_iadd hx hb dL_law_1419 ?_
  refine va_sld hx hb hX hbl hbA hS (sc_in (by omega) t_1 (by omega) (by omega) (by omega)) dL_law_1420 ?_
  refine lv_aload_n hx hb dL_law_1421 rfl (lv_at hl 3 rfl) ?_
  refine lv_iload_n hx hb dL_law_1422 rfl (lv_at hl 0 rfl) ?_
  refine lv_iconst (v := 2) hx hb dL_law_1423 (by decide) ?_
  refine lv_iadd hx hb dL_law_1424 ?_
  refine va_sld hx hb hX hbl hbA hS (sc_in (by omega) t_2 (by omega) (by omega) (by omega)) dL_law_1425 ?_
  refine aftU_i (runMG (rest := []) (As := [.int (xs (i + 1).toNatClampNeg), .int (xs (i + 2).toNatClampNeg)]) hx hb hml hown htb (U_X8_lend l D E qx (xs (i + 1).toNatClampNeg) (xs (i + 2).toNatClampNeg) _ zx hIx) ok_X8_lend k_921 k_922 k_923 k_1 k_924 ⟨(Nat.le_of_ble_eq_true rfl), (Nat.le_of_ble_eq_true rfl)⟩ ⟨(show (123 + 5 * k) + 0 ≤ 600000 by omega), (show (44666 + 1604 * k) + 0 ≤ 7302250 by omega)⟩ hl.1 (Nat.le_of_ble_eq_true rfl) rfl rfl dL_law_1426 (pmU (List.Perm.refl _) hP hD hK (XW_c (lP hP)) rfl rfl 0 rfl)) (List.Perm.refl _) hP hD hS hA (fun r_1 zs_3 H locs hw_2 hP hD hS => ?_)
  obtain ⟨hIx, hw_2_0⟩ := hw_2
  refine lv_pop hx hb dL_law_1429 rfl ?_
  refine lv_aload_n hx hb dL_law_1430 rfl (lv_at hl 1 rfl) ?_
  refine lv_aload_n hx hb dL_law_1431 rfl (lv_at hl 3 rfl) ?_
  refine lv_iload_n hx hb dL_law_1432 rfl (lv_at hl 0 rfl) ?_
  refine lv_iconst (v := 1) hx hb dL_law_1433 (by decide) ?_
  refine lv_iadd hx hb dL_law_1434 ?_
  refine va_sld hx hb hX hbl hbA hS (sc_in (by omega) t_1 (by omega) (by omega) (by omega)) dL_law_1435 ?_
  refine lv_aload_n hx hb dL_law_1436 rfl (lv_at hl 3 rfl) ?_
  refine lv_iload_n hx hb dL_law_1437 rfl (lv_at hl 0 rfl) ?_
  refine lv_iconst (v := 2) hx hb dL_law_1438 (by decide) ?_
  refine lv_iadd hx hb dL_law_1439 ?_
  refine va_sld hx hb hX hbl hbA hS (sc_in (by omega) t_2 (by omega) (by omega) (by omega)) dL_law_1440 ?_
  refine aftU_i (runMG (rest := []) (As := [.int (xs (i + 1).toNatClampNeg), .int (xs (i + 2).toNatClampNeg)]) hx hb hml hown htb (U_X9_lend l D E qm (xs (i + 1).toNatClampNeg) (xs (i + 2).toNatClampNeg) _ zm hIm) ok_X9_lend k_1476 k_1477 k_1478 k_9 k_1479 ⟨(Nat.le_of_ble_eq_true rfl), (Nat.le_of_ble_eq_true rfl)⟩ ⟨(show (123 + 5 * k) + 0 + 0 ≤ 600000 by omega), (show (44666 + 1604 * k) + 0 + 0 ≤ 7302250 by omega)⟩ hl.1 (Nat.le_of_ble_eq_true rfl) rfl rfl dL_law_1441 (pmU List.perm_append_comm hP hD hK (rP hP) rfl rfl 0 rfl)) List.perm_append_comm hP hD hS hA (fun r_4 zs_6 H locs hw_5 hP hD hS => ?_)
  have hP := sw_P hP; have hD := sw_D hD
  obtain ⟨hIm, hw_5_0⟩ := hw_5
  refine lv_pop hx hb dL_law_1444 rfl ?_
  refine lv_goto (tgt := 1550) hx hb dL_law_1445 (by decide) ?_
  refine W.widen (k := (123 + 5 * k) + 5) (n := (44666 + 1604 * k) + 1604) (by omega) (by omega) ?_
  exact next zs_3 zs_6 _ _ _ ⟨hIx, hIm, (ST_lend hI0 hTR hw_2_0 hw_5_0), ⟨(TR2_k hT2.1 (K2_X8_lend hw_2_0) (K2_X9_lend hw_5_0)), (TT_k hT2.2.1 (K3_X8_lend hw_2_0) (K3_X9_lend hw_5_0)), (TU_k hT2.2.2 (K4_X8_lend hw_2_0) (K4_X9_lend hw_5_0))⟩, (TV_k hTV (K5_X8_lend hw_2_0) (K5_X9_lend hw_5_0))⟩ hP hD hS (lv_sub hl [0, 1, 2, 3] rfl)
set_option maxHeartbeats 4000000 in
set_option maxRecDepth 100000 in
theorem law_32 {p : Program} {l : Launch} {e : Env} {s : State} {m : MethodId} {below : List Frame} {meth : Method} {c : Code} {D : va_G} {E : Nat → Nat} {b L : Nat} {xs : Nat → Int32} (hx : p.tables.exec = Jvm.exec) (hb : c.code = code) (hr : meth.sig.returnType = ret) (hml : c.maxLocals = 4) (hown : s.vm.findClass R_law = some m.cls) (htb : ∀ w ∈ tb, w.before #[Value.ref b] s = true) (hK : KX D E s) (hG : SGs [((E 6), (E 8), 60, tw6), ((E 7), (E 9), 35, tw7)] (fun q : Nat => s.heap.size ≤ q) s s.heap) (hX : va_X b L xs s s.heap) (hL : L ≤ 3072) (hbl : b < s.heap.size) (hlocks : meth.locks = false) {qx qm k : Nat} {i : Int32} (hk : k ≤ 512) (hi : i.toInt = 6 * (k : Int)) (hiL : i.toInt + 6 ≤ (L : Int)) {zx : XS} {zm : MS} {H : Heap} {locs : List Loc} {ls : Array Slot} (hI : LI zx zm) (hP : va_P D vwCl (XW E qx zx ++ MW E qm zm) H) (hD : va_D (fun q : Nat => s.heap.size ≤ q) (XW E qx zx ++ MW E qm zm)) (hS : va_S (fun q : Nat => s.heap.size ≤ q) s.heap H locs) (hl : lv_has ls 4 [(3, .int i), (2, .ref qm), (1, .ref qx), (0, .ref b)]) (next : ∀ (zx : XS) (zm : MS) (H : Heap) (locs : List Loc) (ls : Array Slot), LI zx zm → va_P D vwCl (XW E qx zx ++ MW E qm zm) H → va_D (fun q : Nat => s.heap.size ≤ q) (XW E qx zx ++ MW E qm zm) → va_S (fun q : Nat => s.heap.size ≤ q) s.heap H locs → lv_has ls 4 [(3, .int i), (2, .ref qm), (1, .ref qx), (0, .ref b)] → W p l e room_1 s m #[Value.ref b] below meth c H locs ((123 + 5 * k) + 5) ((44666 + 1604 * k) + 1604) (lw_Z below #[Value.ref b] s) (F0 m 1550 ls [])) : W p l e room_1 s m #[Value.ref b] below meth c H locs (123 + 5 * k) (44666 + 1604 * k) (lw_Z below #[Value.ref b] s) (F0 m 1448 ls []) := by
  have hA : ∀ q : Nat, s.heap.size ≤ q → (fun q : Nat => s.heap.size ≤ q) q := fun _ h => h
  have hbA : ¬ (fun q : Nat => s.heap.size ≤ q) b := Nat.not_le.mpr hbl
  obtain ⟨hIx, hIm, hTR, hT2, hTV⟩ := hI
  have hI0 := hIx; have hM0 := hIm
  refine lv_aload_n hx hb dL_law_1448 rfl (lv_at hl 2 rfl) ?_
  refine lv_aload_n hx hb dL_law_1449 rfl (lv_at hl 3 rfl) ?_
  refine lv_iload_n hx hb dL_law_1450 rfl (lv_at hl 0 rfl) ?_
  refine lv_iconst (v := 1) hx hb dL_law_1451 (by decide) ?_
  refine lv_iadd hx hb dL_law_1452 ?_
  refine va_sld hx hb hX hbl hbA hS (sc_in (by omega) t_1 (by omega) (by omega) (by omega)) dL_law_1453 ?_
  refine aftU_i (runMG (rest := []) (As := [.int (xs (i + 1).toNatClampNeg)]) hx hb hml hown htb (U_X8_home l D E qx (xs (i + 1).toNatClampNeg) _ zx hIx) ok_X8_home k_925 k_926 k_927 k_1 k_928 ⟨(Nat.le_of_ble_eq_true rfl), (Nat.le_of_ble_eq_true rfl)⟩ ⟨(show (123 + 5 * k) + 0 ≤ 600000 by omega), (show (44666 + 1604 * k) + 0 ≤ 7302250 by omega)⟩ hl.1 (Nat.le_of_ble_eq_true rfl) rfl rfl dL_law_1454 (pmU (List.Perm.refl _) hP hD hK (XW_c (lP hP)) rfl rfl 0 rfl)) (List.Perm.refl _) hP hD hS hA (fun r_1 zs_3 H locs hw_2 hP hD hS => ?_)
  obtain ⟨hIx, hw_2_0⟩ := hw_2
  refine lv_pop hx hb dL_law_1457 rfl ?_
  refine lv_aload_n hx hb dL_law_1458 rfl (lv_at hl 1 rfl) ?_
  refine lv_aload_n hx hb dL_law_1459 rfl (lv_at hl 3 rfl) ?_
  refine lv_iload_n hx hb dL_law_1460 rfl (lv_at hl 0 rfl) ?_
  refine lv_iconst (v := 1) hx hb dL_law_1461 (by decide) ?_
  refine lv_iadd hx hb dL_law_1462 ?_
  refine va_sld hx hb hX hbl hbA hS (sc_in (by omega) t_1 (by omega) (by omega) (by omega)) dL_law_1463 ?_
  refine aftU_i (runMG (rest := []) (As := [.int (xs (i + 1).toNatClampNeg)]) hx hb hml hown htb (U_X9_home l D E qm (xs (i + 1).toNatClampNeg) _ zm hIm) ok_X9_home k_1480 k_1481 k_1482 k_9 k_1483 ⟨(Nat.le_of_ble_eq_true rfl), (Nat.le_of_ble_eq_true rfl)⟩ ⟨(show (123 + 5 * k) + 0 + 0 ≤ 600000 by omega), (show (44666 + 1604 * k) + 0 + 0 ≤ 7302250 by omega)⟩ hl.1 (Nat.le_of_ble_eq_true rfl) rfl rfl dL_law_1464 (pmU List.perm_append_comm hP hD hK (rP hP) rfl rfl 0 rfl)) List.perm_append_comm hP hD hS hA (fun r_4 zs_6 H locs hw_5 hP hD hS => ?_)
  have hP := sw_P hP; have hD := sw_D hD
  obtain ⟨hIm, hw_5_0⟩ := hw_5
  refine lv_pop hx hb dL_law_1467 rfl ?_
  refine lv_goto (tgt := 1550) hx hb dL_law_1468 (by decide) ?_
  refine W.widen (k := (123 + 5 * k) + 5) (n := (44666 + 1604 * k) + 1604) (by omega) (by omega) ?_
  exact next zs_3 zs_6 _ _ _ ⟨hIx, hIm, (ST_home hI0 hTR hw_2_0 hw_5_0), ⟨(TR2_k hT2.1 (K2_X8_home hw_2_0) (K2_X9_home hw_5_0)), (TT_k hT2.2.1 (K3_X8_home hw_2_0) (K3_X9_home hw_5_0)), (TU_k hT2.2.2 (K4_X8_home hw_2_0) (K4_X9_home hw_5_0))⟩, (TV_k hTV (K5_X8_home hw_2_0) (K5_X9_home hw_5_0))⟩ hP hD hS (lv_sub hl [0, 1, 2, 3] rfl)
set_option maxHeartbeats 4000000 in
set_option maxRecDepth 100000 in
theorem law_33 {p : Program} {l : Launch} {e : Env} {s : State} {m : MethodId} {below : List Frame} {meth : Method} {c : Code} {D : va_G} {E : Nat → Nat} {b L : Nat} {xs : Nat → Int32} (hx : p.tables.exec = Jvm.exec) (hb : c.code = code) (hr : meth.sig.returnType = ret) (hml : c.maxLocals = 4) (hown : s.vm.findClass R_law = some m.cls) (htb : ∀ w ∈ tb, w.before #[Value.ref b] s = true) (hK : KX D E s) (hG : SGs [((E 6), (E 8), 60, tw6), ((E 7), (E 9), 35, tw7)] (fun q : Nat => s.heap.size ≤ q) s s.heap) (hX : va_X b L xs s s.heap) (hL : L ≤ 3072) (hbl : b < s.heap.size) (hlocks : meth.locks = false) {qx qm k : Nat} {i : Int32} (hk : k ≤ 512) (hi : i.toInt = 6 * (k : Int)) (hiL : i.toInt + 6 ≤ (L : Int)) {zx : XS} {zm : MS} {H : Heap} {locs : List Loc} {ls : Array Slot} (hI : LI zx zm) (hP : va_P D vwCl (XW E qx zx ++ MW E qm zm) H) (hD : va_D (fun q : Nat => s.heap.size ≤ q) (XW E qx zx ++ MW E qm zm)) (hS : va_S (fun q : Nat => s.heap.size ≤ q) s.heap H locs) (hl : lv_has ls 4 [(3, .int i), (2, .ref qm), (1, .ref qx), (0, .ref b)]) (next : ∀ (zx : XS) (zm : MS) (H : Heap) (locs : List Loc) (ls : Array Slot), LI zx zm → va_P D vwCl (XW E qx zx ++ MW E qm zm) H → va_D (fun q : Nat => s.heap.size ≤ q) (XW E qx zx ++ MW E qm zm) → va_S (fun q : Nat => s.heap.size ≤ q) s.heap H locs → lv_has ls 4 [(3, .int i), (2, .ref qm), (1, .ref qx), (0, .ref b)] → W p l e room_1 s m #[Value.ref b] below meth c H locs ((123 + 5 * k) + 5) ((44666 + 1604 * k) + 1604) (lw_Z below #[Value.ref b] s) (F0 m 1550 ls [])) : W p l e room_1 s m #[Value.ref b] below meth c H locs (123 + 5 * k) (44666 + 1604 * k) (lw_Z below #[Value.ref b] s) (F0 m 1471 ls []) := by
  have hA : ∀ q : Nat, s.heap.size ≤ q → (fun q : Nat => s.heap.size ≤ q) q := fun _ h => h
  have hbA : ¬ (fun q : Nat => s.heap.size ≤ q) b := Nat.not_le.mpr hbl
  obtain ⟨hIx, hIm, hTR, hT2, hTV⟩ := hI
  have hI0 := hIx; have hM0 := hIm
  refine lv_aload_n hx hb dL_law_1471 rfl (lv_at hl 2 rfl) ?_
  refine lv_aload_n hx hb dL_law_1472 rfl (lv_at hl 3 rfl) ?_
  refine lv_iload_n hx hb dL_law_1473 rfl (lv_at hl 0 rfl) ?_
  refine lv_iconst (v := 1) hx hb dL_law_1474 (by decide) ?_
  refine lv_iadd hx hb dL_law_1475 ?_
  refine va_sld hx hb hX hbl hbA hS (sc_in (by omega) t_1 (by omega) (by omega) (by omega)) dL_law_1476 ?_
  refine lv_aload_n hx hb dL_law_1477 rfl (lv_at hl 3 rfl) ?_
  refine lv_iload_n hx hb dL_law_1478 rfl (lv_at hl 0 rfl) ?_
  refine lv_iconst (v := 2) hx hb dL_law_1479 (by decide) ?_
  refine lv_iadd hx hb dL_law_1480 ?_
  refine va_sld hx hb hX hbl hbA hS (sc_in (by omega) t_2 (by omega) (by omega) (by omega)) dL_law_1481 ?_
  refine aftU_i (runMG (rest := []) (As := [.int (xs (i + 1).toNatClampNeg), .int (xs (i + 2).toNatClampNeg)]) hx hb hml hown htb (U_X8_holder l D E qx (xs (i + 1).toNatClampNeg) (xs (i + 2).toNatClampNeg) _ zx hIx) ok_X8_holder k_929 k_930 k_931 k_1 k_932 ⟨(Nat.le_of_ble_eq_true rfl), (Nat.le_of_ble_eq_true rfl)⟩ ⟨(show (123 + 5 * k) + 0 ≤ 600000 by omega), (show (44666 + 1604 * k) + 0 ≤ 7302250 by omega)⟩ hl.1 (Nat.le_of_ble_eq_true rfl) rfl rfl dL_law_1482 (pmU (List.Perm.refl _) hP hD hK (XW_c (lP hP)) rfl rfl 0 rfl)) (List.Perm.refl _) hP hD hS hA (fun r_1 zs_3 H locs hw_2 hP hD hS => ?_)
  obtain ⟨hIx, hw_2_0⟩ := hw_2
  refine lv_pop hx hb dL_law_1485 rfl ?_
  refine lv_aload_n hx hb dL_law_1486 rfl (lv_at hl 1 rfl) ?_
  refine lv_aload_n hx hb dL_law_1487 rfl (lv_at hl 3 rfl) ?_
  refine lv_iload_n hx hb dL_law_1488 rfl (lv_at hl 0 rfl) ?_
  refine lv_iconst (v := 1) hx hb dL_law_1489 (by decide) ?_
  refine lv_iadd hx hb dL_law_1490 ?_
  refine va_sld hx hb hX hbl hbA hS (sc_in (by omega) t_1 (by omega) (by omega) (by omega)) dL_law_1491 ?_
  refine lv_aload_n hx hb dL_law_1492 rfl (lv_at hl 3 rfl) ?_
  refine lv_iload_n hx hb dL_law_1493 rfl (lv_at hl 0 rfl) ?_
  refine lv_iconst (v := 2) hx hb dL_law_1494 (by decide) ?_
  refine lv_iadd hx hb dL_law_1495 ?_
  refine va_sld hx hb hX hbl hbA hS (sc_in (by omega) t_2 (by omega) (by omega) (by omega)) dL_law_1496 ?_
  refine aftU_i (runMG (rest := []) (As := [.int (xs (i + 1).toNatClampNeg), .int (xs (i + 2).toNatClampNeg)]) hx hb hml hown htb (U_X9_holder l D E qm (xs (i + 1).toNatClampNeg) (xs (i + 2).toNatClampNeg) _ zm hIm) ok_X9_holder k_1484 k_1485 k_1486 k_9 k_1487 ⟨(Nat.le_of_ble_eq_true rfl), (Nat.le_of_ble_eq_true rfl)⟩ ⟨(show (123 + 5 * k) + 0 + 0 ≤ 600000 by omega), (show (44666 + 1604 * k) + 0 + 0 ≤ 7302250 by omega)⟩ hl.1 (Nat.le_of_ble_eq_true rfl) rfl rfl dL_law_1497 (pmU List.perm_append_comm hP hD hK (rP hP) rfl rfl 0 rfl)) List.perm_append_comm hP hD hS hA (fun r_4 zs_6 H locs hw_5 hP hD hS => ?_)
  have hP := sw_P hP; have hD := sw_D hD
  obtain ⟨hIm, hw_5_0⟩ := hw_5
  refine lv_pop hx hb dL_law_1500 rfl ?_
  refine lv_goto (tgt := 1550) hx hb dL_law_1501 (by decide) ?_
  refine W.widen (k := (123 + 5 * k) + 5) (n := (44666 + 1604 * k) + 1604) (by omega) (by omega) ?_
  exact next zs_3 zs_6 _ _ _ ⟨hIx, hIm, (TR_kp hTR (KP_X8_holder hw_2_0) (KP_X9_holder hw_5_0) (KQ_X9_holder hw_5_0)), ⟨(TR2_k hT2.1 (K2_X8_holder hw_2_0) (K2_X9_holder hw_5_0)), (TT_k hT2.2.1 (K3_X8_holder hw_2_0) (K3_X9_holder hw_5_0)), (TU_k hT2.2.2 (K4_X8_holder hw_2_0) (K4_X9_holder hw_5_0))⟩, (TV_k hTV (K5_X8_holder hw_2_0) (K5_X9_holder hw_5_0))⟩ hP hD hS (lv_sub hl [0, 1, 2, 3] rfl)
set_option maxHeartbeats 4000000 in
set_option maxRecDepth 100000 in
theorem law_34 {p : Program} {l : Launch} {e : Env} {s : State} {m : MethodId} {below : List Frame} {meth : Method} {c : Code} {D : va_G} {E : Nat → Nat} {b L : Nat} {xs : Nat → Int32} (hx : p.tables.exec = Jvm.exec) (hb : c.code = code) (hr : meth.sig.returnType = ret) (hml : c.maxLocals = 4) (hown : s.vm.findClass R_law = some m.cls) (htb : ∀ w ∈ tb, w.before #[Value.ref b] s = true) (hK : KX D E s) (hG : SGs [((E 6), (E 8), 60, tw6), ((E 7), (E 9), 35, tw7)] (fun q : Nat => s.heap.size ≤ q) s s.heap) (hX : va_X b L xs s s.heap) (hL : L ≤ 3072) (hbl : b < s.heap.size) (hlocks : meth.locks = false) {qx qm k : Nat} {i : Int32} (hk : k ≤ 512) (hi : i.toInt = 6 * (k : Int)) (hiL : i.toInt + 6 ≤ (L : Int)) {zx : XS} {zm : MS} {H : Heap} {locs : List Loc} {ls : Array Slot} (hI : LI zx zm) (hP : va_P D vwCl (XW E qx zx ++ MW E qm zm) H) (hD : va_D (fun q : Nat => s.heap.size ≤ q) (XW E qx zx ++ MW E qm zm)) (hS : va_S (fun q : Nat => s.heap.size ≤ q) s.heap H locs) (hl : lv_has ls 4 [(3, .int i), (2, .ref qm), (1, .ref qx), (0, .ref b)]) (next : ∀ (zx : XS) (zm : MS) (H : Heap) (locs : List Loc) (ls : Array Slot), LI zx zm → va_P D vwCl (XW E qx zx ++ MW E qm zm) H → va_D (fun q : Nat => s.heap.size ≤ q) (XW E qx zx ++ MW E qm zm) → va_S (fun q : Nat => s.heap.size ≤ q) s.heap H locs → lv_has ls 4 [(3, .int i), (2, .ref qm), (1, .ref qx), (0, .ref b)] → W p l e room_1 s m #[Value.ref b] below meth c H locs ((123 + 5 * k) + 5) ((44666 + 1604 * k) + 1604) (lw_Z below #[Value.ref b] s) (F0 m 1550 ls [])) : W p l e room_1 s m #[Value.ref b] below meth c H locs (123 + 5 * k) (44666 + 1604 * k) (lw_Z below #[Value.ref b] s) (F0 m 1504 ls []) := by
  have hA : ∀ q : Nat, s.heap.size ≤ q → (fun q : Nat => s.heap.size ≤ q) q := fun _ h => h
  have hbA : ¬ (fun q : Nat => s.heap.size ≤ q) b := Nat.not_le.mpr hbl
  obtain ⟨hIx, hIm, hTR, hT2, hTV⟩ := hI
  have hI0 := hIx; have hM0 := hIm
  refine lv_aload_n hx hb dL_law_1504 rfl (lv_at hl 2 rfl) ?_
  refine lv_aload_n hx hb dL_law_1505 rfl (lv_at hl 3 rfl) ?_
  refine lv_iload_n hx hb dL_law_1506 rfl (lv_at hl 0 rfl) ?_
  refine lv_iconst (v := 1) hx hb dL_law_1507 (by decide) ?_
  refine lv_iadd hx hb dL_law_1508 ?_
  refine va_sld hx hb hX hbl hbA hS (sc_in (by omega) t_1 (by omega) (by omega) (by omega)) dL_law_1509 ?_
  refine aftU_i (runMG (rest := []) (As := [.int (xs (i + 1).toNatClampNeg)]) hx hb hml hown htb (U_X8_away l D E qx (xs (i + 1).toNatClampNeg) _ zx hIx) ok_X8_away k_933 k_934 k_935 k_1 k_936 ⟨(Nat.le_of_ble_eq_true rfl), (Nat.le_of_ble_eq_true rfl)⟩ ⟨(show (123 + 5 * k) + 0 ≤ 600000 by omega), (show (44666 + 1604 * k) + 0 ≤ 7302250 by omega)⟩ hl.1 (Nat.le_of_ble_eq_true rfl) rfl rfl dL_law_1510 (pmU (List.Perm.refl _) hP hD hK (XW_c (lP hP)) rfl rfl 0 rfl)) (List.Perm.refl _) hP hD hS hA (fun r_1 zs_3 H locs hw_2 hP hD hS => ?_)
  obtain ⟨hIx, hw_2_0⟩ := hw_2
  refine lv_pop hx hb dL_law_1513 rfl ?_
  refine lv_aload_n hx hb dL_law_1514 rfl (lv_at hl 1 rfl) ?_
  refine lv_aload_n hx hb dL_law_1515 rfl (lv_at hl 3 rfl) ?_
  refine lv_iload_n hx hb dL_law_1516 rfl (lv_at hl 0 rfl) ?_
  refine lv_iconst (v := 1) hx hb dL_law_1517 (by decide) ?_
  refine lv_iadd hx hb dL_law_1518 ?_
  refine va_sld hx hb hX hbl hbA hS (sc_in (by omega) t_1 (by omega) (by omega) (by omega)) dL_law_1519 ?_
  refine aftU_i (runMG (rest := []) (As := [.int (xs (i + 1).toNatClampNeg)]) hx hb hml hown htb (U_X9_away l D E qm (xs (i + 1).toNatClampNeg) _ zm hIm) ok_X9_away k_1488 k_1489 k_1490 k_9 k_1491 ⟨(Nat.le_of_ble_eq_true rfl), (Nat.le_of_ble_eq_true rfl)⟩ ⟨(show (123 + 5 * k) + 0 + 0 ≤ 600000 by omega), (show (44666 + 1604 * k) + 0 + 0 ≤ 7302250 by omega)⟩ hl.1 (Nat.le_of_ble_eq_true rfl) rfl rfl dL_law_1520 (pmU List.perm_append_comm hP hD hK (rP hP) rfl rfl 0 rfl)) List.perm_append_comm hP hD hS hA (fun r_4 zs_6 H locs hw_5 hP hD hS => ?_)
  have hP := sw_P hP; have hD := sw_D hD
  obtain ⟨hIm, hw_5_0⟩ := hw_5
  refine lv_pop hx hb dL_law_1523 rfl ?_
  refine lv_goto (tgt := 1550) hx hb dL_law_1524 (by decide) ?_
  refine W.widen (k := (123 + 5 * k) + 5) (n := (44666 + 1604 * k) + 1604) (by omega) (by omega) ?_
  exact next zs_3 zs_6 _ _ _ ⟨hIx, hIm, (TR_kp hTR (KP_X8_away hw_2_0) (KP_X9_away hw_5_0) (KQ_X9_away hw_5_0)), ⟨(TR2_k hT2.1 (K2_X8_away hw_2_0) (K2_X9_away hw_5_0)), (TT_k hT2.2.1 (K3_X8_away hw_2_0) (K3_X9_away hw_5_0)), (TU_k hT2.2.2 (K4_X8_away hw_2_0) (K4_X9_away hw_5_0))⟩, (TV_k hTV (K5_X8_away hw_2_0) (K5_X9_away hw_5_0))⟩ hP hD hS (lv_sub hl [0, 1, 2, 3] rfl)
set_option maxHeartbeats 4000000 in
set_option maxRecDepth 100000 in
theorem law_35 {p : Program} {l : Launch} {e : Env} {s : State} {m : MethodId} {below : List Frame} {meth : Method} {c : Code} {D : va_G} {E : Nat → Nat} {b L : Nat} {xs : Nat → Int32} (hx : p.tables.exec = Jvm.exec) (hb : c.code = code) (hr : meth.sig.returnType = ret) (hml : c.maxLocals = 4) (hown : s.vm.findClass R_law = some m.cls) (htb : ∀ w ∈ tb, w.before #[Value.ref b] s = true) (hK : KX D E s) (hG : SGs [((E 6), (E 8), 60, tw6), ((E 7), (E 9), 35, tw7)] (fun q : Nat => s.heap.size ≤ q) s s.heap) (hX : va_X b L xs s s.heap) (hL : L ≤ 3072) (hbl : b < s.heap.size) (hlocks : meth.locks = false) {qx qm k : Nat} {i : Int32} (hk : k ≤ 512) (hi : i.toInt = 6 * (k : Int)) (hiL : i.toInt + 6 ≤ (L : Int)) {zx : XS} {zm : MS} {H : Heap} {locs : List Loc} {ls : Array Slot} (hI : LI zx zm) (hP : va_P D vwCl (XW E qx zx ++ MW E qm zm) H) (hD : va_D (fun q : Nat => s.heap.size ≤ q) (XW E qx zx ++ MW E qm zm)) (hS : va_S (fun q : Nat => s.heap.size ≤ q) s.heap H locs) (hl : lv_has ls 4 [(3, .int i), (2, .ref qm), (1, .ref qx), (0, .ref b)]) (next : ∀ (zx : XS) (zm : MS) (H : Heap) (locs : List Loc) (ls : Array Slot), LI zx zm → va_P D vwCl (XW E qx zx ++ MW E qm zm) H → va_D (fun q : Nat => s.heap.size ≤ q) (XW E qx zx ++ MW E qm zm) → va_S (fun q : Nat => s.heap.size ≤ q) s.heap H locs → lv_has ls 4 [(3, .int i), (2, .ref qm), (1, .ref qx), (0, .ref b)] → W p l e room_1 s m #[Value.ref b] below meth c H locs ((123 + 5 * k) + 5) ((44666 + 1604 * k) + 1604) (lw_Z below #[Value.ref b] s) (F0 m 1550 ls [])) : W p l e room_1 s m #[Value.ref b] below meth c H locs (123 + 5 * k) (44666 + 1604 * k) (lw_Z below #[Value.ref b] s) (F0 m 1527 ls []) := by
  have hA : ∀ q : Nat, s.heap.size ≤ q → (fun q : Nat => s.heap.size ≤ q) q := fun _ h => h
  have hbA : ¬ (fun q : Nat => s.heap.size ≤ q) b := Nat.not_le.mpr hbl
  obtain ⟨hIx, hIm, hTR, hT2, hTV⟩ := hI
  have hI0 := hIx; have hM0 := hIm
  refine lv_aload_n hx hb dL_law_1527 rfl (lv_at hl 2 rfl) ?_
  refine lv_aload_n hx hb dL_law_1528 rfl (lv_at hl 3 rfl) ?_
  refine lv_iload_n hx hb dL_law_1529 rfl (lv_at hl 0 rfl) ?_
  refine lv_iconst (v := 1) hx hb dL_law_1530 (by decide) ?_
  refine lv_iadd hx hb dL_law_1531 ?_
  refine va_sld hx hb hX hbl hbA hS (sc_in (by omega) t_1 (by omega) (by omega) (by omega)) dL_law_1532 ?_
  refine aftU_i (runMG (rest := []) (As := [.int (xs (i + 1).toNatClampNeg)]) hx hb hml hown htb (U_X8_count l D E qx (xs (i + 1).toNatClampNeg) _ zx hIx) ok_X8_count k_941 k_942 k_943 k_1 k_944 ⟨(Nat.le_of_ble_eq_true rfl), (Nat.le_of_ble_eq_true rfl)⟩ ⟨(show (123 + 5 * k) + 0 ≤ 600000 by omega), (show (44666 + 1604 * k) + 0 ≤ 7302250 by omega)⟩ hl.1 (Nat.le_of_ble_eq_true rfl) rfl rfl dL_law_1533 (pmU (List.Perm.refl _) hP hD hK (XW_c (lP hP)) rfl rfl 0 rfl)) (List.Perm.refl _) hP hD hS hA (fun r_1 zs_3 H locs hw_2 hP hD hS => ?_)
  obtain ⟨hIx, hw_2_0⟩ := hw_2
  refine lv_pop hx hb dL_law_1536 rfl ?_
  refine lv_aload_n hx hb dL_law_1537 rfl (lv_at hl 1 rfl) ?_
  refine lv_aload_n hx hb dL_law_1538 rfl (lv_at hl 3 rfl) ?_
  refine lv_iload_n hx hb dL_law_1539 rfl (lv_at hl 0 rfl) ?_
  refine lv_iconst (v := 1) hx hb dL_law_1540 (by decide) ?_
  refine lv_iadd hx hb dL_law_1541 ?_
  refine va_sld hx hb hX hbl hbA hS (sc_in (by omega) t_1 (by omega) (by omega) (by omega)) dL_law_1542 ?_
  refine aftU_i (runMG (rest := []) (As := [.int (xs (i + 1).toNatClampNeg)]) hx hb hml hown htb (U_X9_count l D E qm (xs (i + 1).toNatClampNeg) _ zm hIm) ok_X9_count k_1492 k_1493 k_1494 k_9 k_1495 ⟨(Nat.le_of_ble_eq_true rfl), (Nat.le_of_ble_eq_true rfl)⟩ ⟨(show (123 + 5 * k) + 0 + 0 ≤ 600000 by omega), (show (44666 + 1604 * k) + 0 + 0 ≤ 7302250 by omega)⟩ hl.1 (Nat.le_of_ble_eq_true rfl) rfl rfl dL_law_1543 (pmU List.perm_append_comm hP hD hK (rP hP) rfl rfl 0 rfl)) List.perm_append_comm hP hD hS hA (fun r_4 zs_6 H locs hw_5 hP hD hS => ?_)
  have hP := sw_P hP; have hD := sw_D hD
  obtain ⟨hIm, hw_5_0⟩ := hw_5
  refine lv_pop hx hb dL_law_1546 rfl ?_
  refine lv_goto (tgt := 1550) hx hb dL_law_1547 (by decide) ?_
  refine W.widen (k := (123 + 5 * k) + 5) (n := (44666 + 1604 * k) + 1604) (by omega) (by omega) ?_
  exact next zs_3 zs_6 _ _ _ ⟨hIx, hIm, (TR_kp hTR (KP_X8_count hw_2_0) (KP_X9_count hw_5_0) (KQ_X9_count hw_5_0)), ⟨(TR2_k hT2.1 (K2_X8_count hw_2_0) (K2_X9_count hw_5_0)), (TT_k hT2.2.1 (K3_X8_count hw_2_0) (K3_X9_count hw_5_0)), (TU_k hT2.2.2 (K4_X8_count hw_2_0) (K4_X9_count hw_5_0))⟩, (TV_k hTV (K5_X8_count hw_2_0) (K5_X9_count hw_5_0))⟩ hP hD hS (lv_sub hl [0, 1, 2, 3] rfl)
