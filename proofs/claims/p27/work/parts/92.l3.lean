set_option maxHeartbeats 4000000 in
set_option maxRecDepth 100000 in
theorem law_loop {p : Program} {l : Launch} {e : Env} {s : State} {m : MethodId} {below : List Frame} {meth : Method} {c : Code} {D : va_G} {E : Nat → Nat} {b L : Nat} {xs : Nat → Int32} (hx : p.tables.exec = Jvm.exec) (hb : c.code = code) (hr : meth.sig.returnType = ret) (hml : c.maxLocals = 4) (hown : s.vm.findClass R_law = some m.cls) (htb : ∀ w ∈ tb, w.before #[Value.ref b] s = true) (hK : KX D E s) (hG : SGs [((E 6), (E 8), 60, tw6), ((E 7), (E 9), 35, tw7)] (fun q : Nat => s.heap.size ≤ q) s s.heap) (hX : va_X b L xs s s.heap) (hL : L ≤ 3072) (hbl : b < s.heap.size) (hlocks : meth.locks = false) {qx qm : Nat} : ∀ (N k : Nat) (i : Int32) (zx : XS) (zm : MS) (H : Heap) (locs : List Loc) (ls : Array Slot), (L : Int) + 1 - 6 * (k : Int) < (N : Int) → (6 * (k : Int) ≤ (L : Int) ∨ k = 0) → i.toInt = 6 * (k : Int) → LI zx zm → va_P D vwCl (XW E qx zx ++ MW E qm zm) H → va_D (fun q : Nat => s.heap.size ≤ q) (XW E qx zx ++ MW E qm zm) → va_S (fun q : Nat => s.heap.size ≤ q) s.heap H locs → lv_has ls 4 [(3, .int i), (2, .ref qm), (1, .ref qx), (0, .ref b)] → W p l e room_1 s m #[Value.ref b] below meth c H locs (123 + 5 * k) (44666 + 1604 * k) (lw_Z below #[Value.ref b] s) (F0 m 18 ls []) := by
  have hA : ∀ q : Nat, s.heap.size ≤ q → (fun q : Nat => s.heap.size ≤ q) q := fun _ h => h
  have hbA : ¬ (fun q : Nat => s.heap.size ≤ q) b := Nat.not_le.mpr hbl
  intro N
  induction N with
  | zero => intro k i zx zm H locs ls hm hkL; exfalso; omega
  | succ N ih =>
    intro k i zx zm H locs ls hm hkL hi hI hP hD hS hl
    have lo_i : 0 ≤ i.toInt := by omega
    have hi_i : i.toInt ≤ 3072 := by omega
    refine lv_iload_n hx hb dL_law_18 rfl (lv_at hl 0 rfl) ?_
    refine lv_aload_n hx hb dL_law_19 rfl (lv_at hl 3 rfl) ?_
    refine va_slen hx hb hX hbl hbA hS dL_law_20 ?_
    refine lv_topi (fun z_1 ez_1 => ?_)
    have jz_1 := len_toInt hL ez_1
    refine lv_bipush (v := 6) hx hb dL_law_21 (by decide) ?_
    refine lv_isub hx hb dL_law_23 ?_
    refine lv_topi (fun z_2 ez_2 => ?_)
    have jz_2 : z_2.toInt = z_1.toInt - 6 := by rw [ez_2]; exact g_sub rfl t_6 (by omega) (by omega)
    refine lv_icmp_gt (tgt := 1556) hx hb dL_law_24 (by decide) (fun c_3 => ?_) (fun c_3 => ?_)
    ·
      have ic_3 : z_2.toInt < i.toInt := by first | exact (g_lt rfl rfl).mp c_3 | (have h := mt (g_le rfl rfl).mpr c_3; omega)
      clear c_3
      refine lv_iconst (v := 1) hx hb dL_law_1556 (by decide) ?_
      refine va_forget (fun q hq => hS.2.2 q hq) ?_
      refine W.widen (k := 600000) (n := 7302250) (by omega) (by omega) ?_
      exact lw_ret hx hb hr hlocks dL_law_1557
    ·
      have ic_3 : i.toInt ≤ z_2.toInt := by first | exact (g_le rfl rfl).mp c_3 | (have h := mt (g_lt rfl rfl).mpr c_3; omega)
      clear c_3
      refine lv_aload_n hx hb dL_law_27 rfl (lv_at hl 3 rfl) ?_
      refine lv_iload_n hx hb dL_law_28 rfl (lv_at hl 0 rfl) ?_
      refine va_sld hx hb hX hbl hbA hS (g_in rfl (by omega) (by omega)) dL_law_29 ?_
      refine lv_bipush (v := 63) hx hb dL_law_30 (by decide) ?_
      refine lv_iand hx hb dL_law_32 ?_
      refine lv_topi (fun z_4 ez_4 => ?_)
      have next : ∀ (zx : XS) (zm : MS) (H : Heap) (locs : List Loc) (ls : Array Slot), LI zx zm → va_P D vwCl (XW E qx zx ++ MW E qm zm) H → va_D (fun q : Nat => s.heap.size ≤ q) (XW E qx zx ++ MW E qm zm) → va_S (fun q : Nat => s.heap.size ≤ q) s.heap H locs → lv_has ls 4 [(3, .int i), (2, .ref qm), (1, .ref qx), (0, .ref b)] → W p l e room_1 s m #[Value.ref b] below meth c H locs ((123 + 5 * k) + 5) ((44666 + 1604 * k) + 1604) (lw_Z below #[Value.ref b] s) (F0 m 1550 ls []) := by
        intro zx zm H locs ls hI hP hD hS hl
        obtain ⟨y, ey⟩ : ∃ y : Int32, y = i + 6 := ⟨_, rfl⟩
        have jy : y.toInt = i.toInt + 6 := by rw [ey]; exact g_add rfl t_6 (by omega) (by omega)
        refine lv_iinc (v := y) (lv' := [(3, .int y), (2, .ref qm), (1, .ref qx), (0, .ref b)]) hx hb dL_law_1550 hl (k := 0) rfl (by rw [ey]; rfl) (by decide) rfl (fun ls hl => ?_)
        refine lv_goto (tgt := 18) hx hb dL_law_1553 (by decide) ?_
        have h9 := ih (k + 1) y zx zm H locs ls (by omega) (Or.inl (by omega)) (by omega) hI hP hD hS hl
        rw [show (123 + 5 * (k + 1)) = (123 + 5 * k) + 5 by omega, show (44666 + 1604 * (k + 1)) = (44666 + 1604 * k) + 1604 by omega] at h9
        exact h9
      have hl := lv_sub hl [0, 1, 2, 3] rfl (l' := [(3, .int i), (2, .ref qm), (1, .ref qx), (0, .ref b)])
      by_cases h_5 : z_4.toInt < 0 ∨ 35 < z_4.toInt
      · refine lv_tableOut (tgt := 1550) hx hb dL_law_33 h_5 (by decide) ?_
        refine W.widen (k := (123 + 5 * k) + 5) (n := (44666 + 1604 * k) + 1604) (by omega) (by omega) ?_
        exact next zx zm _ _ _ hI hP hD hS hl
      ·
        have h_6 : z_4.toInt = 0 ∨ z_4.toInt = 1 ∨ z_4.toInt = 2 ∨ z_4.toInt = 3 ∨ z_4.toInt = 4 ∨ z_4.toInt = 5 ∨ z_4.toInt = 6 ∨ z_4.toInt = 7 ∨ z_4.toInt = 8 ∨ z_4.toInt = 9 ∨ z_4.toInt = 10 ∨ z_4.toInt = 11 ∨ z_4.toInt = 12 ∨ z_4.toInt = 13 ∨ z_4.toInt = 14 ∨ z_4.toInt = 15 ∨ z_4.toInt = 16 ∨ z_4.toInt = 17 ∨ z_4.toInt = 18 ∨ z_4.toInt = 19 ∨ z_4.toInt = 20 ∨ z_4.toInt = 21 ∨ z_4.toInt = 22 ∨ z_4.toInt = 23 ∨ z_4.toInt = 24 ∨ z_4.toInt = 25 ∨ z_4.toInt = 26 ∨ z_4.toInt = 27 ∨ z_4.toInt = 28 ∨ z_4.toInt = 29 ∨ z_4.toInt = 30 ∨ z_4.toInt = 31 ∨ z_4.toInt = 32 ∨ z_4.toInt = 33 ∨ z_4.toInt = 34 ∨ z_4.toInt = 35 := by omega
        rcases h_6 with h_6 | h_6 | h_6 | h_6 | h_6 | h_6 | h_6 | h_6 | h_6 | h_6 | h_6 | h_6 | h_6 | h_6 | h_6 | h_6 | h_6 | h_6 | h_6 | h_6 | h_6 | h_6 | h_6 | h_6 | h_6 | h_6 | h_6 | h_6 | h_6 | h_6 | h_6 | h_6 | h_6 | h_6 | h_6 | h_6
        · refine lv_tableIn (off := 159) (tgt := 192) hx hb dL_law_33 (by omega) (by omega) (by rw [h_6]; decide) (by decide) ?_
          exact law_0 hx hb hr hml hown htb hK hG hX hL hbl hlocks (by omega) hi (by omega) hI hP hD hS hl next
        · refine lv_tableIn (off := 182) (tgt := 215) hx hb dL_law_33 (by omega) (by omega) (by rw [h_6]; decide) (by decide) ?_
          exact law_1 hx hb hr hml hown htb hK hG hX hL hbl hlocks (by omega) hi (by omega) hI hP hD hS hl next
        · refine lv_tableIn (off := 215) (tgt := 248) hx hb dL_law_33 (by omega) (by omega) (by rw [h_6]; decide) (by decide) ?_
          exact law_2 hx hb hr hml hown htb hK hG hX hL hbl hlocks (by omega) hi (by omega) hI hP hD hS hl next
        · refine lv_tableIn (off := 258) (tgt := 291) hx hb dL_law_33 (by omega) (by omega) (by rw [h_6]; decide) (by decide) ?_
          exact law_3 hx hb hr hml hown htb hK hG hX hL hbl hlocks (by omega) hi (by omega) hI hP hD hS hl next
        · refine lv_tableIn (off := 281) (tgt := 314) hx hb dL_law_33 (by omega) (by omega) (by rw [h_6]; decide) (by decide) ?_
          exact law_4 hx hb hr hml hown htb hK hG hX hL hbl hlocks (by omega) hi (by omega) hI hP hD hS hl next
        · refine lv_tableIn (off := 304) (tgt := 337) hx hb dL_law_33 (by omega) (by omega) (by rw [h_6]; decide) (by decide) ?_
          exact law_5 hx hb hr hml hown htb hK hG hX hL hbl hlocks (by omega) hi (by omega) hI hP hD hS hl next
        · refine lv_tableIn (off := 327) (tgt := 360) hx hb dL_law_33 (by omega) (by omega) (by rw [h_6]; decide) (by decide) ?_
          exact law_6 hx hb hr hml hown htb hK hG hX hL hbl hlocks (by omega) hi (by omega) hI hP hD hS hl next
        · refine lv_tableIn (off := 380) (tgt := 413) hx hb dL_law_33 (by omega) (by omega) (by rw [h_6]; decide) (by decide) ?_
          exact law_7 hx hb hr hml hown htb hK hG hX hL hbl hlocks (by omega) hi (by omega) hI hP hD hS hl next
        · refine lv_tableIn (off := 423) (tgt := 456) hx hb dL_law_33 (by omega) (by omega) (by rw [h_6]; decide) (by decide) ?_
          exact law_8 hx hb hr hml hown htb hK hG hX hL hbl hlocks (by omega) hi (by omega) hI hP hD hS hl next
        · refine lv_tableIn (off := 466) (tgt := 499) hx hb dL_law_33 (by omega) (by omega) (by rw [h_6]; decide) (by decide) ?_
          exact law_9 hx hb hr hml hown htb hK hG hX hL hbl hlocks (by omega) hi (by omega) hI hP hD hS hl next
        · refine lv_tableIn (off := 499) (tgt := 532) hx hb dL_law_33 (by omega) (by omega) (by rw [h_6]; decide) (by decide) ?_
          exact law_10 hx hb hr hml hown htb hK hG hX hL hbl hlocks (by omega) hi (by omega) hI hP hD hS hl next
        · refine lv_tableIn (off := 532) (tgt := 565) hx hb dL_law_33 (by omega) (by omega) (by rw [h_6]; decide) (by decide) ?_
          exact law_11 hx hb hr hml hown htb hK hG hX hL hbl hlocks (by omega) hi (by omega) hI hP hD hS hl next
        · refine lv_tableIn (off := 565) (tgt := 598) hx hb dL_law_33 (by omega) (by omega) (by rw [h_6]; decide) (by decide) ?_
          exact law_12 hx hb hr hml hown htb hK hG hX hL hbl hlocks (by omega) hi (by omega) hI hP hD hS hl next
        · refine lv_tableIn (off := 618) (tgt := 651) hx hb dL_law_33 (by omega) (by omega) (by rw [h_6]; decide) (by decide) ?_
          exact law_13 hx hb hr hml hown htb hK hG hX hL hbl hlocks (by omega) hi (by omega) hI hP hD hS hl next
        · refine lv_tableIn (off := 671) (tgt := 704) hx hb dL_law_33 (by omega) (by omega) (by rw [h_6]; decide) (by decide) ?_
          exact law_14 hx hb hr hml hown htb hK hG hX hL hbl hlocks (by omega) hi (by omega) hI hP hD hS hl next
        · refine lv_tableIn (off := 714) (tgt := 747) hx hb dL_law_33 (by omega) (by omega) (by rw [h_6]; decide) (by decide) ?_
          exact law_15 hx hb hr hml hown htb hK hG hX hL hbl hlocks (by omega) hi (by omega) hI hP hD hS hl next
        · refine lv_tableIn (off := 757) (tgt := 790) hx hb dL_law_33 (by omega) (by omega) (by rw [h_6]; decide) (by decide) ?_
          exact law_16 hx hb hr hml hown htb hK hG hX hL hbl hlocks (by omega) hi (by omega) hI hP hD hS hl next
        · refine lv_tableIn (off := 820) (tgt := 853) hx hb dL_law_33 (by omega) (by omega) (by rw [h_6]; decide) (by decide) ?_
          exact law_17 hx hb hr hml hown htb hK hG hX hL hbl hlocks (by omega) hi (by omega) hI hP hD hS hl next
        · refine lv_tableIn (off := 873) (tgt := 906) hx hb dL_law_33 (by omega) (by omega) (by rw [h_6]; decide) (by decide) ?_
          exact law_18 hx hb hr hml hown htb hK hG hX hL hbl hlocks (by omega) hi (by omega) hI hP hD hS hl next
        · refine lv_tableIn (off := 906) (tgt := 939) hx hb dL_law_33 (by omega) (by omega) (by rw [h_6]; decide) (by decide) ?_
          exact law_19 hx hb hr hml hown htb hK hG hX hL hbl hlocks (by omega) hi (by omega) hI hP hD hS hl next
        · refine lv_tableIn (off := 929) (tgt := 962) hx hb dL_law_33 (by omega) (by omega) (by rw [h_6]; decide) (by decide) ?_
          exact law_20 hx hb hr hml hown htb hK hG hX hL hbl hlocks (by omega) hi (by omega) hI hP hD hS hl next
        · refine lv_tableIn (off := 972) (tgt := 1005) hx hb dL_law_33 (by omega) (by omega) (by rw [h_6]; decide) (by decide) ?_
          exact law_21 hx hb hr hml hown htb hK hG hX hL hbl hlocks (by omega) hi (by omega) hI hP hD hS hl next
        · refine lv_tableIn (off := 1015) (tgt := 1048) hx hb dL_law_33 (by omega) (by omega) (by rw [h_6]; decide) (by decide) ?_
          exact law_22 hx hb hr hml hown htb hK hG hX hL hbl hlocks (by omega) hi (by omega) hI hP hD hS hl next
        · refine lv_tableIn (off := 1068) (tgt := 1101) hx hb dL_law_33 (by omega) (by omega) (by rw [h_6]; decide) (by decide) ?_
          exact law_23 hx hb hr hml hown htb hK hG hX hL hbl hlocks (by omega) hi (by omega) hI hP hD hS hl next
        · refine lv_tableIn (off := 1111) (tgt := 1144) hx hb dL_law_33 (by omega) (by omega) (by rw [h_6]; decide) (by decide) ?_
          exact law_24 hx hb hr hml hown htb hK hG hX hL hbl hlocks (by omega) hi (by omega) hI hP hD hS hl next
        · refine lv_tableIn (off := 1174) (tgt := 1207) hx hb dL_law_33 (by omega) (by omega) (by rw [h_6]; decide) (by decide) ?_
          exact law_25 hx hb hr hml hown htb hK hG hX hL hbl hlocks (by omega) hi (by omega) hI hP hD hS hl next
        · refine lv_tableIn (off := 1217) (tgt := 1250) hx hb dL_law_33 (by omega) (by omega) (by rw [h_6]; decide) (by decide) ?_
          exact law_26 hx hb hr hml hown htb hK hG hX hL hbl hlocks (by omega) hi (by omega) hI hP hD hS hl next
        · refine lv_tableIn (off := 1270) (tgt := 1303) hx hb dL_law_33 (by omega) (by omega) (by rw [h_6]; decide) (by decide) ?_
          exact law_27 hx hb hr hml hown htb hK hG hX hL hbl hlocks (by omega) hi (by omega) hI hP hD hS hl next
        · refine lv_tableIn (off := 1293) (tgt := 1326) hx hb dL_law_33 (by omega) (by omega) (by rw [h_6]; decide) (by decide) ?_
          exact law_28 hx hb hr hml hown htb hK hG hX hL hbl hlocks (by omega) hi (by omega) hI hP hD hS hl next
        · refine lv_tableIn (off := 1316) (tgt := 1349) hx hb dL_law_33 (by omega) (by omega) (by rw [h_6]; decide) (by decide) ?_
          exact law_29 hx hb hr hml hown htb hK hG hX hL hbl hlocks (by omega) hi (by omega) hI hP hD hS hl next
        · refine lv_tableIn (off := 1359) (tgt := 1392) hx hb dL_law_33 (by omega) (by omega) (by rw [h_6]; decide) (by decide) ?_
          exact law_30 hx hb hr hml hown htb hK hG hX hL hbl hlocks (by omega) hi (by omega) hI hP hD hS hl next
        · refine lv_tableIn (off := 1382) (tgt := 1415) hx hb dL_law_33 (by omega) (by omega) (by rw [h_6]; decide) (by decide) ?_
          exact law_31 hx hb hr hml hown htb hK hG hX hL hbl hlocks (by omega) hi (by omega) hI hP hD hS hl next
        · refine lv_tableIn (off := 1415) (tgt := 1448) hx hb dL_law_33 (by omega) (by omega) (by rw [h_6]; decide) (by decide) ?_
          exact law_32 hx hb hr hml hown htb hK hG hX hL hbl hlocks (by omega) hi (by omega) hI hP hD hS hl next
        · refine lv_tableIn (off := 1438) (tgt := 1471) hx hb dL_law_33 (by omega) (by omega) (by rw [h_6]; decide) (by decide) ?_
          exact law_33 hx hb hr hml hown htb hK hG hX hL hbl hlocks (by omega) hi (by omega) hI hP hD hS hl next
        · refine lv_tableIn (off := 1471) (tgt := 1504) hx hb dL_law_33 (by omega) (by omega) (by rw [h_6]; decide) (by decide) ?_
          exact law_34 hx hb hr hml hown htb hK hG hX hL hbl hlocks (by omega) hi (by omega) hI hP hD hS hl next
        · refine lv_tableIn (off := 1494) (tgt := 1527) hx hb dL_law_33 (by omega) (by omega) (by rw [h_6]; decide) (by decide) ?_
          exact law_35 hx hb hr hml hown htb hK hG hX hL hbl hlocks (by omega) hi (by omega) hI hP hD hS hl next
