/-! decode rows: a byte list walked by recursors, and a lemma for each opcode -/
theorem toW {D : va_G} {cl : List vw_C} {ws ws' : va_W} {H : Heap} {A : Nat → Prop} (_ : va_P D cl ws H) (hD : va_D A ws') (e : ws' = ws) : va_D A ws := by rw [← e]; exact hD
noncomputable def drp (l : List UInt8) : Nat → List UInt8 := @List.rec UInt8 (fun _ => Nat → List UInt8) (fun _ => []) (fun x t ih n => @Nat.rec (fun _ => List UInt8) (x :: t) (fun m _ => ih m) n) l
theorem drp_eq (l : List UInt8) : ∀ n, drp l n = l.drop n := by
  induction l with
  | nil => intro n; cases n <;> rfl
  | cons x t ih =>
    intro n
    cases n with
    | zero => rfl
    | succ m => exact ih m
theorem dr_get {l : List UInt8} {pc : Nat} {x : UInt8} {t : List UInt8} (h : drp l pc = x :: t) : ∃ hp : pc < l.length, l[pc] = x ∧ drp l (pc + 1) = t := by
  rw [drp_eq] at h
  have hp : pc < l.length := by
    rcases Nat.lt_or_ge pc l.length with g | g
    · exact g
    · rw [List.drop_eq_nil_of_le g] at h; cases h
  rw [List.drop_eq_getElem_cons hp] at h
  injection h with h1 h2
  exact ⟨hp, h1, by rw [drp_eq]; exact h2⟩
theorem q_u1 {l : List UInt8} {p : Nat} {x : UInt8} {t : List UInt8} (h : drp l p = x :: t) : (Jvm.ClassFile.Reader.u1 : Jvm.ClassFile.Decoder Nat) ⟨⟨l⟩⟩ p = .ok (x.toNat, p + 1) := by
  obtain ⟨hp, e, -⟩ := dr_get h
  have hq : p < (ByteArray.mk ⟨l⟩).size := hp
  show (dite (p < (ByteArray.mk ⟨l⟩).size) (fun h => (do set (p + 1); pure ((ByteArray.mk ⟨l⟩)[p]'h).toNat : Jvm.ClassFile.Decoder Nat)) (fun _ => throw (Jvm.ClassFile.HasTruncated.truncated p))) ⟨⟨l⟩⟩ p = _
  rw [dif_pos hq]
  show Except.ok (((ByteArray.mk ⟨l⟩)[p]'hq).toNat, p + 1) = _
  rw [show (ByteArray.mk ⟨l⟩)[p]'hq = x from e]
theorem q_bind {α β : Type} {x : Jvm.ClassFile.Decoder α} {f : α → Jvm.ClassFile.Decoder β} {c : ByteArray} {p p' : Nat} {a : α} (h : x c p = .ok (a, p')) : (x >>= f) c p = f a c p' := by
  have e : (x >>= f) c p = Except.bind (x c p) (fun v => f v.1 c v.2) := rfl
  rw [e, h]; rfl
theorem q_map {α β : Type} {g : α → β} {x : Jvm.ClassFile.Decoder α} {c : ByteArray} {p p' : Nat} {a : α} (h : x c p = .ok (a, p')) : (g <$> x) c p = .ok (g a, p') := by
  have e : (g <$> x) c p = Except.bind (x c p) (fun v => .ok (g v.1, v.2)) := rfl
  rw [e, h]; rfl
theorem q_u2 {l : List UInt8} {p : Nat} {y z : UInt8} {t : List UInt8} (h : drp l p = y :: z :: t) : (Jvm.ClassFile.Reader.u2 : Jvm.ClassFile.Decoder Nat) ⟨⟨l⟩⟩ p = .ok (y.toNat * 256 + z.toNat, p + 2) := by
  obtain ⟨-, -, h2⟩ := dr_get h
  show ((Jvm.ClassFile.Reader.u1 >>= fun hi => Jvm.ClassFile.Reader.u1 >>= fun lo => pure (hi * 256 + lo)) : Jvm.ClassFile.Decoder Nat) ⟨⟨l⟩⟩ p = _
  rw [q_bind (q_u1 h), q_bind (q_u1 h2)]; rfl
theorem q_dec {c : ByteArray} {pc n : Nat} {i : Jvm.ClassFile.Instr} (h : Jvm.ClassFile.Decoder.instr pc c pc = .ok (i, n)) : decode c pc = .ok (i, n - pc) := by
  have e : decode c pc = Except.bind (Jvm.ClassFile.Decoder.instr pc c pc) (fun v => .ok (v.1, v.2 - pc)) := rfl
  rw [e, h]; rfl
theorem q_decN {c : ByteArray} {pc n : Nat} {i : Jvm.ClassFile.Instr} (h : Jvm.ClassFile.Decoder.instr pc c pc = .ok (i, pc + n)) : decode c pc = .ok (i, n) := by
  rw [q_dec h, Nat.add_sub_cancel_left]
theorem q_op {op p : Nat} {c : ByteArray} {r : Except Jvm.ClassFile.DecodeError (Jvm.ClassFile.Instr × Nat)} {f : Nat → Jvm.ClassFile.Decoder Jvm.ClassFile.Instr} {x : UInt8} (h : (Jvm.ClassFile.Reader.u1 : Jvm.ClassFile.Decoder Nat) c p = .ok (x.toNat, p + 1)) (hx : x.toNat = op) (hf : f op c (p + 1) = r) : (Jvm.ClassFile.Reader.u1 >>= f) c p = r := by
  rw [q_bind h, hx]; exact hf
theorem q_s1 {l : List UInt8} {p : Nat} {x : UInt8} {t : List UInt8} (h : drp l p = x :: t) : (Jvm.ClassFile.Reader.s1 : Jvm.ClassFile.Decoder Int) ⟨⟨l⟩⟩ p = .ok (Jvm.ClassFile.Reader.signed 8 x.toNat, p + 1) := by
  unfold Jvm.ClassFile.Reader.s1; exact q_map (q_u1 h)
theorem q_s2 {l : List UInt8} {p : Nat} {y z : UInt8} {t : List UInt8} (h : drp l p = y :: z :: t) : (Jvm.ClassFile.Reader.s2 : Jvm.ClassFile.Decoder Int) ⟨⟨l⟩⟩ p = .ok (Jvm.ClassFile.Reader.signed 16 (y.toNat * 256 + z.toNat), p + 2) := by
  unfold Jvm.ClassFile.Reader.s2; exact q_map (q_u2 h)
def bt_n (op : Nat) (d : List UInt8) : Bool := match d with
  | x :: _ => Nat.beq x.toNat op
  | [] => false
def bt_u1 (op v : Nat) (d : List UInt8) : Bool := match d with
  | x :: y :: _ => and (Nat.beq x.toNat op) (Nat.beq y.toNat v)
  | _ => false
def bt_s1 (op : Nat) (v : Int) (d : List UInt8) : Bool := match d with
  | x :: y :: _ => and (Nat.beq x.toNat op) (decide (Jvm.ClassFile.Reader.signed 8 y.toNat = v))
  | _ => false
def bt_u2 (op v : Nat) (d : List UInt8) : Bool := match d with
  | x :: y :: z :: _ => and (Nat.beq x.toNat op) (Nat.beq (y.toNat * 256 + z.toNat) v)
  | _ => false
def bt_s2 (op : Nat) (v : Int) (d : List UInt8) : Bool := match d with
  | x :: y :: z :: _ => and (Nat.beq x.toNat op) (decide (Jvm.ClassFile.Reader.signed 16 (y.toNat * 256 + z.toNat) = v))
  | _ => false
def bt_ii (op v : Nat) (w : Int) (d : List UInt8) : Bool := match d with
  | x :: y :: z :: _ => and (Nat.beq x.toNat op) (and (Nat.beq y.toNat v) (decide (Jvm.ClassFile.Reader.signed 8 z.toNat = w)))
  | _ => false
theorem drq_bt {f : List UInt8 → Bool} {l : List UInt8} {pc : Nat} (a b : Nat) (hab : a + b = pc) (h : f (drp (drp l a) b) = true) : f (drp l pc) = true := by
  have e : drp (drp l a) b = drp l pc := by rw [drp_eq, drp_eq, drp_eq, List.drop_drop, hab]
  rw [← e]; exact h
theorem an_b {a b : Bool} (h : and a b = true) : a = true ∧ b = true := by cases a <;> cases b <;> first | exact ⟨rfl, rfl⟩ | cases h
theorem bt_n_ok {l : List UInt8} {pc op : Nat} (h : bt_n op (drp (ByteArray.mk ⟨l⟩).data.toList pc) = true) : ∃ x t, drp l pc = x :: t ∧ x.toNat = op := by
  have h : (match drp l pc with | x :: _ => Nat.beq x.toNat op | [] => false) = true := h
  revert h
  cases drp l pc with
  | nil => intro h; cases h
  | cons x t => intro h; exact ⟨x, t, rfl, Nat.eq_of_beq_eq_true h⟩
theorem bt_u1_ok {l : List UInt8} {pc op v : Nat} (h : bt_u1 op v (drp (ByteArray.mk ⟨l⟩).data.toList pc) = true) : ∃ x y t, drp l pc = x :: y :: t ∧ x.toNat = op ∧ y.toNat = v := by
  have h : (match drp l pc with | x :: y :: _ => and (Nat.beq x.toNat op) (Nat.beq y.toNat v) | _ => false) = true := h
  revert h
  rcases drp l pc with _ | ⟨x, _ | ⟨y, t⟩⟩ <;> intro h
  · cases h
  · cases h
  · exact ⟨x, y, t, rfl, Nat.eq_of_beq_eq_true (an_b h).1, Nat.eq_of_beq_eq_true (an_b h).2⟩
theorem bt_s1_ok {l : List UInt8} {pc op : Nat} {v : Int} (h : bt_s1 op v (drp (ByteArray.mk ⟨l⟩).data.toList pc) = true) : ∃ x y t, drp l pc = x :: y :: t ∧ x.toNat = op ∧ Jvm.ClassFile.Reader.signed 8 y.toNat = v := by
  have h : (match drp l pc with | x :: y :: _ => and (Nat.beq x.toNat op) (decide (Jvm.ClassFile.Reader.signed 8 y.toNat = v)) | _ => false) = true := h
  revert h
  rcases drp l pc with _ | ⟨x, _ | ⟨y, t⟩⟩ <;> intro h
  · cases h
  · cases h
  · exact ⟨x, y, t, rfl, Nat.eq_of_beq_eq_true (an_b h).1, of_decide_eq_true (an_b h).2⟩
theorem bt_u2_ok {l : List UInt8} {pc op v : Nat} (h : bt_u2 op v (drp (ByteArray.mk ⟨l⟩).data.toList pc) = true) : ∃ x y z t, drp l pc = x :: y :: z :: t ∧ x.toNat = op ∧ y.toNat * 256 + z.toNat = v := by
  have h : (match drp l pc with | x :: y :: z :: _ => and (Nat.beq x.toNat op) (Nat.beq (y.toNat * 256 + z.toNat) v) | _ => false) = true := h
  revert h
  rcases drp l pc with _ | ⟨x, _ | ⟨y, _ | ⟨z, t⟩⟩⟩ <;> intro h
  · cases h
  · cases h
  · cases h
  · exact ⟨x, y, z, t, rfl, Nat.eq_of_beq_eq_true (an_b h).1, Nat.eq_of_beq_eq_true (an_b h).2⟩
theorem bt_s2_ok {l : List UInt8} {pc op : Nat} {v : Int} (h : bt_s2 op v (drp (ByteArray.mk ⟨l⟩).data.toList pc) = true) : ∃ x y z t, drp l pc = x :: y :: z :: t ∧ x.toNat = op ∧ Jvm.ClassFile.Reader.signed 16 (y.toNat * 256 + z.toNat) = v := by
  have h : (match drp l pc with | x :: y :: z :: _ => and (Nat.beq x.toNat op) (decide (Jvm.ClassFile.Reader.signed 16 (y.toNat * 256 + z.toNat) = v)) | _ => false) = true := h
  revert h
  rcases drp l pc with _ | ⟨x, _ | ⟨y, _ | ⟨z, t⟩⟩⟩ <;> intro h
  · cases h
  · cases h
  · cases h
  · exact ⟨x, y, z, t, rfl, Nat.eq_of_beq_eq_true (an_b h).1, of_decide_eq_true (an_b h).2⟩
theorem bt_ii_ok {l : List UInt8} {pc op v : Nat} {w : Int} (h : bt_ii op v w (drp (ByteArray.mk ⟨l⟩).data.toList pc) = true) : ∃ x y z t, drp l pc = x :: y :: z :: t ∧ x.toNat = op ∧ y.toNat = v ∧ Jvm.ClassFile.Reader.signed 8 z.toNat = w := by
  have h : (match drp l pc with | x :: y :: z :: _ => and (Nat.beq x.toNat op) (and (Nat.beq y.toNat v) (decide (Jvm.ClassFile.Reader.signed 8 z.toNat = w))) | _ => false) = true := h
  revert h
  rcases drp l pc with _ | ⟨x, _ | ⟨y, _ | ⟨z, t⟩⟩⟩ <;> intro h
  · cases h
  · cases h
  · cases h
  · exact ⟨x, y, z, t, rfl, Nat.eq_of_beq_eq_true (an_b h).1, Nat.eq_of_beq_eq_true (an_b (an_b h).2).1, of_decide_eq_true (an_b (an_b h).2).2⟩
set_option maxRecDepth 100000 in
theorem dq_1 {c : ByteArray} {pc : Nat} (h : bt_n 1 (drp c.data.toList pc) = true) : decode c pc = .ok (.aconst_null, 1) := by
  obtain ⟨⟨l⟩⟩ := c
  obtain ⟨x, t, hd, hx⟩ := bt_n_ok h
  refine q_decN (n := 1) ?_
  unfold Jvm.ClassFile.Decoder.instr
  exact q_op (q_u1 hd) hx rfl
set_option maxRecDepth 100000 in
theorem dq_10 {c : ByteArray} {pc : Nat} (h : bt_n 10 (drp c.data.toList pc) = true) : decode c pc = .ok (.lconst 1, 1) := by
  obtain ⟨⟨l⟩⟩ := c
  obtain ⟨x, t, hd, hx⟩ := bt_n_ok h
  refine q_decN (n := 1) ?_
  unfold Jvm.ClassFile.Decoder.instr
  exact q_op (q_u1 hd) hx rfl
set_option maxRecDepth 100000 in
theorem dq_100 {c : ByteArray} {pc : Nat} (h : bt_n 100 (drp c.data.toList pc) = true) : decode c pc = .ok (.isub, 1) := by
  obtain ⟨⟨l⟩⟩ := c
  obtain ⟨x, t, hd, hx⟩ := bt_n_ok h
  refine q_decN (n := 1) ?_
  unfold Jvm.ClassFile.Decoder.instr
  exact q_op (q_u1 hd) hx rfl
set_option maxRecDepth 100000 in
theorem dq_101 {c : ByteArray} {pc : Nat} (h : bt_n 101 (drp c.data.toList pc) = true) : decode c pc = .ok (.lsub, 1) := by
  obtain ⟨⟨l⟩⟩ := c
  obtain ⟨x, t, hd, hx⟩ := bt_n_ok h
  refine q_decN (n := 1) ?_
  unfold Jvm.ClassFile.Decoder.instr
  exact q_op (q_u1 hd) hx rfl
set_option maxRecDepth 100000 in
theorem dq_104 {c : ByteArray} {pc : Nat} (h : bt_n 104 (drp c.data.toList pc) = true) : decode c pc = .ok (.imul, 1) := by
  obtain ⟨⟨l⟩⟩ := c
  obtain ⟨x, t, hd, hx⟩ := bt_n_ok h
  refine q_decN (n := 1) ?_
  unfold Jvm.ClassFile.Decoder.instr
  exact q_op (q_u1 hd) hx rfl
set_option maxRecDepth 100000 in
theorem dq_105 {c : ByteArray} {pc : Nat} (h : bt_n 105 (drp c.data.toList pc) = true) : decode c pc = .ok (.lmul, 1) := by
  obtain ⟨⟨l⟩⟩ := c
  obtain ⟨x, t, hd, hx⟩ := bt_n_ok h
  refine q_decN (n := 1) ?_
  unfold Jvm.ClassFile.Decoder.instr
  exact q_op (q_u1 hd) hx rfl
set_option maxRecDepth 100000 in
theorem dq_108 {c : ByteArray} {pc : Nat} (h : bt_n 108 (drp c.data.toList pc) = true) : decode c pc = .ok (.idiv, 1) := by
  obtain ⟨⟨l⟩⟩ := c
  obtain ⟨x, t, hd, hx⟩ := bt_n_ok h
  refine q_decN (n := 1) ?_
  unfold Jvm.ClassFile.Decoder.instr
  exact q_op (q_u1 hd) hx rfl
set_option maxRecDepth 100000 in
theorem dq_109 {c : ByteArray} {pc : Nat} (h : bt_n 109 (drp c.data.toList pc) = true) : decode c pc = .ok (.ldiv, 1) := by
  obtain ⟨⟨l⟩⟩ := c
  obtain ⟨x, t, hd, hx⟩ := bt_n_ok h
  refine q_decN (n := 1) ?_
  unfold Jvm.ClassFile.Decoder.instr
  exact q_op (q_u1 hd) hx rfl
set_option maxRecDepth 100000 in
theorem dq_112 {c : ByteArray} {pc : Nat} (h : bt_n 112 (drp c.data.toList pc) = true) : decode c pc = .ok (.irem, 1) := by
  obtain ⟨⟨l⟩⟩ := c
  obtain ⟨x, t, hd, hx⟩ := bt_n_ok h
  refine q_decN (n := 1) ?_
  unfold Jvm.ClassFile.Decoder.instr
  exact q_op (q_u1 hd) hx rfl
set_option maxRecDepth 100000 in
theorem dq_113 {c : ByteArray} {pc : Nat} (h : bt_n 113 (drp c.data.toList pc) = true) : decode c pc = .ok (.lrem, 1) := by
  obtain ⟨⟨l⟩⟩ := c
  obtain ⟨x, t, hd, hx⟩ := bt_n_ok h
  refine q_decN (n := 1) ?_
  unfold Jvm.ClassFile.Decoder.instr
  exact q_op (q_u1 hd) hx rfl
set_option maxRecDepth 100000 in
theorem dq_116 {c : ByteArray} {pc : Nat} (h : bt_n 116 (drp c.data.toList pc) = true) : decode c pc = .ok (.ineg, 1) := by
  obtain ⟨⟨l⟩⟩ := c
  obtain ⟨x, t, hd, hx⟩ := bt_n_ok h
  refine q_decN (n := 1) ?_
  unfold Jvm.ClassFile.Decoder.instr
  exact q_op (q_u1 hd) hx rfl
set_option maxRecDepth 100000 in
theorem dq_117 {c : ByteArray} {pc : Nat} (h : bt_n 117 (drp c.data.toList pc) = true) : decode c pc = .ok (.lneg, 1) := by
  obtain ⟨⟨l⟩⟩ := c
  obtain ⟨x, t, hd, hx⟩ := bt_n_ok h
  refine q_decN (n := 1) ?_
  unfold Jvm.ClassFile.Decoder.instr
  exact q_op (q_u1 hd) hx rfl
set_option maxRecDepth 100000 in
theorem dq_122 {c : ByteArray} {pc : Nat} (h : bt_n 122 (drp c.data.toList pc) = true) : decode c pc = .ok (.ishr, 1) := by
  obtain ⟨⟨l⟩⟩ := c
  obtain ⟨x, t, hd, hx⟩ := bt_n_ok h
  refine q_decN (n := 1) ?_
  unfold Jvm.ClassFile.Decoder.instr
  exact q_op (q_u1 hd) hx rfl
set_option maxRecDepth 100000 in
theorem dq_123 {c : ByteArray} {pc : Nat} (h : bt_n 123 (drp c.data.toList pc) = true) : decode c pc = .ok (.lshr, 1) := by
  obtain ⟨⟨l⟩⟩ := c
  obtain ⟨x, t, hd, hx⟩ := bt_n_ok h
  refine q_decN (n := 1) ?_
  unfold Jvm.ClassFile.Decoder.instr
  exact q_op (q_u1 hd) hx rfl
set_option maxRecDepth 100000 in
theorem dq_126 {c : ByteArray} {pc : Nat} (h : bt_n 126 (drp c.data.toList pc) = true) : decode c pc = .ok (.iand, 1) := by
  obtain ⟨⟨l⟩⟩ := c
  obtain ⟨x, t, hd, hx⟩ := bt_n_ok h
  refine q_decN (n := 1) ?_
  unfold Jvm.ClassFile.Decoder.instr
  exact q_op (q_u1 hd) hx rfl
set_option maxRecDepth 100000 in
theorem dq_127 {c : ByteArray} {pc : Nat} (h : bt_n 127 (drp c.data.toList pc) = true) : decode c pc = .ok (.land, 1) := by
  obtain ⟨⟨l⟩⟩ := c
  obtain ⟨x, t, hd, hx⟩ := bt_n_ok h
  refine q_decN (n := 1) ?_
  unfold Jvm.ClassFile.Decoder.instr
  exact q_op (q_u1 hd) hx rfl
set_option maxRecDepth 100000 in
theorem dq_128 {c : ByteArray} {pc : Nat} (h : bt_n 128 (drp c.data.toList pc) = true) : decode c pc = .ok (.ior, 1) := by
  obtain ⟨⟨l⟩⟩ := c
  obtain ⟨x, t, hd, hx⟩ := bt_n_ok h
  refine q_decN (n := 1) ?_
  unfold Jvm.ClassFile.Decoder.instr
  exact q_op (q_u1 hd) hx rfl
set_option maxRecDepth 100000 in
theorem dq_130 {c : ByteArray} {pc : Nat} (h : bt_n 130 (drp c.data.toList pc) = true) : decode c pc = .ok (.ixor, 1) := by
  obtain ⟨⟨l⟩⟩ := c
  obtain ⟨x, t, hd, hx⟩ := bt_n_ok h
  refine q_decN (n := 1) ?_
  unfold Jvm.ClassFile.Decoder.instr
  exact q_op (q_u1 hd) hx rfl
set_option maxRecDepth 100000 in
theorem dq_131 {c : ByteArray} {pc : Nat} (h : bt_n 131 (drp c.data.toList pc) = true) : decode c pc = .ok (.lxor, 1) := by
  obtain ⟨⟨l⟩⟩ := c
  obtain ⟨x, t, hd, hx⟩ := bt_n_ok h
  refine q_decN (n := 1) ?_
  unfold Jvm.ClassFile.Decoder.instr
  exact q_op (q_u1 hd) hx rfl
set_option maxRecDepth 100000 in
theorem dq_132 {c : ByteArray} {pc v : Nat} {w : Int} (h : bt_ii 132 v w (drp c.data.toList pc) = true) : decode c pc = .ok (.iinc v w, 3) := by
  obtain ⟨⟨l⟩⟩ := c
  obtain ⟨x, y, z, t, hd, hx, hy, hz⟩ := bt_ii_ok h
  obtain ⟨-, -, h2⟩ := dr_get hd
  obtain ⟨-, -, h3⟩ := dr_get h2
  subst hz
  refine q_decN (n := 3) ?_
  unfold Jvm.ClassFile.Decoder.instr
  refine q_op (q_u1 hd) hx ?_
  show ((Jvm.ClassFile.Reader.u1 >>= fun i => Jvm.ClassFile.Reader.s1 >>= fun j => pure (.iinc i j)) : Jvm.ClassFile.Decoder Jvm.ClassFile.Instr) ⟨⟨l⟩⟩ (pc + 1) = _
  refine q_op (q_u1 h2) hy ?_
  exact (q_bind (q_s1 h3)).trans rfl
set_option maxRecDepth 100000 in
theorem dq_133 {c : ByteArray} {pc : Nat} (h : bt_n 133 (drp c.data.toList pc) = true) : decode c pc = .ok (.i2l, 1) := by
  obtain ⟨⟨l⟩⟩ := c
  obtain ⟨x, t, hd, hx⟩ := bt_n_ok h
  refine q_decN (n := 1) ?_
  unfold Jvm.ClassFile.Decoder.instr
  exact q_op (q_u1 hd) hx rfl
set_option maxRecDepth 100000 in
theorem dq_136 {c : ByteArray} {pc : Nat} (h : bt_n 136 (drp c.data.toList pc) = true) : decode c pc = .ok (.l2i, 1) := by
  obtain ⟨⟨l⟩⟩ := c
  obtain ⟨x, t, hd, hx⟩ := bt_n_ok h
  refine q_decN (n := 1) ?_
  unfold Jvm.ClassFile.Decoder.instr
  exact q_op (q_u1 hd) hx rfl
set_option maxRecDepth 100000 in
theorem dq_145 {c : ByteArray} {pc : Nat} (h : bt_n 145 (drp c.data.toList pc) = true) : decode c pc = .ok (.i2b, 1) := by
  obtain ⟨⟨l⟩⟩ := c
  obtain ⟨x, t, hd, hx⟩ := bt_n_ok h
  refine q_decN (n := 1) ?_
  unfold Jvm.ClassFile.Decoder.instr
  exact q_op (q_u1 hd) hx rfl
set_option maxRecDepth 100000 in
theorem dq_146 {c : ByteArray} {pc : Nat} (h : bt_n 146 (drp c.data.toList pc) = true) : decode c pc = .ok (.i2c, 1) := by
  obtain ⟨⟨l⟩⟩ := c
  obtain ⟨x, t, hd, hx⟩ := bt_n_ok h
  refine q_decN (n := 1) ?_
  unfold Jvm.ClassFile.Decoder.instr
  exact q_op (q_u1 hd) hx rfl
set_option maxRecDepth 100000 in
theorem dq_148 {c : ByteArray} {pc : Nat} (h : bt_n 148 (drp c.data.toList pc) = true) : decode c pc = .ok (.lcmp, 1) := by
  obtain ⟨⟨l⟩⟩ := c
  obtain ⟨x, t, hd, hx⟩ := bt_n_ok h
  refine q_decN (n := 1) ?_
  unfold Jvm.ClassFile.Decoder.instr
  exact q_op (q_u1 hd) hx rfl
set_option maxRecDepth 100000 in
theorem dq_153 {c : ByteArray} {pc : Nat} {v : Int} (h : bt_s2 153 v (drp c.data.toList pc) = true) : decode c pc = .ok (.ifCond .eq v, 3) := by
  obtain ⟨⟨l⟩⟩ := c
  obtain ⟨x, y, z, t, hd, hx, hy⟩ := bt_s2_ok h
  obtain ⟨-, -, h2⟩ := dr_get hd
  subst hy
  refine q_decN (n := 3) ?_
  unfold Jvm.ClassFile.Decoder.instr
  refine q_op (q_u1 hd) hx ?_
  show ((Jvm.ClassFile.Reader.s2 >>= fun i => pure (.ifCond .eq i)) : Jvm.ClassFile.Decoder Jvm.ClassFile.Instr) ⟨⟨l⟩⟩ (pc + 1) = _
  exact (q_bind (q_s2 h2)).trans rfl
set_option maxRecDepth 100000 in
theorem dq_154 {c : ByteArray} {pc : Nat} {v : Int} (h : bt_s2 154 v (drp c.data.toList pc) = true) : decode c pc = .ok (.ifCond .ne v, 3) := by
  obtain ⟨⟨l⟩⟩ := c
  obtain ⟨x, y, z, t, hd, hx, hy⟩ := bt_s2_ok h
  obtain ⟨-, -, h2⟩ := dr_get hd
  subst hy
  refine q_decN (n := 3) ?_
  unfold Jvm.ClassFile.Decoder.instr
  refine q_op (q_u1 hd) hx ?_
  show ((Jvm.ClassFile.Reader.s2 >>= fun i => pure (.ifCond .ne i)) : Jvm.ClassFile.Decoder Jvm.ClassFile.Instr) ⟨⟨l⟩⟩ (pc + 1) = _
  exact (q_bind (q_s2 h2)).trans rfl
set_option maxRecDepth 100000 in
theorem dq_155 {c : ByteArray} {pc : Nat} {v : Int} (h : bt_s2 155 v (drp c.data.toList pc) = true) : decode c pc = .ok (.ifCond .lt v, 3) := by
  obtain ⟨⟨l⟩⟩ := c
  obtain ⟨x, y, z, t, hd, hx, hy⟩ := bt_s2_ok h
  obtain ⟨-, -, h2⟩ := dr_get hd
  subst hy
  refine q_decN (n := 3) ?_
  unfold Jvm.ClassFile.Decoder.instr
  refine q_op (q_u1 hd) hx ?_
  show ((Jvm.ClassFile.Reader.s2 >>= fun i => pure (.ifCond .lt i)) : Jvm.ClassFile.Decoder Jvm.ClassFile.Instr) ⟨⟨l⟩⟩ (pc + 1) = _
  exact (q_bind (q_s2 h2)).trans rfl
set_option maxRecDepth 100000 in
theorem dq_156 {c : ByteArray} {pc : Nat} {v : Int} (h : bt_s2 156 v (drp c.data.toList pc) = true) : decode c pc = .ok (.ifCond .ge v, 3) := by
  obtain ⟨⟨l⟩⟩ := c
  obtain ⟨x, y, z, t, hd, hx, hy⟩ := bt_s2_ok h
  obtain ⟨-, -, h2⟩ := dr_get hd
  subst hy
  refine q_decN (n := 3) ?_
  unfold Jvm.ClassFile.Decoder.instr
  refine q_op (q_u1 hd) hx ?_
  show ((Jvm.ClassFile.Reader.s2 >>= fun i => pure (.ifCond .ge i)) : Jvm.ClassFile.Decoder Jvm.ClassFile.Instr) ⟨⟨l⟩⟩ (pc + 1) = _
  exact (q_bind (q_s2 h2)).trans rfl
set_option maxRecDepth 100000 in
theorem dq_157 {c : ByteArray} {pc : Nat} {v : Int} (h : bt_s2 157 v (drp c.data.toList pc) = true) : decode c pc = .ok (.ifCond .gt v, 3) := by
  obtain ⟨⟨l⟩⟩ := c
  obtain ⟨x, y, z, t, hd, hx, hy⟩ := bt_s2_ok h
  obtain ⟨-, -, h2⟩ := dr_get hd
  subst hy
  refine q_decN (n := 3) ?_
  unfold Jvm.ClassFile.Decoder.instr
  refine q_op (q_u1 hd) hx ?_
  show ((Jvm.ClassFile.Reader.s2 >>= fun i => pure (.ifCond .gt i)) : Jvm.ClassFile.Decoder Jvm.ClassFile.Instr) ⟨⟨l⟩⟩ (pc + 1) = _
  exact (q_bind (q_s2 h2)).trans rfl
set_option maxRecDepth 100000 in
theorem dq_158 {c : ByteArray} {pc : Nat} {v : Int} (h : bt_s2 158 v (drp c.data.toList pc) = true) : decode c pc = .ok (.ifCond .le v, 3) := by
  obtain ⟨⟨l⟩⟩ := c
  obtain ⟨x, y, z, t, hd, hx, hy⟩ := bt_s2_ok h
  obtain ⟨-, -, h2⟩ := dr_get hd
  subst hy
  refine q_decN (n := 3) ?_
  unfold Jvm.ClassFile.Decoder.instr
  refine q_op (q_u1 hd) hx ?_
  show ((Jvm.ClassFile.Reader.s2 >>= fun i => pure (.ifCond .le i)) : Jvm.ClassFile.Decoder Jvm.ClassFile.Instr) ⟨⟨l⟩⟩ (pc + 1) = _
  exact (q_bind (q_s2 h2)).trans rfl
set_option maxRecDepth 100000 in
theorem dq_159 {c : ByteArray} {pc : Nat} {v : Int} (h : bt_s2 159 v (drp c.data.toList pc) = true) : decode c pc = .ok (.if_icmp .eq v, 3) := by
  obtain ⟨⟨l⟩⟩ := c
  obtain ⟨x, y, z, t, hd, hx, hy⟩ := bt_s2_ok h
  obtain ⟨-, -, h2⟩ := dr_get hd
  subst hy
  refine q_decN (n := 3) ?_
  unfold Jvm.ClassFile.Decoder.instr
  refine q_op (q_u1 hd) hx ?_
  show ((Jvm.ClassFile.Reader.s2 >>= fun i => pure (.if_icmp .eq i)) : Jvm.ClassFile.Decoder Jvm.ClassFile.Instr) ⟨⟨l⟩⟩ (pc + 1) = _
  exact (q_bind (q_s2 h2)).trans rfl
set_option maxRecDepth 100000 in
theorem dq_16 {c : ByteArray} {pc : Nat} {v : Int} (h : bt_s1 16 v (drp c.data.toList pc) = true) : decode c pc = .ok (.bipush v, 2) := by
  obtain ⟨⟨l⟩⟩ := c
  obtain ⟨x, y, t, hd, hx, hy⟩ := bt_s1_ok h
  obtain ⟨-, -, h2⟩ := dr_get hd
  subst hy
  refine q_decN (n := 2) ?_
  unfold Jvm.ClassFile.Decoder.instr
  refine q_op (q_u1 hd) hx ?_
  show ((Jvm.ClassFile.Reader.s1 >>= fun i => pure (.bipush i)) : Jvm.ClassFile.Decoder Jvm.ClassFile.Instr) ⟨⟨l⟩⟩ (pc + 1) = _
  exact (q_bind (q_s1 h2)).trans rfl
set_option maxRecDepth 100000 in
theorem dq_160 {c : ByteArray} {pc : Nat} {v : Int} (h : bt_s2 160 v (drp c.data.toList pc) = true) : decode c pc = .ok (.if_icmp .ne v, 3) := by
  obtain ⟨⟨l⟩⟩ := c
  obtain ⟨x, y, z, t, hd, hx, hy⟩ := bt_s2_ok h
  obtain ⟨-, -, h2⟩ := dr_get hd
  subst hy
  refine q_decN (n := 3) ?_
  unfold Jvm.ClassFile.Decoder.instr
  refine q_op (q_u1 hd) hx ?_
  show ((Jvm.ClassFile.Reader.s2 >>= fun i => pure (.if_icmp .ne i)) : Jvm.ClassFile.Decoder Jvm.ClassFile.Instr) ⟨⟨l⟩⟩ (pc + 1) = _
  exact (q_bind (q_s2 h2)).trans rfl
set_option maxRecDepth 100000 in
theorem dq_161 {c : ByteArray} {pc : Nat} {v : Int} (h : bt_s2 161 v (drp c.data.toList pc) = true) : decode c pc = .ok (.if_icmp .lt v, 3) := by
  obtain ⟨⟨l⟩⟩ := c
  obtain ⟨x, y, z, t, hd, hx, hy⟩ := bt_s2_ok h
  obtain ⟨-, -, h2⟩ := dr_get hd
  subst hy
  refine q_decN (n := 3) ?_
  unfold Jvm.ClassFile.Decoder.instr
  refine q_op (q_u1 hd) hx ?_
  show ((Jvm.ClassFile.Reader.s2 >>= fun i => pure (.if_icmp .lt i)) : Jvm.ClassFile.Decoder Jvm.ClassFile.Instr) ⟨⟨l⟩⟩ (pc + 1) = _
  exact (q_bind (q_s2 h2)).trans rfl
set_option maxRecDepth 100000 in
theorem dq_162 {c : ByteArray} {pc : Nat} {v : Int} (h : bt_s2 162 v (drp c.data.toList pc) = true) : decode c pc = .ok (.if_icmp .ge v, 3) := by
  obtain ⟨⟨l⟩⟩ := c
  obtain ⟨x, y, z, t, hd, hx, hy⟩ := bt_s2_ok h
  obtain ⟨-, -, h2⟩ := dr_get hd
  subst hy
  refine q_decN (n := 3) ?_
  unfold Jvm.ClassFile.Decoder.instr
  refine q_op (q_u1 hd) hx ?_
  show ((Jvm.ClassFile.Reader.s2 >>= fun i => pure (.if_icmp .ge i)) : Jvm.ClassFile.Decoder Jvm.ClassFile.Instr) ⟨⟨l⟩⟩ (pc + 1) = _
  exact (q_bind (q_s2 h2)).trans rfl
set_option maxRecDepth 100000 in
theorem dq_163 {c : ByteArray} {pc : Nat} {v : Int} (h : bt_s2 163 v (drp c.data.toList pc) = true) : decode c pc = .ok (.if_icmp .gt v, 3) := by
  obtain ⟨⟨l⟩⟩ := c
  obtain ⟨x, y, z, t, hd, hx, hy⟩ := bt_s2_ok h
  obtain ⟨-, -, h2⟩ := dr_get hd
  subst hy
  refine q_decN (n := 3) ?_
  unfold Jvm.ClassFile.Decoder.instr
  refine q_op (q_u1 hd) hx ?_
  show ((Jvm.ClassFile.Reader.s2 >>= fun i => pure (.if_icmp .gt i)) : Jvm.ClassFile.Decoder Jvm.ClassFile.Instr) ⟨⟨l⟩⟩ (pc + 1) = _
  exact (q_bind (q_s2 h2)).trans rfl
set_option maxRecDepth 100000 in
theorem dq_164 {c : ByteArray} {pc : Nat} {v : Int} (h : bt_s2 164 v (drp c.data.toList pc) = true) : decode c pc = .ok (.if_icmp .le v, 3) := by
  obtain ⟨⟨l⟩⟩ := c
  obtain ⟨x, y, z, t, hd, hx, hy⟩ := bt_s2_ok h
  obtain ⟨-, -, h2⟩ := dr_get hd
  subst hy
  refine q_decN (n := 3) ?_
  unfold Jvm.ClassFile.Decoder.instr
  refine q_op (q_u1 hd) hx ?_
  show ((Jvm.ClassFile.Reader.s2 >>= fun i => pure (.if_icmp .le i)) : Jvm.ClassFile.Decoder Jvm.ClassFile.Instr) ⟨⟨l⟩⟩ (pc + 1) = _
  exact (q_bind (q_s2 h2)).trans rfl
set_option maxRecDepth 100000 in
theorem dq_167 {c : ByteArray} {pc : Nat} {v : Int} (h : bt_s2 167 v (drp c.data.toList pc) = true) : decode c pc = .ok (.goto v, 3) := by
  obtain ⟨⟨l⟩⟩ := c
  obtain ⟨x, y, z, t, hd, hx, hy⟩ := bt_s2_ok h
  obtain ⟨-, -, h2⟩ := dr_get hd
  subst hy
  refine q_decN (n := 3) ?_
  unfold Jvm.ClassFile.Decoder.instr
  refine q_op (q_u1 hd) hx ?_
  show ((Jvm.ClassFile.Reader.s2 >>= fun i => pure (.goto i)) : Jvm.ClassFile.Decoder Jvm.ClassFile.Instr) ⟨⟨l⟩⟩ (pc + 1) = _
  exact (q_bind (q_s2 h2)).trans rfl
set_option maxRecDepth 100000 in
theorem dq_17 {c : ByteArray} {pc : Nat} {v : Int} (h : bt_s2 17 v (drp c.data.toList pc) = true) : decode c pc = .ok (.sipush v, 3) := by
  obtain ⟨⟨l⟩⟩ := c
  obtain ⟨x, y, z, t, hd, hx, hy⟩ := bt_s2_ok h
  obtain ⟨-, -, h2⟩ := dr_get hd
  subst hy
  refine q_decN (n := 3) ?_
  unfold Jvm.ClassFile.Decoder.instr
  refine q_op (q_u1 hd) hx ?_
  show ((Jvm.ClassFile.Reader.s2 >>= fun i => pure (.sipush i)) : Jvm.ClassFile.Decoder Jvm.ClassFile.Instr) ⟨⟨l⟩⟩ (pc + 1) = _
  exact (q_bind (q_s2 h2)).trans rfl
set_option maxRecDepth 100000 in
theorem dq_172 {c : ByteArray} {pc : Nat} (h : bt_n 172 (drp c.data.toList pc) = true) : decode c pc = .ok (.ireturn, 1) := by
  obtain ⟨⟨l⟩⟩ := c
  obtain ⟨x, t, hd, hx⟩ := bt_n_ok h
  refine q_decN (n := 1) ?_
  unfold Jvm.ClassFile.Decoder.instr
  exact q_op (q_u1 hd) hx rfl
set_option maxRecDepth 100000 in
theorem dq_173 {c : ByteArray} {pc : Nat} (h : bt_n 173 (drp c.data.toList pc) = true) : decode c pc = .ok (.lreturn, 1) := by
  obtain ⟨⟨l⟩⟩ := c
  obtain ⟨x, t, hd, hx⟩ := bt_n_ok h
  refine q_decN (n := 1) ?_
  unfold Jvm.ClassFile.Decoder.instr
  exact q_op (q_u1 hd) hx rfl
set_option maxRecDepth 100000 in
theorem dq_176 {c : ByteArray} {pc : Nat} (h : bt_n 176 (drp c.data.toList pc) = true) : decode c pc = .ok (.areturn, 1) := by
  obtain ⟨⟨l⟩⟩ := c
  obtain ⟨x, t, hd, hx⟩ := bt_n_ok h
  refine q_decN (n := 1) ?_
  unfold Jvm.ClassFile.Decoder.instr
  exact q_op (q_u1 hd) hx rfl
set_option maxRecDepth 100000 in
theorem dq_177 {c : ByteArray} {pc : Nat} (h : bt_n 177 (drp c.data.toList pc) = true) : decode c pc = .ok (.return_, 1) := by
  obtain ⟨⟨l⟩⟩ := c
  obtain ⟨x, t, hd, hx⟩ := bt_n_ok h
  refine q_decN (n := 1) ?_
  unfold Jvm.ClassFile.Decoder.instr
  exact q_op (q_u1 hd) hx rfl
set_option maxRecDepth 100000 in
theorem dq_178 {c : ByteArray} {pc v : Nat} (h : bt_u2 178 v (drp c.data.toList pc) = true) : decode c pc = .ok (.getstatic v, 3) := by
  obtain ⟨⟨l⟩⟩ := c
  obtain ⟨x, y, z, t, hd, hx, hy⟩ := bt_u2_ok h
  obtain ⟨-, -, h2⟩ := dr_get hd
  subst hy
  refine q_decN (n := 3) ?_
  unfold Jvm.ClassFile.Decoder.instr
  refine q_op (q_u1 hd) hx ?_
  show ((Jvm.ClassFile.Reader.u2 >>= fun i => pure (.getstatic i)) : Jvm.ClassFile.Decoder Jvm.ClassFile.Instr) ⟨⟨l⟩⟩ (pc + 1) = _
  exact (q_bind (q_u2 h2)).trans rfl
set_option maxRecDepth 100000 in
theorem dq_18 {c : ByteArray} {pc v : Nat} (h : bt_u1 18 v (drp c.data.toList pc) = true) : decode c pc = .ok (.ldc v, 2) := by
  obtain ⟨⟨l⟩⟩ := c
  obtain ⟨x, y, t, hd, hx, hy⟩ := bt_u1_ok h
  obtain ⟨-, -, h2⟩ := dr_get hd
  refine q_decN (n := 2) ?_
  unfold Jvm.ClassFile.Decoder.instr
  refine q_op (q_u1 hd) hx ?_
  show ((Jvm.ClassFile.Reader.u1 >>= fun i => pure (.ldc i)) : Jvm.ClassFile.Decoder Jvm.ClassFile.Instr) ⟨⟨l⟩⟩ (pc + 1) = _
  exact q_op (q_u1 h2) hy rfl
set_option maxRecDepth 100000 in
theorem dq_180 {c : ByteArray} {pc v : Nat} (h : bt_u2 180 v (drp c.data.toList pc) = true) : decode c pc = .ok (.getfield v, 3) := by
  obtain ⟨⟨l⟩⟩ := c
  obtain ⟨x, y, z, t, hd, hx, hy⟩ := bt_u2_ok h
  obtain ⟨-, -, h2⟩ := dr_get hd
  subst hy
  refine q_decN (n := 3) ?_
  unfold Jvm.ClassFile.Decoder.instr
  refine q_op (q_u1 hd) hx ?_
  show ((Jvm.ClassFile.Reader.u2 >>= fun i => pure (.getfield i)) : Jvm.ClassFile.Decoder Jvm.ClassFile.Instr) ⟨⟨l⟩⟩ (pc + 1) = _
  exact (q_bind (q_u2 h2)).trans rfl
set_option maxRecDepth 100000 in
theorem dq_181 {c : ByteArray} {pc v : Nat} (h : bt_u2 181 v (drp c.data.toList pc) = true) : decode c pc = .ok (.putfield v, 3) := by
  obtain ⟨⟨l⟩⟩ := c
  obtain ⟨x, y, z, t, hd, hx, hy⟩ := bt_u2_ok h
  obtain ⟨-, -, h2⟩ := dr_get hd
  subst hy
  refine q_decN (n := 3) ?_
  unfold Jvm.ClassFile.Decoder.instr
  refine q_op (q_u1 hd) hx ?_
  show ((Jvm.ClassFile.Reader.u2 >>= fun i => pure (.putfield i)) : Jvm.ClassFile.Decoder Jvm.ClassFile.Instr) ⟨⟨l⟩⟩ (pc + 1) = _
  exact (q_bind (q_u2 h2)).trans rfl
set_option maxRecDepth 100000 in
theorem dq_182 {c : ByteArray} {pc v : Nat} (h : bt_u2 182 v (drp c.data.toList pc) = true) : decode c pc = .ok (.invokevirtual v, 3) := by
  obtain ⟨⟨l⟩⟩ := c
  obtain ⟨x, y, z, t, hd, hx, hy⟩ := bt_u2_ok h
  obtain ⟨-, -, h2⟩ := dr_get hd
  subst hy
  refine q_decN (n := 3) ?_
  unfold Jvm.ClassFile.Decoder.instr
  refine q_op (q_u1 hd) hx ?_
  show ((Jvm.ClassFile.Reader.u2 >>= fun i => pure (.invokevirtual i)) : Jvm.ClassFile.Decoder Jvm.ClassFile.Instr) ⟨⟨l⟩⟩ (pc + 1) = _
  exact (q_bind (q_u2 h2)).trans rfl
set_option maxRecDepth 100000 in
theorem dq_183 {c : ByteArray} {pc v : Nat} (h : bt_u2 183 v (drp c.data.toList pc) = true) : decode c pc = .ok (.invokespecial v, 3) := by
  obtain ⟨⟨l⟩⟩ := c
  obtain ⟨x, y, z, t, hd, hx, hy⟩ := bt_u2_ok h
  obtain ⟨-, -, h2⟩ := dr_get hd
  subst hy
  refine q_decN (n := 3) ?_
  unfold Jvm.ClassFile.Decoder.instr
  refine q_op (q_u1 hd) hx ?_
  show ((Jvm.ClassFile.Reader.u2 >>= fun i => pure (.invokespecial i)) : Jvm.ClassFile.Decoder Jvm.ClassFile.Instr) ⟨⟨l⟩⟩ (pc + 1) = _
  exact (q_bind (q_u2 h2)).trans rfl
set_option maxRecDepth 100000 in
theorem dq_184 {c : ByteArray} {pc v : Nat} (h : bt_u2 184 v (drp c.data.toList pc) = true) : decode c pc = .ok (.invokestatic v, 3) := by
  obtain ⟨⟨l⟩⟩ := c
  obtain ⟨x, y, z, t, hd, hx, hy⟩ := bt_u2_ok h
  obtain ⟨-, -, h2⟩ := dr_get hd
  subst hy
  refine q_decN (n := 3) ?_
  unfold Jvm.ClassFile.Decoder.instr
  refine q_op (q_u1 hd) hx ?_
  show ((Jvm.ClassFile.Reader.u2 >>= fun i => pure (.invokestatic i)) : Jvm.ClassFile.Decoder Jvm.ClassFile.Instr) ⟨⟨l⟩⟩ (pc + 1) = _
  exact (q_bind (q_u2 h2)).trans rfl
set_option maxRecDepth 100000 in
theorem dq_187 {c : ByteArray} {pc v : Nat} (h : bt_u2 187 v (drp c.data.toList pc) = true) : decode c pc = .ok (.new v, 3) := by
  obtain ⟨⟨l⟩⟩ := c
  obtain ⟨x, y, z, t, hd, hx, hy⟩ := bt_u2_ok h
  obtain ⟨-, -, h2⟩ := dr_get hd
  subst hy
  refine q_decN (n := 3) ?_
  unfold Jvm.ClassFile.Decoder.instr
  refine q_op (q_u1 hd) hx ?_
  show ((Jvm.ClassFile.Reader.u2 >>= fun i => pure (.new i)) : Jvm.ClassFile.Decoder Jvm.ClassFile.Instr) ⟨⟨l⟩⟩ (pc + 1) = _
  exact (q_bind (q_u2 h2)).trans rfl
set_option maxRecDepth 100000 in
theorem dq_188_10 {c : ByteArray} {pc : Nat} (h : bt_u1 188 10 (drp c.data.toList pc) = true) : decode c pc = .ok (.newarray .int, 2) := by
  obtain ⟨⟨l⟩⟩ := c
  obtain ⟨x, y, t, hd, hx, hy⟩ := bt_u1_ok h
  obtain ⟨-, -, h2⟩ := dr_get hd
  refine q_decN (n := 2) ?_
  unfold Jvm.ClassFile.Decoder.instr
  refine q_op (q_u1 hd) hx ?_
  show (Jvm.ClassFile.Decoder.newarray pc) ⟨⟨l⟩⟩ (pc + 1) = _
  unfold Jvm.ClassFile.Decoder.newarray
  exact q_op (q_u1 h2) hy rfl
set_option maxRecDepth 100000 in
theorem dq_188_4 {c : ByteArray} {pc : Nat} (h : bt_u1 188 4 (drp c.data.toList pc) = true) : decode c pc = .ok (.newarray .boolean, 2) := by
  obtain ⟨⟨l⟩⟩ := c
  obtain ⟨x, y, t, hd, hx, hy⟩ := bt_u1_ok h
  obtain ⟨-, -, h2⟩ := dr_get hd
  refine q_decN (n := 2) ?_
  unfold Jvm.ClassFile.Decoder.instr
  refine q_op (q_u1 hd) hx ?_
  show (Jvm.ClassFile.Decoder.newarray pc) ⟨⟨l⟩⟩ (pc + 1) = _
  unfold Jvm.ClassFile.Decoder.newarray
  exact q_op (q_u1 h2) hy rfl
set_option maxRecDepth 100000 in
theorem dq_188_8 {c : ByteArray} {pc : Nat} (h : bt_u1 188 8 (drp c.data.toList pc) = true) : decode c pc = .ok (.newarray .byte, 2) := by
  obtain ⟨⟨l⟩⟩ := c
  obtain ⟨x, y, t, hd, hx, hy⟩ := bt_u1_ok h
  obtain ⟨-, -, h2⟩ := dr_get hd
  refine q_decN (n := 2) ?_
  unfold Jvm.ClassFile.Decoder.instr
  refine q_op (q_u1 hd) hx ?_
  show (Jvm.ClassFile.Decoder.newarray pc) ⟨⟨l⟩⟩ (pc + 1) = _
  unfold Jvm.ClassFile.Decoder.newarray
  exact q_op (q_u1 h2) hy rfl
set_option maxRecDepth 100000 in
theorem dq_189 {c : ByteArray} {pc v : Nat} (h : bt_u2 189 v (drp c.data.toList pc) = true) : decode c pc = .ok (.anewarray v, 3) := by
  obtain ⟨⟨l⟩⟩ := c
  obtain ⟨x, y, z, t, hd, hx, hy⟩ := bt_u2_ok h
  obtain ⟨-, -, h2⟩ := dr_get hd
  subst hy
  refine q_decN (n := 3) ?_
  unfold Jvm.ClassFile.Decoder.instr
  refine q_op (q_u1 hd) hx ?_
  show ((Jvm.ClassFile.Reader.u2 >>= fun i => pure (.anewarray i)) : Jvm.ClassFile.Decoder Jvm.ClassFile.Instr) ⟨⟨l⟩⟩ (pc + 1) = _
  exact (q_bind (q_u2 h2)).trans rfl
set_option maxRecDepth 100000 in
theorem dq_19 {c : ByteArray} {pc v : Nat} (h : bt_u2 19 v (drp c.data.toList pc) = true) : decode c pc = .ok (.ldc_w v, 3) := by
  obtain ⟨⟨l⟩⟩ := c
  obtain ⟨x, y, z, t, hd, hx, hy⟩ := bt_u2_ok h
  obtain ⟨-, -, h2⟩ := dr_get hd
  subst hy
  refine q_decN (n := 3) ?_
  unfold Jvm.ClassFile.Decoder.instr
  refine q_op (q_u1 hd) hx ?_
  show ((Jvm.ClassFile.Reader.u2 >>= fun i => pure (.ldc_w i)) : Jvm.ClassFile.Decoder Jvm.ClassFile.Instr) ⟨⟨l⟩⟩ (pc + 1) = _
  exact (q_bind (q_u2 h2)).trans rfl
set_option maxRecDepth 100000 in
theorem dq_190 {c : ByteArray} {pc : Nat} (h : bt_n 190 (drp c.data.toList pc) = true) : decode c pc = .ok (.arraylength, 1) := by
  obtain ⟨⟨l⟩⟩ := c
  obtain ⟨x, t, hd, hx⟩ := bt_n_ok h
  refine q_decN (n := 1) ?_
  unfold Jvm.ClassFile.Decoder.instr
  exact q_op (q_u1 hd) hx rfl
set_option maxRecDepth 100000 in
theorem dq_191 {c : ByteArray} {pc : Nat} (h : bt_n 191 (drp c.data.toList pc) = true) : decode c pc = .ok (.athrow, 1) := by
  obtain ⟨⟨l⟩⟩ := c
  obtain ⟨x, t, hd, hx⟩ := bt_n_ok h
  refine q_decN (n := 1) ?_
  unfold Jvm.ClassFile.Decoder.instr
  exact q_op (q_u1 hd) hx rfl
set_option maxRecDepth 100000 in
theorem dq_198 {c : ByteArray} {pc : Nat} {v : Int} (h : bt_s2 198 v (drp c.data.toList pc) = true) : decode c pc = .ok (.ifnull v, 3) := by
  obtain ⟨⟨l⟩⟩ := c
  obtain ⟨x, y, z, t, hd, hx, hy⟩ := bt_s2_ok h
  obtain ⟨-, -, h2⟩ := dr_get hd
  subst hy
  refine q_decN (n := 3) ?_
  unfold Jvm.ClassFile.Decoder.instr
  refine q_op (q_u1 hd) hx ?_
  show ((Jvm.ClassFile.Reader.s2 >>= fun i => pure (.ifnull i)) : Jvm.ClassFile.Decoder Jvm.ClassFile.Instr) ⟨⟨l⟩⟩ (pc + 1) = _
  exact (q_bind (q_s2 h2)).trans rfl
set_option maxRecDepth 100000 in
theorem dq_199 {c : ByteArray} {pc : Nat} {v : Int} (h : bt_s2 199 v (drp c.data.toList pc) = true) : decode c pc = .ok (.ifnonnull v, 3) := by
  obtain ⟨⟨l⟩⟩ := c
  obtain ⟨x, y, z, t, hd, hx, hy⟩ := bt_s2_ok h
  obtain ⟨-, -, h2⟩ := dr_get hd
  subst hy
  refine q_decN (n := 3) ?_
  unfold Jvm.ClassFile.Decoder.instr
  refine q_op (q_u1 hd) hx ?_
  show ((Jvm.ClassFile.Reader.s2 >>= fun i => pure (.ifnonnull i)) : Jvm.ClassFile.Decoder Jvm.ClassFile.Instr) ⟨⟨l⟩⟩ (pc + 1) = _
  exact (q_bind (q_s2 h2)).trans rfl
set_option maxRecDepth 100000 in
theorem dq_2 {c : ByteArray} {pc : Nat} (h : bt_n 2 (drp c.data.toList pc) = true) : decode c pc = .ok (.iconst (-1), 1) := by
  obtain ⟨⟨l⟩⟩ := c
  obtain ⟨x, t, hd, hx⟩ := bt_n_ok h
  refine q_decN (n := 1) ?_
  unfold Jvm.ClassFile.Decoder.instr
  exact q_op (q_u1 hd) hx rfl
set_option maxRecDepth 100000 in
theorem dq_20 {c : ByteArray} {pc v : Nat} (h : bt_u2 20 v (drp c.data.toList pc) = true) : decode c pc = .ok (.ldc2_w v, 3) := by
  obtain ⟨⟨l⟩⟩ := c
  obtain ⟨x, y, z, t, hd, hx, hy⟩ := bt_u2_ok h
  obtain ⟨-, -, h2⟩ := dr_get hd
  subst hy
  refine q_decN (n := 3) ?_
  unfold Jvm.ClassFile.Decoder.instr
  refine q_op (q_u1 hd) hx ?_
  show ((Jvm.ClassFile.Reader.u2 >>= fun i => pure (.ldc2_w i)) : Jvm.ClassFile.Decoder Jvm.ClassFile.Instr) ⟨⟨l⟩⟩ (pc + 1) = _
  exact (q_bind (q_u2 h2)).trans rfl
set_option maxRecDepth 100000 in
theorem dq_21 {c : ByteArray} {pc v : Nat} (h : bt_u1 21 v (drp c.data.toList pc) = true) : decode c pc = .ok (.iload v, 2) := by
  obtain ⟨⟨l⟩⟩ := c
  obtain ⟨x, y, t, hd, hx, hy⟩ := bt_u1_ok h
  obtain ⟨-, -, h2⟩ := dr_get hd
  refine q_decN (n := 2) ?_
  unfold Jvm.ClassFile.Decoder.instr
  refine q_op (q_u1 hd) hx ?_
  show ((Jvm.ClassFile.Reader.u1 >>= fun i => pure (.iload i)) : Jvm.ClassFile.Decoder Jvm.ClassFile.Instr) ⟨⟨l⟩⟩ (pc + 1) = _
  exact q_op (q_u1 h2) hy rfl
set_option maxRecDepth 100000 in
theorem dq_22 {c : ByteArray} {pc v : Nat} (h : bt_u1 22 v (drp c.data.toList pc) = true) : decode c pc = .ok (.lload v, 2) := by
  obtain ⟨⟨l⟩⟩ := c
  obtain ⟨x, y, t, hd, hx, hy⟩ := bt_u1_ok h
  obtain ⟨-, -, h2⟩ := dr_get hd
  refine q_decN (n := 2) ?_
  unfold Jvm.ClassFile.Decoder.instr
  refine q_op (q_u1 hd) hx ?_
  show ((Jvm.ClassFile.Reader.u1 >>= fun i => pure (.lload i)) : Jvm.ClassFile.Decoder Jvm.ClassFile.Instr) ⟨⟨l⟩⟩ (pc + 1) = _
  exact q_op (q_u1 h2) hy rfl
set_option maxRecDepth 100000 in
theorem dq_25 {c : ByteArray} {pc v : Nat} (h : bt_u1 25 v (drp c.data.toList pc) = true) : decode c pc = .ok (.aload v, 2) := by
  obtain ⟨⟨l⟩⟩ := c
  obtain ⟨x, y, t, hd, hx, hy⟩ := bt_u1_ok h
  obtain ⟨-, -, h2⟩ := dr_get hd
  refine q_decN (n := 2) ?_
  unfold Jvm.ClassFile.Decoder.instr
  refine q_op (q_u1 hd) hx ?_
  show ((Jvm.ClassFile.Reader.u1 >>= fun i => pure (.aload i)) : Jvm.ClassFile.Decoder Jvm.ClassFile.Instr) ⟨⟨l⟩⟩ (pc + 1) = _
  exact q_op (q_u1 h2) hy rfl
set_option maxRecDepth 100000 in
theorem dq_26 {c : ByteArray} {pc : Nat} (h : bt_n 26 (drp c.data.toList pc) = true) : decode c pc = .ok (.iload_n 0, 1) := by
  obtain ⟨⟨l⟩⟩ := c
  obtain ⟨x, t, hd, hx⟩ := bt_n_ok h
  refine q_decN (n := 1) ?_
  unfold Jvm.ClassFile.Decoder.instr
  exact q_op (q_u1 hd) hx rfl
set_option maxRecDepth 100000 in
theorem dq_27 {c : ByteArray} {pc : Nat} (h : bt_n 27 (drp c.data.toList pc) = true) : decode c pc = .ok (.iload_n 1, 1) := by
  obtain ⟨⟨l⟩⟩ := c
  obtain ⟨x, t, hd, hx⟩ := bt_n_ok h
  refine q_decN (n := 1) ?_
  unfold Jvm.ClassFile.Decoder.instr
  exact q_op (q_u1 hd) hx rfl
set_option maxRecDepth 100000 in
theorem dq_28 {c : ByteArray} {pc : Nat} (h : bt_n 28 (drp c.data.toList pc) = true) : decode c pc = .ok (.iload_n 2, 1) := by
  obtain ⟨⟨l⟩⟩ := c
  obtain ⟨x, t, hd, hx⟩ := bt_n_ok h
  refine q_decN (n := 1) ?_
  unfold Jvm.ClassFile.Decoder.instr
  exact q_op (q_u1 hd) hx rfl
set_option maxRecDepth 100000 in
theorem dq_29 {c : ByteArray} {pc : Nat} (h : bt_n 29 (drp c.data.toList pc) = true) : decode c pc = .ok (.iload_n 3, 1) := by
  obtain ⟨⟨l⟩⟩ := c
  obtain ⟨x, t, hd, hx⟩ := bt_n_ok h
  refine q_decN (n := 1) ?_
  unfold Jvm.ClassFile.Decoder.instr
  exact q_op (q_u1 hd) hx rfl
set_option maxRecDepth 100000 in
theorem dq_3 {c : ByteArray} {pc : Nat} (h : bt_n 3 (drp c.data.toList pc) = true) : decode c pc = .ok (.iconst 0, 1) := by
  obtain ⟨⟨l⟩⟩ := c
  obtain ⟨x, t, hd, hx⟩ := bt_n_ok h
  refine q_decN (n := 1) ?_
  unfold Jvm.ClassFile.Decoder.instr
  exact q_op (q_u1 hd) hx rfl
set_option maxRecDepth 100000 in
theorem dq_30 {c : ByteArray} {pc : Nat} (h : bt_n 30 (drp c.data.toList pc) = true) : decode c pc = .ok (.lload_n 0, 1) := by
  obtain ⟨⟨l⟩⟩ := c
  obtain ⟨x, t, hd, hx⟩ := bt_n_ok h
  refine q_decN (n := 1) ?_
  unfold Jvm.ClassFile.Decoder.instr
  exact q_op (q_u1 hd) hx rfl
set_option maxRecDepth 100000 in
theorem dq_31 {c : ByteArray} {pc : Nat} (h : bt_n 31 (drp c.data.toList pc) = true) : decode c pc = .ok (.lload_n 1, 1) := by
  obtain ⟨⟨l⟩⟩ := c
  obtain ⟨x, t, hd, hx⟩ := bt_n_ok h
  refine q_decN (n := 1) ?_
  unfold Jvm.ClassFile.Decoder.instr
  exact q_op (q_u1 hd) hx rfl
set_option maxRecDepth 100000 in
theorem dq_32 {c : ByteArray} {pc : Nat} (h : bt_n 32 (drp c.data.toList pc) = true) : decode c pc = .ok (.lload_n 2, 1) := by
  obtain ⟨⟨l⟩⟩ := c
  obtain ⟨x, t, hd, hx⟩ := bt_n_ok h
  refine q_decN (n := 1) ?_
  unfold Jvm.ClassFile.Decoder.instr
  exact q_op (q_u1 hd) hx rfl
set_option maxRecDepth 100000 in
theorem dq_33 {c : ByteArray} {pc : Nat} (h : bt_n 33 (drp c.data.toList pc) = true) : decode c pc = .ok (.lload_n 3, 1) := by
  obtain ⟨⟨l⟩⟩ := c
  obtain ⟨x, t, hd, hx⟩ := bt_n_ok h
  refine q_decN (n := 1) ?_
  unfold Jvm.ClassFile.Decoder.instr
  exact q_op (q_u1 hd) hx rfl
set_option maxRecDepth 100000 in
theorem dq_4 {c : ByteArray} {pc : Nat} (h : bt_n 4 (drp c.data.toList pc) = true) : decode c pc = .ok (.iconst 1, 1) := by
  obtain ⟨⟨l⟩⟩ := c
  obtain ⟨x, t, hd, hx⟩ := bt_n_ok h
  refine q_decN (n := 1) ?_
  unfold Jvm.ClassFile.Decoder.instr
  exact q_op (q_u1 hd) hx rfl
set_option maxRecDepth 100000 in
theorem dq_42 {c : ByteArray} {pc : Nat} (h : bt_n 42 (drp c.data.toList pc) = true) : decode c pc = .ok (.aload_n 0, 1) := by
  obtain ⟨⟨l⟩⟩ := c
  obtain ⟨x, t, hd, hx⟩ := bt_n_ok h
  refine q_decN (n := 1) ?_
  unfold Jvm.ClassFile.Decoder.instr
  exact q_op (q_u1 hd) hx rfl
set_option maxRecDepth 100000 in
theorem dq_43 {c : ByteArray} {pc : Nat} (h : bt_n 43 (drp c.data.toList pc) = true) : decode c pc = .ok (.aload_n 1, 1) := by
  obtain ⟨⟨l⟩⟩ := c
  obtain ⟨x, t, hd, hx⟩ := bt_n_ok h
  refine q_decN (n := 1) ?_
  unfold Jvm.ClassFile.Decoder.instr
  exact q_op (q_u1 hd) hx rfl
set_option maxRecDepth 100000 in
theorem dq_44 {c : ByteArray} {pc : Nat} (h : bt_n 44 (drp c.data.toList pc) = true) : decode c pc = .ok (.aload_n 2, 1) := by
  obtain ⟨⟨l⟩⟩ := c
  obtain ⟨x, t, hd, hx⟩ := bt_n_ok h
  refine q_decN (n := 1) ?_
  unfold Jvm.ClassFile.Decoder.instr
  exact q_op (q_u1 hd) hx rfl
set_option maxRecDepth 100000 in
theorem dq_45 {c : ByteArray} {pc : Nat} (h : bt_n 45 (drp c.data.toList pc) = true) : decode c pc = .ok (.aload_n 3, 1) := by
  obtain ⟨⟨l⟩⟩ := c
  obtain ⟨x, t, hd, hx⟩ := bt_n_ok h
  refine q_decN (n := 1) ?_
  unfold Jvm.ClassFile.Decoder.instr
  exact q_op (q_u1 hd) hx rfl
set_option maxRecDepth 100000 in
theorem dq_46 {c : ByteArray} {pc : Nat} (h : bt_n 46 (drp c.data.toList pc) = true) : decode c pc = .ok (.iaload, 1) := by
  obtain ⟨⟨l⟩⟩ := c
  obtain ⟨x, t, hd, hx⟩ := bt_n_ok h
  refine q_decN (n := 1) ?_
  unfold Jvm.ClassFile.Decoder.instr
  exact q_op (q_u1 hd) hx rfl
set_option maxRecDepth 100000 in
theorem dq_5 {c : ByteArray} {pc : Nat} (h : bt_n 5 (drp c.data.toList pc) = true) : decode c pc = .ok (.iconst 2, 1) := by
  obtain ⟨⟨l⟩⟩ := c
  obtain ⟨x, t, hd, hx⟩ := bt_n_ok h
  refine q_decN (n := 1) ?_
  unfold Jvm.ClassFile.Decoder.instr
  exact q_op (q_u1 hd) hx rfl
set_option maxRecDepth 100000 in
theorem dq_50 {c : ByteArray} {pc : Nat} (h : bt_n 50 (drp c.data.toList pc) = true) : decode c pc = .ok (.aaload, 1) := by
  obtain ⟨⟨l⟩⟩ := c
  obtain ⟨x, t, hd, hx⟩ := bt_n_ok h
  refine q_decN (n := 1) ?_
  unfold Jvm.ClassFile.Decoder.instr
  exact q_op (q_u1 hd) hx rfl
set_option maxRecDepth 100000 in
theorem dq_51 {c : ByteArray} {pc : Nat} (h : bt_n 51 (drp c.data.toList pc) = true) : decode c pc = .ok (.baload, 1) := by
  obtain ⟨⟨l⟩⟩ := c
  obtain ⟨x, t, hd, hx⟩ := bt_n_ok h
  refine q_decN (n := 1) ?_
  unfold Jvm.ClassFile.Decoder.instr
  exact q_op (q_u1 hd) hx rfl
set_option maxRecDepth 100000 in
theorem dq_54 {c : ByteArray} {pc v : Nat} (h : bt_u1 54 v (drp c.data.toList pc) = true) : decode c pc = .ok (.istore v, 2) := by
  obtain ⟨⟨l⟩⟩ := c
  obtain ⟨x, y, t, hd, hx, hy⟩ := bt_u1_ok h
  obtain ⟨-, -, h2⟩ := dr_get hd
  refine q_decN (n := 2) ?_
  unfold Jvm.ClassFile.Decoder.instr
  refine q_op (q_u1 hd) hx ?_
  show ((Jvm.ClassFile.Reader.u1 >>= fun i => pure (.istore i)) : Jvm.ClassFile.Decoder Jvm.ClassFile.Instr) ⟨⟨l⟩⟩ (pc + 1) = _
  exact q_op (q_u1 h2) hy rfl
set_option maxRecDepth 100000 in
theorem dq_55 {c : ByteArray} {pc v : Nat} (h : bt_u1 55 v (drp c.data.toList pc) = true) : decode c pc = .ok (.lstore v, 2) := by
  obtain ⟨⟨l⟩⟩ := c
  obtain ⟨x, y, t, hd, hx, hy⟩ := bt_u1_ok h
  obtain ⟨-, -, h2⟩ := dr_get hd
  refine q_decN (n := 2) ?_
  unfold Jvm.ClassFile.Decoder.instr
  refine q_op (q_u1 hd) hx ?_
  show ((Jvm.ClassFile.Reader.u1 >>= fun i => pure (.lstore i)) : Jvm.ClassFile.Decoder Jvm.ClassFile.Instr) ⟨⟨l⟩⟩ (pc + 1) = _
  exact q_op (q_u1 h2) hy rfl
set_option maxRecDepth 100000 in
theorem dq_58 {c : ByteArray} {pc v : Nat} (h : bt_u1 58 v (drp c.data.toList pc) = true) : decode c pc = .ok (.astore v, 2) := by
  obtain ⟨⟨l⟩⟩ := c
  obtain ⟨x, y, t, hd, hx, hy⟩ := bt_u1_ok h
  obtain ⟨-, -, h2⟩ := dr_get hd
  refine q_decN (n := 2) ?_
  unfold Jvm.ClassFile.Decoder.instr
  refine q_op (q_u1 hd) hx ?_
  show ((Jvm.ClassFile.Reader.u1 >>= fun i => pure (.astore i)) : Jvm.ClassFile.Decoder Jvm.ClassFile.Instr) ⟨⟨l⟩⟩ (pc + 1) = _
  exact q_op (q_u1 h2) hy rfl
set_option maxRecDepth 100000 in
theorem dq_6 {c : ByteArray} {pc : Nat} (h : bt_n 6 (drp c.data.toList pc) = true) : decode c pc = .ok (.iconst 3, 1) := by
  obtain ⟨⟨l⟩⟩ := c
  obtain ⟨x, t, hd, hx⟩ := bt_n_ok h
  refine q_decN (n := 1) ?_
  unfold Jvm.ClassFile.Decoder.instr
  exact q_op (q_u1 hd) hx rfl
set_option maxRecDepth 100000 in
theorem dq_60 {c : ByteArray} {pc : Nat} (h : bt_n 60 (drp c.data.toList pc) = true) : decode c pc = .ok (.istore_n 1, 1) := by
  obtain ⟨⟨l⟩⟩ := c
  obtain ⟨x, t, hd, hx⟩ := bt_n_ok h
  refine q_decN (n := 1) ?_
  unfold Jvm.ClassFile.Decoder.instr
  exact q_op (q_u1 hd) hx rfl
set_option maxRecDepth 100000 in
theorem dq_61 {c : ByteArray} {pc : Nat} (h : bt_n 61 (drp c.data.toList pc) = true) : decode c pc = .ok (.istore_n 2, 1) := by
  obtain ⟨⟨l⟩⟩ := c
  obtain ⟨x, t, hd, hx⟩ := bt_n_ok h
  refine q_decN (n := 1) ?_
  unfold Jvm.ClassFile.Decoder.instr
  exact q_op (q_u1 hd) hx rfl
set_option maxRecDepth 100000 in
theorem dq_62 {c : ByteArray} {pc : Nat} (h : bt_n 62 (drp c.data.toList pc) = true) : decode c pc = .ok (.istore_n 3, 1) := by
  obtain ⟨⟨l⟩⟩ := c
  obtain ⟨x, t, hd, hx⟩ := bt_n_ok h
  refine q_decN (n := 1) ?_
  unfold Jvm.ClassFile.Decoder.instr
  exact q_op (q_u1 hd) hx rfl
set_option maxRecDepth 100000 in
theorem dq_64 {c : ByteArray} {pc : Nat} (h : bt_n 64 (drp c.data.toList pc) = true) : decode c pc = .ok (.lstore_n 1, 1) := by
  obtain ⟨⟨l⟩⟩ := c
  obtain ⟨x, t, hd, hx⟩ := bt_n_ok h
  refine q_decN (n := 1) ?_
  unfold Jvm.ClassFile.Decoder.instr
  exact q_op (q_u1 hd) hx rfl
set_option maxRecDepth 100000 in
theorem dq_66 {c : ByteArray} {pc : Nat} (h : bt_n 66 (drp c.data.toList pc) = true) : decode c pc = .ok (.lstore_n 3, 1) := by
  obtain ⟨⟨l⟩⟩ := c
  obtain ⟨x, t, hd, hx⟩ := bt_n_ok h
  refine q_decN (n := 1) ?_
  unfold Jvm.ClassFile.Decoder.instr
  exact q_op (q_u1 hd) hx rfl
set_option maxRecDepth 100000 in
theorem dq_7 {c : ByteArray} {pc : Nat} (h : bt_n 7 (drp c.data.toList pc) = true) : decode c pc = .ok (.iconst 4, 1) := by
  obtain ⟨⟨l⟩⟩ := c
  obtain ⟨x, t, hd, hx⟩ := bt_n_ok h
  refine q_decN (n := 1) ?_
  unfold Jvm.ClassFile.Decoder.instr
  exact q_op (q_u1 hd) hx rfl
set_option maxRecDepth 100000 in
theorem dq_76 {c : ByteArray} {pc : Nat} (h : bt_n 76 (drp c.data.toList pc) = true) : decode c pc = .ok (.astore_n 1, 1) := by
  obtain ⟨⟨l⟩⟩ := c
  obtain ⟨x, t, hd, hx⟩ := bt_n_ok h
  refine q_decN (n := 1) ?_
  unfold Jvm.ClassFile.Decoder.instr
  exact q_op (q_u1 hd) hx rfl
set_option maxRecDepth 100000 in
theorem dq_77 {c : ByteArray} {pc : Nat} (h : bt_n 77 (drp c.data.toList pc) = true) : decode c pc = .ok (.astore_n 2, 1) := by
  obtain ⟨⟨l⟩⟩ := c
  obtain ⟨x, t, hd, hx⟩ := bt_n_ok h
  refine q_decN (n := 1) ?_
  unfold Jvm.ClassFile.Decoder.instr
  exact q_op (q_u1 hd) hx rfl
set_option maxRecDepth 100000 in
theorem dq_78 {c : ByteArray} {pc : Nat} (h : bt_n 78 (drp c.data.toList pc) = true) : decode c pc = .ok (.astore_n 3, 1) := by
  obtain ⟨⟨l⟩⟩ := c
  obtain ⟨x, t, hd, hx⟩ := bt_n_ok h
  refine q_decN (n := 1) ?_
  unfold Jvm.ClassFile.Decoder.instr
  exact q_op (q_u1 hd) hx rfl
set_option maxRecDepth 100000 in
theorem dq_79 {c : ByteArray} {pc : Nat} (h : bt_n 79 (drp c.data.toList pc) = true) : decode c pc = .ok (.iastore, 1) := by
  obtain ⟨⟨l⟩⟩ := c
  obtain ⟨x, t, hd, hx⟩ := bt_n_ok h
  refine q_decN (n := 1) ?_
  unfold Jvm.ClassFile.Decoder.instr
  exact q_op (q_u1 hd) hx rfl
set_option maxRecDepth 100000 in
theorem dq_8 {c : ByteArray} {pc : Nat} (h : bt_n 8 (drp c.data.toList pc) = true) : decode c pc = .ok (.iconst 5, 1) := by
  obtain ⟨⟨l⟩⟩ := c
  obtain ⟨x, t, hd, hx⟩ := bt_n_ok h
  refine q_decN (n := 1) ?_
  unfold Jvm.ClassFile.Decoder.instr
  exact q_op (q_u1 hd) hx rfl
set_option maxRecDepth 100000 in
theorem dq_83 {c : ByteArray} {pc : Nat} (h : bt_n 83 (drp c.data.toList pc) = true) : decode c pc = .ok (.aastore, 1) := by
  obtain ⟨⟨l⟩⟩ := c
  obtain ⟨x, t, hd, hx⟩ := bt_n_ok h
  refine q_decN (n := 1) ?_
  unfold Jvm.ClassFile.Decoder.instr
  exact q_op (q_u1 hd) hx rfl
set_option maxRecDepth 100000 in
theorem dq_84 {c : ByteArray} {pc : Nat} (h : bt_n 84 (drp c.data.toList pc) = true) : decode c pc = .ok (.bastore, 1) := by
  obtain ⟨⟨l⟩⟩ := c
  obtain ⟨x, t, hd, hx⟩ := bt_n_ok h
  refine q_decN (n := 1) ?_
  unfold Jvm.ClassFile.Decoder.instr
  exact q_op (q_u1 hd) hx rfl
set_option maxRecDepth 100000 in
theorem dq_87 {c : ByteArray} {pc : Nat} (h : bt_n 87 (drp c.data.toList pc) = true) : decode c pc = .ok (.pop, 1) := by
  obtain ⟨⟨l⟩⟩ := c
  obtain ⟨x, t, hd, hx⟩ := bt_n_ok h
  refine q_decN (n := 1) ?_
  unfold Jvm.ClassFile.Decoder.instr
  exact q_op (q_u1 hd) hx rfl
set_option maxRecDepth 100000 in
theorem dq_89 {c : ByteArray} {pc : Nat} (h : bt_n 89 (drp c.data.toList pc) = true) : decode c pc = .ok (.dup, 1) := by
  obtain ⟨⟨l⟩⟩ := c
  obtain ⟨x, t, hd, hx⟩ := bt_n_ok h
  refine q_decN (n := 1) ?_
  unfold Jvm.ClassFile.Decoder.instr
  exact q_op (q_u1 hd) hx rfl
set_option maxRecDepth 100000 in
theorem dq_9 {c : ByteArray} {pc : Nat} (h : bt_n 9 (drp c.data.toList pc) = true) : decode c pc = .ok (.lconst 0, 1) := by
  obtain ⟨⟨l⟩⟩ := c
  obtain ⟨x, t, hd, hx⟩ := bt_n_ok h
  refine q_decN (n := 1) ?_
  unfold Jvm.ClassFile.Decoder.instr
  exact q_op (q_u1 hd) hx rfl
set_option maxRecDepth 100000 in
theorem dq_92 {c : ByteArray} {pc : Nat} (h : bt_n 92 (drp c.data.toList pc) = true) : decode c pc = .ok (.dup2, 1) := by
  obtain ⟨⟨l⟩⟩ := c
  obtain ⟨x, t, hd, hx⟩ := bt_n_ok h
  refine q_decN (n := 1) ?_
  unfold Jvm.ClassFile.Decoder.instr
  exact q_op (q_u1 hd) hx rfl
set_option maxRecDepth 100000 in
theorem dq_96 {c : ByteArray} {pc : Nat} (h : bt_n 96 (drp c.data.toList pc) = true) : decode c pc = .ok (.iadd, 1) := by
  obtain ⟨⟨l⟩⟩ := c
  obtain ⟨x, t, hd, hx⟩ := bt_n_ok h
  refine q_decN (n := 1) ?_
  unfold Jvm.ClassFile.Decoder.instr
  exact q_op (q_u1 hd) hx rfl
set_option maxRecDepth 100000 in
theorem dq_97 {c : ByteArray} {pc : Nat} (h : bt_n 97 (drp c.data.toList pc) = true) : decode c pc = .ok (.ladd, 1) := by
  obtain ⟨⟨l⟩⟩ := c
  obtain ⟨x, t, hd, hx⟩ := bt_n_ok h
  refine q_decN (n := 1) ?_
  unfold Jvm.ClassFile.Decoder.instr
  exact q_op (q_u1 hd) hx rfl
