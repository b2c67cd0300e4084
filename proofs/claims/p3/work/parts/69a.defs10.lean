/-! ===== the state of the class, and of the reference; their worlds; what always holds ===== -/
abbrev XS : Type := (Nat → Nat) × (Nat → Nat) × (Nat → Int32) × (Nat → Int64) × (Nat → Nat → Int32) × (Nat → Option Nat) × (Nat → Nat → Nat) × (Nat → Nat → Nat → Int32) × (Nat → Nat → Nat) × (Nat → Nat → Int32) × (Nat → Nat → Nat → Int32)
abbrev MS : Type := (Nat → Nat) × (Nat → Int32) × (Nat → Int64) × (Nat → Nat → Int32)
def xA (s : XS) : Nat → Nat := s.1
def xB (s : XS) : Nat → Nat := s.2.1
def xV (s : XS) : Nat → Int32 := s.2.2.1
def xG (s : XS) : Nat → Int64 := s.2.2.2.1
def xF (s : XS) : Nat → Nat → Int32 := s.2.2.2.2.1
def xQ (s : XS) : Nat → Option Nat := s.2.2.2.2.2.1
def xwa (s : XS) : Nat → Nat → Nat := s.2.2.2.2.2.2.1
def xwf (s : XS) : Nat → Nat → Nat → Int32 := s.2.2.2.2.2.2.2.1
def xya (s : XS) : Nat → Nat → Nat := s.2.2.2.2.2.2.2.2.1
def xyv (s : XS) : Nat → Nat → Int32 := s.2.2.2.2.2.2.2.2.2.1
def xyf (s : XS) : Nat → Nat → Nat → Int32 := s.2.2.2.2.2.2.2.2.2.2
def mA (s : MS) : Nat → Nat := s.1
def mV (s : MS) : Nat → Int32 := s.2.1
def mG (s : MS) : Nat → Int64 := s.2.2.1
def mF (s : MS) : Nat → Nat → Int32 := s.2.2.2
def sh (A : Nat → Nat) (n : Nat) : Nat → Nat := fun k => A (n + k)
def lkN (l : List Nat) : Nat → Nat := fun k => l.getD k 0
def lkV (l : List Int32) : Nat → Int32 := fun k => l.getD k 0
def lkG (l : List Int64) : Nat → Int64 := fun k => l.getD k 0
def lkF (l : List (Nat → Int32)) : Nat → Nat → Int32 := fun k => l.getD k (fun _ => 0)
def XC (E : Nat → Nat) (q : Nat) (s : XS) : va_W := match s with
  | (A, B, V, G, F, Q, wa, wf, ya, yv, yf) => [(q, .inr (8, G8 A (B 0) (B 1) (V 0))), ((A 0), .inl (E 0, 400, .inl (F 0))), ((A 1), .inl (E 0, 16, .inl (F 1))), ((A 2), .inl (E 0, 16, .inl (F 2))), ((A 3), .inl (E 3, 16, .inr (.inr (.inr (.inr Q))))), ((A 4), .inl (E 4, 5, .inr (.inr (.inr (.inr (fun k => some (ya k 7))))))), ((A 5), .inl (E 0, 9, .inl (F 3))), ((A 6), .inr (2, G2 (sh A 20) (V 1))), (((sh A 20) 0), .inl (E 0, 60, .inl (F 4))), (((sh A 20) 1), .inl (E 0, 60, .inl (F 5))), (((sh A 20) 2), .inl (E 0, 60, .inl (F 6))), (((sh A 20) 3), .inl (E 0, 60, .inl (F 7))), (((sh A 20) 4), .inl (E 0, 60, .inl (F 8))), ((A 7), .inr (3, G3 (sh A 25) (V 2))), (((sh A 25) 0), .inl (E 0, 60, .inl (F 9))), (((sh A 25) 1), .inl (E 0, 60, .inl (F 10))), (((sh A 25) 2), .inl (E 0, 60, .inl (F 11))), ((A 8), .inr (1, G1 (sh A 50) (G 0) (G 1) (G 2) (G 3) (G 4) (G 5) (G 6) (G 7) (G 8) (G 9) (G 10) (G 11) (V 3) (G 12) (G 13))), ((A 9), .inr (6, G6 (sh A 28) (V 4) (B 2) (B 3) (V 5) (V 6) (V 7) (V 8))), (((sh A 28) 0), .inl (E 0, 120, .inl (F 12))), ((A 10), .inr (0, G0 (sh A 31) (V 9) (V 10) (V 11) (V 12))), (((sh A 31) 0), .inl (E 0, 9, .inl (F 13))), (((sh A 31) 1), .inl (E 0, 9, .inl (F 14))), (((sh A 31) 2), .inl (E 0, 9, .inl (F 15))), (((sh A 31) 3), .inl (E 0, 3, .inl (F 16))), (((sh A 31) 4), .inl (E 0, 3, .inl (F 17))), ((B 0), .inr (4, G4 (sh B 10) (V 13))), (((sh B 10) 0), .inl (E 0, 120, .inl (F 18))), (((sh B 10) 1), .inl (E 0, 120, .inl (F 19))), (((sh B 10) 2), .inl (E 0, 120, .inl (F 20))), ((B 1), .inr (4, G4 (sh B 13) (V 14))), (((sh B 13) 0), .inl (E 0, 120, .inl (F 21))), (((sh B 13) 1), .inl (E 0, 120, .inl (F 22))), (((sh B 13) 2), .inl (E 0, 120, .inl (F 23))), ((B 2), .inr (4, G4 (sh B 16) (V 15))), (((sh B 16) 0), .inl (E 0, 120, .inl (F 24))), (((sh B 16) 1), .inl (E 0, 120, .inl (F 25))), (((sh B 16) 2), .inl (E 0, 120, .inl (F 26)))]
def SB (E : Nat → Nat) (ya : Nat → Nat → Nat) (yv : Nat → Nat → Int32) (yf : Nat → Nat → Nat → Int32) (i : Nat) : va_W := [((ya i 7), .inr (5, G5 (ya i) (yv i 0) (yv i 1) (yv i 2) (yv i 3))), (((ya i) 0), .inl (E 0, 3, .inl (yf i 0))), (((ya i) 1), .inl (E 0, 3, .inl (yf i 1))), (((ya i) 2), .inl (E 0, 3, .inl (yf i 2))), (((ya i) 3), .inl (E 0, 3, .inl (yf i 3))), (((ya i) 4), .inl (E 0, 3, .inl (yf i 4))), (((ya i) 5), .inl (E 0, 40, .inl (yf i 5))), (((ya i) 6), .inl (E 0, 120, .inl (yf i 6)))]
def spool (E : Nat → Nat) (ya : Nat → Nat → Nat) (yv : Nat → Nat → Int32) (yf : Nat → Nat → Nat → Int32) : va_W := pool 5 (SB E ya yv yf)
def srest (E : Nat → Nat) (ya : Nat → Nat → Nat) (yv : Nat → Nat → Int32) (yf : Nat → Nat → Nat → Int32) (i : Nat) : va_W := pool 5 (va_up (SB E ya yv yf) i [])
theorem spool_ex {E : Nat → Nat} {ya : Nat → Nat → Nat} {yv : Nat → Nat → Int32} {yf : Nat → Nat → Nat → Int32} {i : Nat} (hi : i < 5) : (spool E ya yv yf).Perm (SB E ya yv yf i ++ srest E ya yv yf i) := by
  have := pool_up hi (SB E ya yv yf) (SB E ya yv yf i)
  rw [up_same rfl] at this
  exact this
theorem up_at {α : Type} {f : Nat → α} {i : Nat} {x : α} : va_up f i x i = x := by simp [va_up]
theorem up_ne {α : Type} {f : Nat → α} {i j : Nat} {x : α} (h : j ≠ i) : va_up f i x j = f j := by simp [va_up, h]
theorem spool_set {E : Nat → Nat} {ya : Nat → Nat → Nat} {yv : Nat → Nat → Int32} {yf : Nat → Nat → Nat → Int32} {i : Nat} {v : Nat → Int32} {f : Nat → Nat → Int32} {B : va_W} (hi : i < 5) (hB : SB E ya (fun _ => v) (fun _ => f) i = B) : (spool E ya (va_up yv i v) (va_up yf i f)).Perm (B ++ srest E ya yv yf i) := by
  have e : SB E ya (va_up yv i v) (va_up yf i f) = va_up (SB E ya yv yf) i B := by
    funext j
    by_cases h : j = i
    · subst h
      rw [up_at, ← hB]
      unfold SB
      rw [up_at, up_at]
    · rw [up_ne h]
      unfold SB
      rw [up_ne h, up_ne h]
  unfold spool
  rw [e]
  exact pool_up hi _ _
theorem pl_w {a b c d : va_W} (h : a.Perm (b ++ c)) : (a ++ d).Perm (b ++ (c ++ d)) := by rw [← List.append_assoc]; exact h.append_right d
theorem pl_s {a b c d : va_W} (h : a.Perm (b ++ c)) : (d ++ a).Perm (b ++ (d ++ c)) := (h.append_left d).trans (List.perm_append_comm_assoc d b c)
theorem pl_ws {a b c a' b' c' : va_W} (h : a.Perm (b ++ c)) (h' : a'.Perm (b' ++ c')) : (a ++ a').Perm ((b ++ b') ++ (c ++ c')) := by
  have h1 := h.append h'
  refine h1.trans ?_
  rw [List.append_assoc, List.append_assoc]
  exact (List.perm_append_comm_assoc c b' c').append_left b
def wf4 (a b c d : Nat → Int32) : Nat → Nat → Int32
  | 0 => a
  | 1 => b
  | 2 => c
  | _ => d
def yv4 (a b c d : Int32) : Nat → Int32
  | 0 => a
  | 1 => b
  | 2 => c
  | _ => d
def yf7 (a b c d e f g : Nat → Int32) : Nat → Nat → Int32
  | 0 => a
  | 1 => b
  | 2 => c
  | 3 => d
  | 4 => e
  | 5 => f
  | _ => g
theorem sg_up {yv : Nat → Nat → Int32} {i : Nat} {v : Nat → Int32} {hi : Int} (h : ∀ j : Nat, j < 5 → 0 ≤ (yv j 0).toInt ∧ (yv j 0).toInt ≤ hi) (h2 : 0 ≤ (v 0).toInt ∧ (v 0).toInt ≤ hi) : ∀ j : Nat, j < 5 → 0 ≤ (va_up yv i v j 0).toInt ∧ (va_up yv i v j 0).toInt ≤ hi := by
  intro j hj
  by_cases e : j = i
  · subst e; rw [up_at]; exact h2
  · rw [up_ne e]; exact h j hj
theorem sp_mem {E : Nat → Nat} {ya : Nat → Nat → Nat} {yv : Nat → Nat → Int32} {yf : Nat → Nat → Nat → Int32} {k : Nat} {x : Nat × va_E} (hk : k < 5) (h : x ∈ SB E ya yv yf k) : x ∈ spool E ya yv yf := List.mem_flatMap.mpr ⟨k, List.mem_range.mpr hk, h⟩
theorem JQ_KM {f g : Nat → Int32} {Q : Nat → Option Nat} (h : JQ f Q) (hk : KM f g) : JQ g Q := fun i hi hg => by
  rcases hk i with e | e
  · exact h i hi (by rw [← e]; exact hg)
  · omega
def XW (E : Nat → Nat) (q : Nat) (s : XS) : va_W := XC E q s ++ (wpool E (xQ s) (xwa s) (xwf s) ++ spool E (xya s) (xyv s) (xyf s))
theorem XWp {E : Nat → Nat} {q : Nat} {A B : Nat → Nat} {V : Nat → Int32} {G : Nat → Int64} {F : Nat → Nat → Int32} {Q : Nat → Option Nat} {wa : Nat → Nat → Nat} {wf : Nat → Nat → Nat → Int32} {ya : Nat → Nat → Nat} {yv : Nat → Nat → Int32} {yf : Nat → Nat → Nat → Int32} {Y : va_W} (h : (XC E q (A, B, V, G, F, Q, wa, wf, ya, yv, yf) ++ (wpool E Q wa wf ++ spool E ya yv yf)).Perm Y) : (XW E q (A, B, V, G, F, Q, wa, wf, ya, yv, yf)).Perm Y := h
theorem XWm {E : Nat → Nat} {q : Nat} {A B : Nat → Nat} {V : Nat → Int32} {G : Nat → Int64} {F : Nat → Nat → Int32} {Q : Nat → Option Nat} {wa : Nat → Nat → Nat} {wf : Nat → Nat → Nat → Int32} {ya : Nat → Nat → Nat} {yv : Nat → Nat → Int32} {yf : Nat → Nat → Nat → Int32} {Y : va_W} (h : ∀ z ∈ Y, z ∈ XC E q (A, B, V, G, F, Q, wa, wf, ya, yv, yf) ++ (wpool E Q wa wf ++ spool E ya yv yf)) : ∀ z ∈ Y, z ∈ XW E q (A, B, V, G, F, Q, wa, wf, ya, yv, yf) := h
def XI (s : XS) : Prop := (0 ≤ (xV s 0).toInt ∧ (xV s 0).toInt ≤ 399) ∧ (0 ≤ (xV s 1).toInt ∧ (xV s 1).toInt ≤ 60) ∧ (0 ≤ (xV s 2).toInt ∧ (xV s 2).toInt ≤ 60) ∧ (0 ≤ (xV s 4).toInt ∧ (xV s 4).toInt ≤ 120) ∧ (0 ≤ (xV s 9).toInt ∧ (xV s 9).toInt ≤ 9) ∧ (0 ≤ (xV s 10).toInt ∧ (xV s 10).toInt ≤ 9) ∧ (0 ≤ (xV s 11).toInt ∧ (xV s 11).toInt ≤ 3) ∧ (0 ≤ (xV s 13).toInt ∧ (xV s 13).toInt ≤ 120) ∧ (0 ≤ (xV s 14).toInt ∧ (xV s 14).toInt ≤ 120) ∧ (0 ≤ (xV s 15).toInt ∧ (xV s 15).toInt ≤ 120) ∧ (∀ k : Nat, k < 60 → 0 ≤ (xF s 9 k).toInt ∧ (xF s 9 k).toInt ≤ 399) ∧ JQ (xF s 1) (xQ s) ∧ (∀ i : Nat, i < 5 → 0 ≤ (xyv s i 0).toInt ∧ (xyv s i 0).toInt ≤ 40)
def MW (E : Nat → Nat) (q : Nat) (s : MS) : va_W := match s with
  | (A, V, G, F) => [(q, .inr (9, G9 A (V 0) (V 1) (V 2) (G 0) (G 1) (G 2) (G 3) (G 4) (G 5) (G 6) (G 7) (G 8) (G 9) (G 10) (V 3) (V 4) (V 5) (V 6) (V 7) (V 8) (V 9) (V 10) (V 11) (V 12))), ((A 2), .inl (E 0, 400, .inl (F 0))), ((A 3), .inl (E 0, 16, .inl (F 1))), ((A 4), .inl (E 0, 16, .inl (F 2))), ((A 5), .inl (E 1, 6400, .inl (F 3))), ((A 6), .inl (E 0, 6400, .inl (F 4))), ((A 7), .inl (E 0, 6400, .inl (F 5))), ((A 8), .inl (E 1, 6400, .inl (F 6))), ((A 9), .inl (E 1, 6400, .inl (F 7))), ((A 10), .inl (E 0, 6400, .inl (F 8))), ((A 12), .inl (E 0, 60, .inl (F 9))), ((A 13), .inl (E 0, 60, .inl (F 10))), ((A 14), .inl (E 0, 60, .inl (F 11))), ((A 15), .inl (E 0, 60, .inl (F 12))), ((A 16), .inl (E 0, 60, .inl (F 13))), ((A 29), .inl (E 0, 60, .inl (F 14))), ((A 30), .inl (E 0, 60, .inl (F 15))), ((A 31), .inl (E 0, 60, .inl (F 16))), ((A 32), .inl (E 2, 120, .inl (F 17))), ((A 34), .inl (E 1, 2, .inl (F 18))), ((A 35), .inl (E 0, 2, .inl (F 19))), ((A 36), .inl (E 0, 384, .inl (F 20))), ((A 37), .inl (E 0, 384, .inl (F 21))), ((A 43), .inl (E 0, 130, .inl (F 22))), ((A 45), .inl (E 0, 130, .inl (F 23))), ((A 46), .inl (E 0, 24, .inl (F 24))), ((A 47), .inl (E 0, 5, .inl (F 25))), ((A 48), .inl (E 0, 5, .inl (F 26))), ((A 49), .inl (E 0, 5, .inl (F 27))), ((A 50), .inl (E 0, 15, .inl (F 28))), ((A 51), .inl (E 0, 15, .inl (F 29))), ((A 52), .inl (E 0, 15, .inl (F 30))), ((A 53), .inl (E 0, 15, .inl (F 31))), ((A 54), .inl (E 0, 15, .inl (F 32))), ((A 55), .inl (E 0, 5, .inl (F 33))), ((A 56), .inl (E 0, 200, .inl (F 34))), ((A 57), .inl (E 0, 600, .inl (F 35))), ((A 58), .inl (E 0, 3, .inl (F 36))), ((A 59), .inl (E 0, 3, .inl (F 37))), ((A 60), .inl (E 0, 3, .inl (F 38))), ((A 62), .inl (E 0, 9, .inl (F 39))), ((A 63), .inl (E 0, 9, .inl (F 40))), ((A 65), .inl (E 0, 9, .inl (F 41))), ((A 66), .inl (E 0, 3, .inl (F 42))), ((A 67), .inl (E 0, 3, .inl (F 43)))]
def MI (s : MS) : Prop := (0 ≤ (mV s 1).toInt ∧ (mV s 1).toInt ≤ 399) ∧ (0 ≤ (mV s 2).toInt ∧ (mV s 2).toInt ≤ 60) ∧ (0 ≤ (mV s 3).toInt ∧ (mV s 3).toInt ≤ 60) ∧ (0 ≤ (mV s 4).toInt ∧ (mV s 4).toInt ≤ 120) ∧ (0 ≤ (mV s 11).toInt ∧ (mV s 11).toInt ≤ 9) ∧ (0 ≤ (mV s 12).toInt ∧ (mV s 12).toInt ≤ 9) ∧ (∀ k : Nat, k < 60 → 0 ≤ (mF s 14 k).toInt ∧ (mF s 14 k).toInt ≤ 399) ∧ (∀ k : Nat, k < 2 → 0 ≤ (mF s 19 k).toInt ∧ (mF s 19 k).toInt ≤ 127) ∧ (∀ k : Nat, k < 15 → 0 ≤ (mF s 28 k).toInt ∧ (mF s 28 k).toInt ≤ 15) ∧ (∀ k : Nat, k < 5 → 0 ≤ (mF s 33 k).toInt ∧ (mF s 33 k).toInt ≤ 40) ∧ (∀ k : Nat, k < 9 → 0 ≤ (mF s 41 k).toInt ∧ (mF s 41 k).toInt ≤ 3) ∧ J49 (mF s 25) (mF s 27) ∧ JW (mF s 20) (mF s 19)
