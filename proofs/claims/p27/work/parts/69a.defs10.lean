/-! ===== the state of the class, and of the reference; their worlds; what always holds ===== -/
abbrev XS : Type := (Nat → Nat) × (Nat → Nat) × (Nat → Int32) × (Nat → Int64) × (Nat → Nat → Int32) × (Nat → Option Nat) × (Nat → Nat → Nat) × (Nat → Nat → Nat → Int32) × (Nat → Nat → Nat) × (Nat → Nat → Int32) × (Nat → Nat → Nat → Int32)
abbrev MS : Type := (Nat → Nat) × (Nat → Int32) × (Nat → Int64) × (Nat → Nat → Int32)
def xA (s : XS) : Nat → Nat := s.1
def xB (s : XS) : Nat → Nat := s.2.1
def xV (s : XS) : Nat → Int32 := s.2.2.1
def xG (s : XS) : Nat → Int64 := s.2.2.2.1
def xF (s : XS) : Nat → Nat → Int32 := s.2.2.2.2.1
def xQ (s : XS) : Nat → Option Nat := s.2.2.2.2.2.1
def xwa (s : XS) : Nat → Nat → Nat := s.2.2.2.2.2.2.1
def xwf (s : XS) : Nat → Nat → Nat → Int32 := s.2.2.2.2.2.2.2.1
def xya (s : XS) : Nat → Nat → Nat := s.2.2.2.2.2.2.2.2.1
def xyv (s : XS) : Nat → Nat → Int32 := s.2.2.2.2.2.2.2.2.2.1
def xyf (s : XS) : Nat → Nat → Nat → Int32 := s.2.2.2.2.2.2.2.2.2.2
def mA (s : MS) : Nat → Nat := s.1
def mV (s : MS) : Nat → Int32 := s.2.1
def mG (s : MS) : Nat → Int64 := s.2.2.1
def mF (s : MS) : Nat → Nat → Int32 := s.2.2.2
def sh (A : Nat → Nat) (n : Nat) : Nat → Nat := fun k => A (n + k)
def lkN (l : List Nat) : Nat → Nat := fun k => l.getD k 0
def lkV (l : List Int32) : Nat → Int32 := fun k => l.getD k 0
def lkG (l : List Int64) : Nat → Int64 := fun k => l.getD k 0
def lkF (l : List (Nat → Int32)) : Nat → Nat → Int32 := fun k => l.getD k (fun _ => 0)
def XC (E : Nat → Nat) (q : Nat) (s : XS) : va_W := ((q, .inr (8, G8 (xA s) (xB s 0) (xB s 1) (xV s 0))) :: ((xA s 0), .inl (E 0, 400, .inl (xF s 0))) :: ((xA s 1), .inl (E 0, 16, .inl (xF s 1))) :: ((xA s 2), .inl (E 0, 16, .inl (xF s 2))) :: ((xA s 3), .inl (E 3, 16, .inr (.inr (.inr (.inr (xQ s)))))) :: ((xA s 4), .inl (E 4, 5, .inr (.inr (.inr (.inr (fun k => some (xya s k 7))))))) :: ((xA s 5), .inl (E 0, 9, .inl (xF s 3))) :: ((xA s 6), .inr (2, G2 (sh (xA s) 20) (xV s 1))) :: (((sh (xA s) 20) 0), .inl (E 0, 60, .inl (xF s 4))) :: (((sh (xA s) 20) 1), .inl (E 0, 60, .inl (xF s 5))) :: (((sh (xA s) 20) 2), .inl (E 0, 60, .inl (xF s 6))) :: (((sh (xA s) 20) 3), .inl (E 0, 60, .inl (xF s 7))) :: (((sh (xA s) 20) 4), .inl (E 0, 60, .inl (xF s 8))) :: ((xA s 7), .inr (3, G3 (sh (xA s) 25) (xV s 2))) :: (((sh (xA s) 25) 0), .inl (E 0, 60, .inl (xF s 9))) :: (((sh (xA s) 25) 1), .inl (E 0, 60, .inl (xF s 10))) :: (((sh (xA s) 25) 2), .inl (E 0, 60, .inl (xF s 11))) :: ((xA s 8), .inr (1, G1 (sh (xA s) 50) (xG s 0) (xG s 1) (xG s 2) (xG s 3) (xG s 4) (xG s 5) (xG s 6) (xG s 7) (xG s 8) (xG s 9) (xG s 10) (xG s 11) (xV s 3) (xG s 12) (xG s 13))) :: ((xA s 9), .inr (6, G6 (sh (xA s) 28) (xV s 4) (xB s 2) (xB s 3) (xV s 5) (xV s 6) (xV s 7) (xV s 8))) :: (((sh (xA s) 28) 0), .inl (E 0, 120, .inl (xF s 12))) :: ((xA s 10), .inr (0, G0 (sh (xA s) 31) (xV s 9) (xV s 10) (xV s 11) (xV s 12))) :: (((sh (xA s) 31) 0), .inl (E 0, 9, .inl (xF s 13))) :: (((sh (xA s) 31) 1), .inl (E 0, 9, .inl (xF s 14))) :: (((sh (xA s) 31) 2), .inl (E 0, 9, .inl (xF s 15))) :: (((sh (xA s) 31) 3), .inl (E 0, 3, .inl (xF s 16))) :: (((sh (xA s) 31) 4), .inl (E 0, 3, .inl (xF s 17))) :: ((xB s 0), .inr (4, G4 (sh (xB s) 10) (xV s 13))) :: (((sh (xB s) 10) 0), .inl (E 0, 120, .inl (xF s 18))) :: (((sh (xB s) 10) 1), .inl (E 0, 120, .inl (xF s 19))) :: (((sh (xB s) 10) 2), .inl (E 0, 120, .inl (xF s 20))) :: ((xB s 1), .inr (4, G4 (sh (xB s) 13) (xV s 14))) :: (((sh (xB s) 13) 0), .inl (E 0, 120, .inl (xF s 21))) :: (((sh (xB s) 13) 1), .inl (E 0, 120, .inl (xF s 22))) :: (((sh (xB s) 13) 2), .inl (E 0, 120, .inl (xF s 23))) :: ((xB s 2), .inr (4, G4 (sh (xB s) 16) (xV s 15))) :: (((sh (xB s) 16) 0), .inl (E 0, 120, .inl (xF s 24))) :: (((sh (xB s) 16) 1), .inl (E 0, 120, .inl (xF s 25))) :: (((sh (xB s) 16) 2), .inl (E 0, 120, .inl (xF s 26))) :: [])
theorem e_V {A A' : Nat → Nat} {B B' : Nat → Nat} {V V' : Nat → Int32} {G G' : Nat → Int64} {F F' : Nat → Nat → Int32} {Q Q' : Nat → Option Nat} {wa wa' : Nat → Nat → Nat} {wf wf' : Nat → Nat → Nat → Int32} {ya ya' : Nat → Nat → Nat} {yv yv' : Nat → Nat → Int32} {yf yf' : Nat → Nat → Nat → Int32} {k : Nat} (h : V' k = V k) : xV ((A', B', V', G', F', Q', wa', wf', ya', yv', yf') : XS) k = xV ((A, B, V, G, F, Q, wa, wf, ya, yv, yf) : XS) k := h
theorem e_F {A A' : Nat → Nat} {B B' : Nat → Nat} {V V' : Nat → Int32} {G G' : Nat → Int64} {F F' : Nat → Nat → Int32} {Q Q' : Nat → Option Nat} {wa wa' : Nat → Nat → Nat} {wf wf' : Nat → Nat → Nat → Int32} {ya ya' : Nat → Nat → Nat} {yv yv' : Nat → Nat → Int32} {yf yf' : Nat → Nat → Nat → Int32} {k : Nat} (h : F' k = F k) : xF ((A', B', V', G', F', Q', wa', wf', ya', yv', yf') : XS) k = xF ((A, B, V, G, F, Q, wa, wf, ya, yv, yf) : XS) k := h
theorem e_A {A A' : Nat → Nat} {B B' : Nat → Nat} {V V' : Nat → Int32} {G G' : Nat → Int64} {F F' : Nat → Nat → Int32} {Q Q' : Nat → Option Nat} {wa wa' : Nat → Nat → Nat} {wf wf' : Nat → Nat → Nat → Int32} {ya ya' : Nat → Nat → Nat} {yv yv' : Nat → Nat → Int32} {yf yf' : Nat → Nat → Nat → Int32} (h : A' = A) : xA ((A', B', V', G', F', Q', wa', wf', ya', yv', yf') : XS) = xA ((A, B, V, G, F, Q, wa, wf, ya, yv, yf) : XS) := h
theorem e_ya {A A' : Nat → Nat} {B B' : Nat → Nat} {V V' : Nat → Int32} {G G' : Nat → Int64} {F F' : Nat → Nat → Int32} {Q Q' : Nat → Option Nat} {wa wa' : Nat → Nat → Nat} {wf wf' : Nat → Nat → Nat → Int32} {ya ya' : Nat → Nat → Nat} {yv yv' : Nat → Nat → Int32} {yf yf' : Nat → Nat → Nat → Int32} (h : ya' = ya) : xya ((A', B', V', G', F', Q', wa', wf', ya', yv', yf') : XS) = xya ((A, B, V, G, F, Q, wa, wf, ya, yv, yf) : XS) := h
theorem e_wf {A A' : Nat → Nat} {B B' : Nat → Nat} {V V' : Nat → Int32} {G G' : Nat → Int64} {F F' : Nat → Nat → Int32} {Q Q' : Nat → Option Nat} {wa wa' : Nat → Nat → Nat} {wf wf' : Nat → Nat → Nat → Int32} {ya ya' : Nat → Nat → Nat} {yv yv' : Nat → Nat → Int32} {yf yf' : Nat → Nat → Nat → Int32} (h : wf' = wf) : xwf ((A', B', V', G', F', Q', wa', wf', ya', yv', yf') : XS) = xwf ((A, B, V, G, F, Q, wa, wf, ya, yv, yf) : XS) := h
def SB (E : Nat → Nat) (ya : Nat → Nat → Nat) (yv : Nat → Nat → Int32) (yf : Nat → Nat → Nat → Int32) (i : Nat) : va_W := [((ya i 7), .inr (5, G5 (ya i) (yv i 0) (yv i 1) (yv i 2) (yv i 3))), (((ya i) 0), .inl (E 0, 3, .inl (yf i 0))), (((ya i) 1), .inl (E 0, 3, .inl (yf i 1))), (((ya i) 2), .inl (E 0, 3, .inl (yf i 2))), (((ya i) 3), .inl (E 0, 3, .inl (yf i 3))), (((ya i) 4), .inl (E 0, 3, .inl (yf i 4))), (((ya i) 5), .inl (E 0, 40, .inl (yf i 5))), (((ya i) 6), .inl (E 0, 120, .inl (yf i 6)))]
def spool (E : Nat → Nat) (ya : Nat → Nat → Nat) (yv : Nat → Nat → Int32) (yf : Nat → Nat → Nat → Int32) : va_W := pool 5 (SB E ya yv yf)
def srest (E : Nat → Nat) (ya : Nat → Nat → Nat) (yv : Nat → Nat → Int32) (yf : Nat → Nat → Nat → Int32) (i : Nat) : va_W := pool 5 (va_up (SB E ya yv yf) i [])
theorem spool_ex {E : Nat → Nat} {ya : Nat → Nat → Nat} {yv : Nat → Nat → Int32} {yf : Nat → Nat → Nat → Int32} {i : Nat} (hi : i < 5) : (spool E ya yv yf).Perm (SB E ya yv yf i ++ srest E ya yv yf i) := by
  have := pool_up hi (SB E ya yv yf) (SB E ya yv yf i)
  rw [up_same rfl] at this
  exact this
theorem up_at {α : Type} {f : Nat → α} {i : Nat} {x : α} : va_up f i x i = x := by simp [va_up]
theorem up_ne {α : Type} {f : Nat → α} {i j : Nat} {x : α} (h : j ≠ i) : va_up f i x j = f j := by simp [va_up, h]
theorem spool_set {E : Nat → Nat} {ya : Nat → Nat → Nat} {yv : Nat → Nat → Int32} {yf : Nat → Nat → Nat → Int32} {i : Nat} {v : Nat → Int32} {f : Nat → Nat → Int32} {B : va_W} (hi : i < 5) (hB : SB E ya (fun _ => v) (fun _ => f) i = B) : (spool E ya (va_up yv i v) (va_up yf i f)).Perm (B ++ srest E ya yv yf i) := by
  have e : SB E ya (va_up yv i v) (va_up yf i f) = va_up (SB E ya yv yf) i B := by
    funext j
    by_cases h : j = i
    · subst h
      rw [up_at, ← hB]
      unfold SB
      rw [up_at, up_at]
    · rw [up_ne h]
      unfold SB
      rw [up_ne h, up_ne h]
  unfold spool
  rw [e]
  exact pool_up hi _ _
theorem pl_w {a b c d : va_W} (h : a.Perm (b ++ c)) : (a ++ d).Perm (b ++ (c ++ d)) := by rw [← List.append_assoc]; exact h.append_right d
theorem pl_s {a b c d : va_W} (h : a.Perm (b ++ c)) : (d ++ a).Perm (b ++ (d ++ c)) := (h.append_left d).trans (List.perm_append_comm_assoc d b c)
theorem pl_ws {a b c a' b' c' : va_W} (h : a.Perm (b ++ c)) (h' : a'.Perm (b' ++ c')) : (a ++ a').Perm ((b ++ b') ++ (c ++ c')) := by
  have h1 := h.append h'
  refine h1.trans ?_
  rw [List.append_assoc, List.append_assoc]
  exact (List.perm_append_comm_assoc c b' c').append_left b
def wf4 (a b c d : Nat → Int32) : Nat → Nat → Int32
  | 0 => a
  | 1 => b
  | 2 => c
  | _ => d
def yv4 (a b c d : Int32) : Nat → Int32
  | 0 => a
  | 1 => b
  | 2 => c
  | _ => d
def yf7 (a b c d e f g : Nat → Int32) : Nat → Nat → Int32
  | 0 => a
  | 1 => b
  | 2 => c
  | 3 => d
  | 4 => e
  | 5 => f
  | _ => g
theorem sg_up {yv : Nat → Nat → Int32} {i : Nat} {v : Nat → Int32} {hi : Int} (h : ∀ j : Nat, j < 5 → 0 ≤ (yv j 0).toInt ∧ (yv j 0).toInt ≤ hi) (h2 : 0 ≤ (v 0).toInt ∧ (v 0).toInt ≤ hi) : ∀ j : Nat, j < 5 → 0 ≤ (va_up yv i v j 0).toInt ∧ (va_up yv i v j 0).toInt ≤ hi := by
  intro j hj
  by_cases e : j = i
  · subst e; rw [up_at]; exact h2
  · rw [up_ne e]; exact h j hj
theorem sp_mem {E : Nat → Nat} {ya : Nat → Nat → Nat} {yv : Nat → Nat → Int32} {yf : Nat → Nat → Nat → Int32} {k : Nat} {x : Nat × va_E} (hk : k < 5) (h : x ∈ SB E ya yv yf k) : x ∈ spool E ya yv yf := List.mem_flatMap.mpr ⟨k, List.mem_range.mpr hk, h⟩
theorem JQ_KM {f g : Nat → Int32} {Q : Nat → Option Nat} (h : JQ f Q) (hk : KM f g) : JQ g Q := fun i hi hg => by
  rcases hk i with e | e
  · exact h i hi (by rw [← e]; exact hg)
  · omega
def XW (E : Nat → Nat) (q : Nat) (s : XS) : va_W := XC E q s ++ (wpool E (xQ s) (xwa s) (xwf s) ++ spool E (xya s) (xyv s) (xyf s))
theorem XWp {E : Nat → Nat} {q : Nat} {A B : Nat → Nat} {V : Nat → Int32} {G : Nat → Int64} {F : Nat → Nat → Int32} {Q : Nat → Option Nat} {wa : Nat → Nat → Nat} {wf : Nat → Nat → Nat → Int32} {ya : Nat → Nat → Nat} {yv : Nat → Nat → Int32} {yf : Nat → Nat → Nat → Int32} {Y : va_W} (h : (XC E q (A, B, V, G, F, Q, wa, wf, ya, yv, yf) ++ (wpool E Q wa wf ++ spool E ya yv yf)).Perm Y) : (XW E q (A, B, V, G, F, Q, wa, wf, ya, yv, yf)).Perm Y := h
theorem XWm {E : Nat → Nat} {q : Nat} {A B : Nat → Nat} {V : Nat → Int32} {G : Nat → Int64} {F : Nat → Nat → Int32} {Q : Nat → Option Nat} {wa : Nat → Nat → Nat} {wf : Nat → Nat → Nat → Int32} {ya : Nat → Nat → Nat} {yv : Nat → Nat → Int32} {yf : Nat → Nat → Nat → Int32} {Y : va_W} (h : ∀ z ∈ Y, z ∈ XC E q (A, B, V, G, F, Q, wa, wf, ya, yv, yf) ++ (wpool E Q wa wf ++ spool E ya yv yf)) : ∀ z ∈ Y, z ∈ XW E q (A, B, V, G, F, Q, wa, wf, ya, yv, yf) := h
def XI (s : XS) : Prop := (0 ≤ (xV s 0).toInt ∧ (xV s 0).toInt ≤ 399) ∧ (0 ≤ (xV s 1).toInt ∧ (xV s 1).toInt ≤ 60) ∧ (0 ≤ (xV s 2).toInt ∧ (xV s 2).toInt ≤ 60) ∧ (0 ≤ (xV s 4).toInt ∧ (xV s 4).toInt ≤ 120) ∧ (0 ≤ (xV s 9).toInt ∧ (xV s 9).toInt ≤ 9) ∧ (0 ≤ (xV s 10).toInt ∧ (xV s 10).toInt ≤ 9) ∧ (0 ≤ (xV s 11).toInt ∧ (xV s 11).toInt ≤ 3) ∧ (0 ≤ (xV s 13).toInt ∧ (xV s 13).toInt ≤ 120) ∧ (0 ≤ (xV s 14).toInt ∧ (xV s 14).toInt ≤ 120) ∧ (0 ≤ (xV s 15).toInt ∧ (xV s 15).toInt ≤ 120) ∧ (∀ k : Nat, k < 60 → 0 ≤ (xF s 9 k).toInt ∧ (xF s 9 k).toInt ≤ 399) ∧ JQ (xF s 1) (xQ s) ∧ (∀ i : Nat, i < 5 → 0 ≤ (xyv s i 0).toInt ∧ (xyv s i 0).toInt ≤ 40)
def MW (E : Nat → Nat) (q : Nat) (s : MS) : va_W := ((q, .inr (9, G9 (mA s) (mV s 0) (mV s 1) (mV s 2) (mG s 0) (mG s 1) (mG s 2) (mG s 3) (mG s 4) (mG s 5) (mG s 6) (mG s 7) (mG s 8) (mG s 9) (mG s 10) (mV s 3) (mV s 4) (mV s 5) (mV s 6) (mV s 7) (mV s 8) (mV s 9) (mV s 10) (mV s 11) (mV s 12))) :: ((mA s 2), .inl (E 0, 400, .inl (mF s 0))) :: ((mA s 3), .inl (E 0, 16, .inl (mF s 1))) :: ((mA s 4), .inl (E 0, 16, .inl (mF s 2))) :: ((mA s 5), .inl (E 1, 6400, .inl (mF s 3))) :: ((mA s 6), .inl (E 0, 6400, .inl (mF s 4))) :: ((mA s 7), .inl (E 0, 6400, .inl (mF s 5))) :: ((mA s 8), .inl (E 1, 6400, .inl (mF s 6))) :: ((mA s 9), .inl (E 1, 6400, .inl (mF s 7))) :: ((mA s 10), .inl (E 0, 6400, .inl (mF s 8))) :: ((mA s 12), .inl (E 0, 60, .inl (mF s 9))) :: ((mA s 13), .inl (E 0, 60, .inl (mF s 10))) :: ((mA s 14), .inl (E 0, 60, .inl (mF s 11))) :: ((mA s 15), .inl (E 0, 60, .inl (mF s 12))) :: ((mA s 16), .inl (E 0, 60, .inl (mF s 13))) :: ((mA s 29), .inl (E 0, 60, .inl (mF s 14))) :: ((mA s 30), .inl (E 0, 60, .inl (mF s 15))) :: ((mA s 31), .inl (E 0, 60, .inl (mF s 16))) :: ((mA s 32), .inl (E 2, 120, .inl (mF s 17))) :: ((mA s 34), .inl (E 1, 2, .inl (mF s 18))) :: ((mA s 35), .inl (E 0, 2, .inl (mF s 19))) :: ((mA s 36), .inl (E 0, 384, .inl (mF s 20))) :: ((mA s 37), .inl (E 0, 384, .inl (mF s 21))) :: ((mA s 43), .inl (E 0, 130, .inl (mF s 22))) :: ((mA s 45), .inl (E 0, 130, .inl (mF s 23))) :: ((mA s 46), .inl (E 0, 24, .inl (mF s 24))) :: ((mA s 47), .inl (E 0, 5, .inl (mF s 25))) :: ((mA s 48), .inl (E 0, 5, .inl (mF s 26))) :: ((mA s 49), .inl (E 0, 5, .inl (mF s 27))) :: ((mA s 50), .inl (E 0, 15, .inl (mF s 28))) :: ((mA s 51), .inl (E 0, 15, .inl (mF s 29))) :: ((mA s 52), .inl (E 0, 15, .inl (mF s 30))) :: ((mA s 53), .inl (E 0, 15, .inl (mF s 31))) :: ((mA s 54), .inl (E 0, 15, .inl (mF s 32))) :: ((mA s 55), .inl (E 0, 5, .inl (mF s 33))) :: ((mA s 56), .inl (E 0, 200, .inl (mF s 34))) :: ((mA s 57), .inl (E 0, 600, .inl (mF s 35))) :: ((mA s 58), .inl (E 0, 3, .inl (mF s 36))) :: ((mA s 59), .inl (E 0, 3, .inl (mF s 37))) :: ((mA s 60), .inl (E 0, 3, .inl (mF s 38))) :: ((mA s 62), .inl (E 0, 9, .inl (mF s 39))) :: ((mA s 63), .inl (E 0, 9, .inl (mF s 40))) :: ((mA s 65), .inl (E 0, 9, .inl (mF s 41))) :: ((mA s 66), .inl (E 0, 3, .inl (mF s 42))) :: ((mA s 67), .inl (E 0, 3, .inl (mF s 43))) :: [])
/-- what most calls leave as it was -/
def TK (s s' : XS) : Prop := xV s' 0 = xV s 0 ∧ xV s' 1 = xV s 1 ∧ xV s' 4 = xV s 4 ∧ xV s' 9 = xV s 9 ∧ xA s' = xA s ∧ xya s' = xya s
theorem TK.rf {s : XS} : TK s s := ⟨rfl, rfl, rfl, rfl, rfl, rfl⟩
theorem TK.tr {s t u : XS} (h : TK s t) (k : TK t u) : TK s u := ⟨k.1.trans h.1, k.2.1.trans h.2.1, k.2.2.1.trans h.2.2.1, k.2.2.2.1.trans h.2.2.2.1, k.2.2.2.2.1.trans h.2.2.2.2.1, k.2.2.2.2.2.trans h.2.2.2.2.2⟩
def TKM (s s' : MS) : Prop := mV s' 1 = mV s 1 ∧ mV s' 2 = mV s 2 ∧ mV s' 4 = mV s 4 ∧ mV s' 11 = mV s 11
def MI (s : MS) : Prop := (0 ≤ (mV s 1).toInt ∧ (mV s 1).toInt ≤ 399) ∧ (0 ≤ (mV s 2).toInt ∧ (mV s 2).toInt ≤ 60) ∧ (0 ≤ (mV s 3).toInt ∧ (mV s 3).toInt ≤ 60) ∧ (0 ≤ (mV s 4).toInt ∧ (mV s 4).toInt ≤ 120) ∧ (0 ≤ (mV s 11).toInt ∧ (mV s 11).toInt ≤ 9) ∧ (0 ≤ (mV s 12).toInt ∧ (mV s 12).toInt ≤ 9) ∧ (∀ k : Nat, k < 60 → 0 ≤ (mF s 14 k).toInt ∧ (mF s 14 k).toInt ≤ 399) ∧ (∀ k : Nat, k < 2 → 0 ≤ (mF s 19 k).toInt ∧ (mF s 19 k).toInt ≤ 127) ∧ (∀ k : Nat, k < 15 → 0 ≤ (mF s 28 k).toInt ∧ (mF s 28 k).toInt ≤ 15) ∧ (∀ k : Nat, k < 5 → 0 ≤ (mF s 33 k).toInt ∧ (mF s 33 k).toInt ≤ 40) ∧ (∀ k : Nat, k < 9 → 0 ≤ (mF s 41 k).toInt ∧ (mF s 41 k).toInt ≤ 3) ∧ J49 (mF s 25) (mF s 27) ∧ JW (mF s 20) (mF s 19)
