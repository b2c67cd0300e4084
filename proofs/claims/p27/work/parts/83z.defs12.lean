theorem JQ_0 {g : Nat → Int32} {Q : Nat → Option Nat} (h : ∀ k : Nat, k < 16 → g k = -5) : JQ g Q := fun i hi hk => by
  rw [h i hi] at hk
  exact absurd hk (by decide)
/-! ===== for the law ===== -/
theorem lP {D : va_G} {a b : va_W} {H : Heap} (h : va_P D vwCl (a ++ b) H) : va_P D vwCl a H := vP_mono h (fun _ hz => List.mem_append_left _ hz)
theorem rP {D : va_G} {a b : va_W} {H : Heap} (h : va_P D vwCl (a ++ b) H) : va_P D vwCl b H := vP_mono h (fun _ hz => List.mem_append_right _ hz)
theorem sw_P {D : va_G} {a b : va_W} {H : Heap} (h : va_P D vwCl (a ++ b) H) : va_P D vwCl (b ++ a) H := vP_perm List.perm_append_comm h
theorem sw_D {A : Nat → Prop} {a b : va_W} (h : va_D A (a ++ b)) : va_D A (b ++ a) := vD_perm List.perm_append_comm h
theorem sc_in {i c : Int32} {n : Int} {L : Nat} (h0 : 0 ≤ i.toInt) (hc : c.toInt = n) (hn : 0 ≤ n) (hL : i.toInt + n < L) (hb : i.toInt + n ≤ 2147483647) : vp_in (i + c) L := g_in (g_add rfl hc (by omega) hb) (by omega) hL
theorem len_toInt {L : Nat} {z : Int32} (h : L ≤ 3072) (e : z = Int32.ofNat L) : z.toInt = L := by subst e; exact nI_toInt (by omega)
