section
def M_X6_readOperand (l : Launch) (b : Nat) (p0 : Int32) : Prop := ∀ (D : va_G) (E : Nat → Nat) (th : Nat) (ta : Nat → Nat) (tsize : Int32) (trule : Nat) (twords : Nat) (tat : Int32) (tword : Int32) (twordAt : Int32) (tvalue : Int32) (tf0 : Nat → Int32) (ua : Nat → Nat) (usize : Int32) (uf0 : Nat → Int32) (uf1 : Nat → Int32) (sv : Nat) (sn : Nat) (sf : Nat → Int32) (sz : Nat) (hi_t : (0 ≤ tsize.toInt ∧ tsize.toInt ≤ 120)) (hi_u : (0 ≤ usize.toInt ∧ usize.toInt ≤ 120)) (hsn : sn < 2147483647) (g0 : 0 ≤ tat.toInt ∧ tat.toInt ≤ tsize.toInt ∧ 0 ≤ twordAt.toInt ∧ twordAt.toInt ≤ tat.toInt) (g1 : sn ≤ 900), Met l yX6_readOperand (wl yX6_readOperand cX6_readOperand 4 (some .boolean)) (RM (b + 1) 0 0) (muS_P D E [.ref th, .int p0] [(th, .inr (6, G6 ta tsize trule twords tat tword twordAt tvalue)), ((ta 0), .inl (E 0, 120, .inl tf0)), (trule, .inr (4, G4 ua usize)), ((ua 0), .inl (E 0, 120, .inl uf0)), ((ua 1), .inl (E 0, 120, .inl uf1))] sz [(twords, sv, sn, sf)]) (va_Qi (fun (r : Int32) (u : (Int32) × (Int32) × (Int32) × (Int32) × (Nat → Int32) × (Nat → Int32) × (Int32)) => (0 ≤ u.2.2.2.2.2.2.toInt ∧ u.2.2.2.2.2.2.toInt ≤ 120) ∧ (0 ≤ u.1.toInt ∧ u.1.toInt ≤ tsize.toInt ∧ 0 ≤ u.2.2.2.1.toInt ∧ u.2.2.2.1.toInt ≤ u.1.toInt) ∧ (0 ≤ r.toInt ∧ r.toInt ≤ 1)) (mu_B D (va_A [(th, .inr (6, G6 ta tsize trule twords tat tword twordAt tvalue)), ((ta 0), .inl (E 0, 120, .inl tf0)), (trule, .inr (4, G4 ua usize)), ((ua 0), .inl (E 0, 120, .inl uf0)), ((ua 1), .inl (E 0, 120, .inl uf1))] sz) (fun (u : (Int32) × (Int32) × (Int32) × (Int32) × (Nat → Int32) × (Nat → Int32) × (Int32)) => [(th, .inr (6, G6 ta tsize trule twords u.1 u.2.2.1 u.2.2.2.1 u.2.1)), ((ta 0), .inl (E 0, 120, .inl tf0)), (trule, .inr (4, G4 ua u.2.2.2.2.2.2)), ((ua 0), .inl (E 0, 120, .inl u.2.2.2.2.1)), ((ua 1), .inl (E 0, 120, .inl u.2.2.2.2.2.1))])) (va_A [(th, .inr (6, G6 ta tsize trule twords tat tword twordAt tvalue)), ((ta 0), .inl (E 0, 120, .inl tf0)), (trule, .inr (4, G4 ua usize)), ((ua 0), .inl (E 0, 120, .inl uf0)), ((ua 1), .inl (E 0, 120, .inl uf1))] sz)) 0 0 (va_A [(th, .inr (6, G6 ta tsize trule twords tat tword twordAt tvalue)), ((ta 0), .inl (E 0, 120, .inl tf0)), (trule, .inr (4, G4 ua usize)), ((ua 0), .inl (E 0, 120, .inl uf0)), ((ua 1), .inl (E 0, 120, .inl uf1))] sz)
def M_X6_readProduct (l : Launch) (b : Nat) (p0 : Int32) : Prop := ∀ (D : va_G) (E : Nat → Nat) (th : Nat) (ta : Nat → Nat) (tsize : Int32) (trule : Nat) (twords : Nat) (tat : Int32) (tword : Int32) (twordAt : Int32) (tvalue : Int32) (tf0 : Nat → Int32) (ua : Nat → Nat) (usize : Int32) (uf0 : Nat → Int32) (uf1 : Nat → Int32) (sv : Nat) (sn : Nat) (sf : Nat → Int32) (sz : Nat) (hi_t : (0 ≤ tsize.toInt ∧ tsize.toInt ≤ 120)) (hi_u : (0 ≤ usize.toInt ∧ usize.toInt ≤ 120)) (hsn : sn < 2147483647) (g0 : 0 ≤ tat.toInt ∧ tat.toInt ≤ tsize.toInt ∧ 0 ≤ twordAt.toInt ∧ twordAt.toInt ≤ tat.toInt) (g1 : sn ≤ 900), Met l yX6_readProduct (wl yX6_readProduct cX6_readProduct 5 (some .boolean)) (RM (b + 2) 0 0) (muS_P D E [.ref th, .int p0] [(th, .inr (6, G6 ta tsize trule twords tat tword twordAt tvalue)), ((ta 0), .inl (E 0, 120, .inl tf0)), (trule, .inr (4, G4 ua usize)), ((ua 0), .inl (E 0, 120, .inl uf0)), ((ua 1), .inl (E 0, 120, .inl uf1))] sz [(twords, sv, sn, sf)]) (va_Qi (fun (r : Int32) (u : (Int32) × (Int32) × (Int32) × (Int32) × (Nat → Int32) × (Nat → Int32) × (Int32)) => (0 ≤ u.2.2.2.2.2.2.toInt ∧ u.2.2.2.2.2.2.toInt ≤ 120) ∧ (0 ≤ u.1.toInt ∧ u.1.toInt ≤ tsize.toInt ∧ 0 ≤ u.2.2.2.1.toInt ∧ u.2.2.2.1.toInt ≤ u.1.toInt) ∧ (0 ≤ r.toInt ∧ r.toInt ≤ 1)) (mu_B D (va_A [(th, .inr (6, G6 ta tsize trule twords tat tword twordAt tvalue)), ((ta 0), .inl (E 0, 120, .inl tf0)), (trule, .inr (4, G4 ua usize)), ((ua 0), .inl (E 0, 120, .inl uf0)), ((ua 1), .inl (E 0, 120, .inl uf1))] sz) (fun (u : (Int32) × (Int32) × (Int32) × (Int32) × (Nat → Int32) × (Nat → Int32) × (Int32)) => [(th, .inr (6, G6 ta tsize trule twords u.1 u.2.2.1 u.2.2.2.1 u.2.1)), ((ta 0), .inl (E 0, 120, .inl tf0)), (trule, .inr (4, G4 ua u.2.2.2.2.2.2)), ((ua 0), .inl (E 0, 120, .inl u.2.2.2.2.1)), ((ua 1), .inl (E 0, 120, .inl u.2.2.2.2.2.1))])) (va_A [(th, .inr (6, G6 ta tsize trule twords tat tword twordAt tvalue)), ((ta 0), .inl (E 0, 120, .inl tf0)), (trule, .inr (4, G4 ua usize)), ((ua 0), .inl (E 0, 120, .inl uf0)), ((ua 1), .inl (E 0, 120, .inl uf1))] sz)) 0 0 (va_A [(th, .inr (6, G6 ta tsize trule twords tat tword twordAt tvalue)), ((ta 0), .inl (E 0, 120, .inl tf0)), (trule, .inr (4, G4 ua usize)), ((ua 0), .inl (E 0, 120, .inl uf0)), ((ua 1), .inl (E 0, 120, .inl uf1))] sz)
def M_X6_readSum (l : Launch) (b : Nat) (p0 : Int32) : Prop := ∀ (D : va_G) (E : Nat → Nat) (th : Nat) (ta : Nat → Nat) (tsize : Int32) (trule : Nat) (twords : Nat) (tat : Int32) (tword : Int32) (twordAt : Int32) (tvalue : Int32) (tf0 : Nat → Int32) (ua : Nat → Nat) (usize : Int32) (uf0 : Nat → Int32) (uf1 : Nat → Int32) (sv : Nat) (sn : Nat) (sf : Nat → Int32) (sz : Nat) (hi_t : (0 ≤ tsize.toInt ∧ tsize.toInt ≤ 120)) (hi_u : (0 ≤ usize.toInt ∧ usize.toInt ≤ 120)) (hsn : sn < 2147483647) (g0 : 0 ≤ tat.toInt ∧ tat.toInt ≤ tsize.toInt ∧ 0 ≤ twordAt.toInt ∧ twordAt.toInt ≤ tat.toInt) (g1 : sn ≤ 900), Met l yX6_readSum (wl yX6_readSum cX6_readSum 5 (some .boolean)) (RM (b + 3) 0 0) (muS_P D E [.ref th, .int p0] [(th, .inr (6, G6 ta tsize trule twords tat tword twordAt tvalue)), ((ta 0), .inl (E 0, 120, .inl tf0)), (trule, .inr (4, G4 ua usize)), ((ua 0), .inl (E 0, 120, .inl uf0)), ((ua 1), .inl (E 0, 120, .inl uf1))] sz [(twords, sv, sn, sf)]) (va_Qi (fun (r : Int32) (u : (Int32) × (Int32) × (Int32) × (Int32) × (Nat → Int32) × (Nat → Int32) × (Int32)) => (0 ≤ u.2.2.2.2.2.2.toInt ∧ u.2.2.2.2.2.2.toInt ≤ 120) ∧ (0 ≤ u.1.toInt ∧ u.1.toInt ≤ tsize.toInt ∧ 0 ≤ u.2.2.2.1.toInt ∧ u.2.2.2.1.toInt ≤ u.1.toInt) ∧ (0 ≤ r.toInt ∧ r.toInt ≤ 1)) (mu_B D (va_A [(th, .inr (6, G6 ta tsize trule twords tat tword twordAt tvalue)), ((ta 0), .inl (E 0, 120, .inl tf0)), (trule, .inr (4, G4 ua usize)), ((ua 0), .inl (E 0, 120, .inl uf0)), ((ua 1), .inl (E 0, 120, .inl uf1))] sz) (fun (u : (Int32) × (Int32) × (Int32) × (Int32) × (Nat → Int32) × (Nat → Int32) × (Int32)) => [(th, .inr (6, G6 ta tsize trule twords u.1 u.2.2.1 u.2.2.2.1 u.2.1)), ((ta 0), .inl (E 0, 120, .inl tf0)), (trule, .inr (4, G4 ua u.2.2.2.2.2.2)), ((ua 0), .inl (E 0, 120, .inl u.2.2.2.2.1)), ((ua 1), .inl (E 0, 120, .inl u.2.2.2.2.2.1))])) (va_A [(th, .inr (6, G6 ta tsize trule twords tat tword twordAt tvalue)), ((ta 0), .inl (E 0, 120, .inl tf0)), (trule, .inr (4, G4 ua usize)), ((ua 0), .inl (E 0, 120, .inl uf0)), ((ua 1), .inl (E 0, 120, .inl uf1))] sz)) 0 0 (va_A [(th, .inr (6, G6 ta tsize trule twords tat tword twordAt tvalue)), ((ta 0), .inl (E 0, 120, .inl tf0)), (trule, .inr (4, G4 ua usize)), ((ua 0), .inl (E 0, 120, .inl uf0)), ((ua 1), .inl (E 0, 120, .inl uf1))] sz)
def M_X6_readComparison (l : Launch) (b : Nat) (p0 : Int32) : Prop := ∀ (D : va_G) (E : Nat → Nat) (th : Nat) (ta : Nat → Nat) (tsize : Int32) (trule : Nat) (twords : Nat) (tat : Int32) (tword : Int32) (twordAt : Int32) (tvalue : Int32) (tf0 : Nat → Int32) (ua : Nat → Nat) (usize : Int32) (uf0 : Nat → Int32) (uf1 : Nat → Int32) (sv : Nat) (sn : Nat) (sf : Nat → Int32) (sz : Nat) (hi_t : (0 ≤ tsize.toInt ∧ tsize.toInt ≤ 120)) (hi_u : (0 ≤ usize.toInt ∧ usize.toInt ≤ 120)) (hsn : sn < 2147483647) (g0 : 0 ≤ tat.toInt ∧ tat.toInt ≤ tsize.toInt ∧ 0 ≤ twordAt.toInt ∧ twordAt.toInt ≤ tat.toInt) (g1 : sn ≤ 900), Met l yX6_readComparison (wl yX6_readComparison cX6_readComparison 4 (some .boolean)) (RM (b + 4) 0 0) (muS_P D E [.ref th, .int p0] [(th, .inr (6, G6 ta tsize trule twords tat tword twordAt tvalue)), ((ta 0), .inl (E 0, 120, .inl tf0)), (trule, .inr (4, G4 ua usize)), ((ua 0), .inl (E 0, 120, .inl uf0)), ((ua 1), .inl (E 0, 120, .inl uf1))] sz [(twords, sv, sn, sf)]) (va_Qi (fun (r : Int32) (u : (Int32) × (Int32) × (Int32) × (Int32) × (Nat → Int32) × (Nat → Int32) × (Int32)) => (0 ≤ u.2.2.2.2.2.2.toInt ∧ u.2.2.2.2.2.2.toInt ≤ 120) ∧ (0 ≤ u.1.toInt ∧ u.1.toInt ≤ tsize.toInt ∧ 0 ≤ u.2.2.2.1.toInt ∧ u.2.2.2.1.toInt ≤ u.1.toInt) ∧ (0 ≤ r.toInt ∧ r.toInt ≤ 1)) (mu_B D (va_A [(th, .inr (6, G6 ta tsize trule twords tat tword twordAt tvalue)), ((ta 0), .inl (E 0, 120, .inl tf0)), (trule, .inr (4, G4 ua usize)), ((ua 0), .inl (E 0, 120, .inl uf0)), ((ua 1), .inl (E 0, 120, .inl uf1))] sz) (fun (u : (Int32) × (Int32) × (Int32) × (Int32) × (Nat → Int32) × (Nat → Int32) × (Int32)) => [(th, .inr (6, G6 ta tsize trule twords u.1 u.2.2.1 u.2.2.2.1 u.2.1)), ((ta 0), .inl (E 0, 120, .inl tf0)), (trule, .inr (4, G4 ua u.2.2.2.2.2.2)), ((ua 0), .inl (E 0, 120, .inl u.2.2.2.2.1)), ((ua 1), .inl (E 0, 120, .inl u.2.2.2.2.2.1))])) (va_A [(th, .inr (6, G6 ta tsize trule twords tat tword twordAt tvalue)), ((ta 0), .inl (E 0, 120, .inl tf0)), (trule, .inr (4, G4 ua usize)), ((ua 0), .inl (E 0, 120, .inl uf0)), ((ua 1), .inl (E 0, 120, .inl uf1))] sz)) 0 0 (va_A [(th, .inr (6, G6 ta tsize trule twords tat tword twordAt tvalue)), ((ta 0), .inl (E 0, 120, .inl tf0)), (trule, .inr (4, G4 ua usize)), ((ua 0), .inl (E 0, 120, .inl uf0)), ((ua 1), .inl (E 0, 120, .inl uf1))] sz)
def M_X6_readNegation (l : Launch) (b : Nat) (p0 : Int32) : Prop := ∀ (D : va_G) (E : Nat → Nat) (th : Nat) (ta : Nat → Nat) (tsize : Int32) (trule : Nat) (twords : Nat) (tat : Int32) (tword : Int32) (twordAt : Int32) (tvalue : Int32) (tf0 : Nat → Int32) (ua : Nat → Nat) (usize : Int32) (uf0 : Nat → Int32) (uf1 : Nat → Int32) (sv : Nat) (sn : Nat) (sf : Nat → Int32) (sz : Nat) (hi_t : (0 ≤ tsize.toInt ∧ tsize.toInt ≤ 120)) (hi_u : (0 ≤ usize.toInt ∧ usize.toInt ≤ 120)) (hsn : sn < 2147483647) (g0 : 0 ≤ tat.toInt ∧ tat.toInt ≤ tsize.toInt ∧ 0 ≤ twordAt.toInt ∧ twordAt.toInt ≤ tat.toInt) (g1 : sn ≤ 900), Met l yX6_readNegation (wl yX6_readNegation cX6_readNegation 3 (some .boolean)) (RM (b + 5) 0 0) (muS_P D E [.ref th, .int p0] [(th, .inr (6, G6 ta tsize trule twords tat tword twordAt tvalue)), ((ta 0), .inl (E 0, 120, .inl tf0)), (trule, .inr (4, G4 ua usize)), ((ua 0), .inl (E 0, 120, .inl uf0)), ((ua 1), .inl (E 0, 120, .inl uf1))] sz [(twords, sv, sn, sf)]) (va_Qi (fun (r : Int32) (u : (Int32) × (Int32) × (Int32) × (Int32) × (Nat → Int32) × (Nat → Int32) × (Int32)) => (0 ≤ u.2.2.2.2.2.2.toInt ∧ u.2.2.2.2.2.2.toInt ≤ 120) ∧ (0 ≤ u.1.toInt ∧ u.1.toInt ≤ tsize.toInt ∧ 0 ≤ u.2.2.2.1.toInt ∧ u.2.2.2.1.toInt ≤ u.1.toInt) ∧ (0 ≤ r.toInt ∧ r.toInt ≤ 1)) (mu_B D (va_A [(th, .inr (6, G6 ta tsize trule twords tat tword twordAt tvalue)), ((ta 0), .inl (E 0, 120, .inl tf0)), (trule, .inr (4, G4 ua usize)), ((ua 0), .inl (E 0, 120, .inl uf0)), ((ua 1), .inl (E 0, 120, .inl uf1))] sz) (fun (u : (Int32) × (Int32) × (Int32) × (Int32) × (Nat → Int32) × (Nat → Int32) × (Int32)) => [(th, .inr (6, G6 ta tsize trule twords u.1 u.2.2.1 u.2.2.2.1 u.2.1)), ((ta 0), .inl (E 0, 120, .inl tf0)), (trule, .inr (4, G4 ua u.2.2.2.2.2.2)), ((ua 0), .inl (E 0, 120, .inl u.2.2.2.2.1)), ((ua 1), .inl (E 0, 120, .inl u.2.2.2.2.2.1))])) (va_A [(th, .inr (6, G6 ta tsize trule twords tat tword twordAt tvalue)), ((ta 0), .inl (E 0, 120, .inl tf0)), (trule, .inr (4, G4 ua usize)), ((ua 0), .inl (E 0, 120, .inl uf0)), ((ua 1), .inl (E 0, 120, .inl uf1))] sz)) 0 0 (va_A [(th, .inr (6, G6 ta tsize trule twords tat tword twordAt tvalue)), ((ta 0), .inl (E 0, 120, .inl tf0)), (trule, .inr (4, G4 ua usize)), ((ua 0), .inl (E 0, 120, .inl uf0)), ((ua 1), .inl (E 0, 120, .inl uf1))] sz)
def M_X6_readBoth (l : Launch) (b : Nat) (p0 : Int32) : Prop := ∀ (D : va_G) (E : Nat → Nat) (th : Nat) (ta : Nat → Nat) (tsize : Int32) (trule : Nat) (twords : Nat) (tat : Int32) (tword : Int32) (twordAt : Int32) (tvalue : Int32) (tf0 : Nat → Int32) (ua : Nat → Nat) (usize : Int32) (uf0 : Nat → Int32) (uf1 : Nat → Int32) (sv : Nat) (sn : Nat) (sf : Nat → Int32) (sz : Nat) (hi_t : (0 ≤ tsize.toInt ∧ tsize.toInt ≤ 120)) (hi_u : (0 ≤ usize.toInt ∧ usize.toInt ≤ 120)) (hsn : sn < 2147483647) (g0 : 0 ≤ tat.toInt ∧ tat.toInt ≤ tsize.toInt ∧ 0 ≤ twordAt.toInt ∧ twordAt.toInt ≤ tat.toInt) (g1 : sn ≤ 900), Met l yX6_readBoth (wl yX6_readBoth cX6_readBoth 4 (some .boolean)) (RM (b + 6) 0 0) (muS_P D E [.ref th, .int p0] [(th, .inr (6, G6 ta tsize trule twords tat tword twordAt tvalue)), ((ta 0), .inl (E 0, 120, .inl tf0)), (trule, .inr (4, G4 ua usize)), ((ua 0), .inl (E 0, 120, .inl uf0)), ((ua 1), .inl (E 0, 120, .inl uf1))] sz [(twords, sv, sn, sf)]) (va_Qi (fun (r : Int32) (u : (Int32) × (Int32) × (Int32) × (Int32) × (Nat → Int32) × (Nat → Int32) × (Int32)) => (0 ≤ u.2.2.2.2.2.2.toInt ∧ u.2.2.2.2.2.2.toInt ≤ 120) ∧ (0 ≤ u.1.toInt ∧ u.1.toInt ≤ tsize.toInt ∧ 0 ≤ u.2.2.2.1.toInt ∧ u.2.2.2.1.toInt ≤ u.1.toInt) ∧ (0 ≤ r.toInt ∧ r.toInt ≤ 1)) (mu_B D (va_A [(th, .inr (6, G6 ta tsize trule twords tat tword twordAt tvalue)), ((ta 0), .inl (E 0, 120, .inl tf0)), (trule, .inr (4, G4 ua usize)), ((ua 0), .inl (E 0, 120, .inl uf0)), ((ua 1), .inl (E 0, 120, .inl uf1))] sz) (fun (u : (Int32) × (Int32) × (Int32) × (Int32) × (Nat → Int32) × (Nat → Int32) × (Int32)) => [(th, .inr (6, G6 ta tsize trule twords u.1 u.2.2.1 u.2.2.2.1 u.2.1)), ((ta 0), .inl (E 0, 120, .inl tf0)), (trule, .inr (4, G4 ua u.2.2.2.2.2.2)), ((ua 0), .inl (E 0, 120, .inl u.2.2.2.2.1)), ((ua 1), .inl (E 0, 120, .inl u.2.2.2.2.2.1))])) (va_A [(th, .inr (6, G6 ta tsize trule twords tat tword twordAt tvalue)), ((ta 0), .inl (E 0, 120, .inl tf0)), (trule, .inr (4, G4 ua usize)), ((ua 0), .inl (E 0, 120, .inl uf0)), ((ua 1), .inl (E 0, 120, .inl uf1))] sz)) 0 0 (va_A [(th, .inr (6, G6 ta tsize trule twords tat tword twordAt tvalue)), ((ta 0), .inl (E 0, 120, .inl tf0)), (trule, .inr (4, G4 ua usize)), ((ua 0), .inl (E 0, 120, .inl uf0)), ((ua 1), .inl (E 0, 120, .inl uf1))] sz)
def M_X6_readEither (l : Launch) (b : Nat) (p0 : Int32) : Prop := ∀ (D : va_G) (E : Nat → Nat) (th : Nat) (ta : Nat → Nat) (tsize : Int32) (trule : Nat) (twords : Nat) (tat : Int32) (tword : Int32) (twordAt : Int32) (tvalue : Int32) (tf0 : Nat → Int32) (ua : Nat → Nat) (usize : Int32) (uf0 : Nat → Int32) (uf1 : Nat → Int32) (sv : Nat) (sn : Nat) (sf : Nat → Int32) (sz : Nat) (hi_t : (0 ≤ tsize.toInt ∧ tsize.toInt ≤ 120)) (hi_u : (0 ≤ usize.toInt ∧ usize.toInt ≤ 120)) (hsn : sn < 2147483647) (g0 : 0 ≤ tat.toInt ∧ tat.toInt ≤ tsize.toInt ∧ 0 ≤ twordAt.toInt ∧ twordAt.toInt ≤ tat.toInt) (g1 : sn ≤ 900), Met l yX6_readEither (wl yX6_readEither cX6_readEither 4 (some .boolean)) (RM (b + 7) 0 0) (muS_P D E [.ref th, .int p0] [(th, .inr (6, G6 ta tsize trule twords tat tword twordAt tvalue)), ((ta 0), .inl (E 0, 120, .inl tf0)), (trule, .inr (4, G4 ua usize)), ((ua 0), .inl (E 0, 120, .inl uf0)), ((ua 1), .inl (E 0, 120, .inl uf1))] sz [(twords, sv, sn, sf)]) (va_Qi (fun (r : Int32) (u : (Int32) × (Int32) × (Int32) × (Int32) × (Nat → Int32) × (Nat → Int32) × (Int32)) => (0 ≤ u.2.2.2.2.2.2.toInt ∧ u.2.2.2.2.2.2.toInt ≤ 120) ∧ (0 ≤ u.1.toInt ∧ u.1.toInt ≤ tsize.toInt ∧ 0 ≤ u.2.2.2.1.toInt ∧ u.2.2.2.1.toInt ≤ u.1.toInt) ∧ (0 ≤ r.toInt ∧ r.toInt ≤ 1)) (mu_B D (va_A [(th, .inr (6, G6 ta tsize trule twords tat tword twordAt tvalue)), ((ta 0), .inl (E 0, 120, .inl tf0)), (trule, .inr (4, G4 ua usize)), ((ua 0), .inl (E 0, 120, .inl uf0)), ((ua 1), .inl (E 0, 120, .inl uf1))] sz) (fun (u : (Int32) × (Int32) × (Int32) × (Int32) × (Nat → Int32) × (Nat → Int32) × (Int32)) => [(th, .inr (6, G6 ta tsize trule twords u.1 u.2.2.1 u.2.2.2.1 u.2.1)), ((ta 0), .inl (E 0, 120, .inl tf0)), (trule, .inr (4, G4 ua u.2.2.2.2.2.2)), ((ua 0), .inl (E 0, 120, .inl u.2.2.2.2.1)), ((ua 1), .inl (E 0, 120, .inl u.2.2.2.2.2.1))])) (va_A [(th, .inr (6, G6 ta tsize trule twords tat tword twordAt tvalue)), ((ta 0), .inl (E 0, 120, .inl tf0)), (trule, .inr (4, G4 ua usize)), ((ua 0), .inl (E 0, 120, .inl uf0)), ((ua 1), .inl (E 0, 120, .inl uf1))] sz)) 0 0 (va_A [(th, .inr (6, G6 ta tsize trule twords tat tword twordAt tvalue)), ((ta 0), .inl (E 0, 120, .inl tf0)), (trule, .inr (4, G4 ua usize)), ((ua 0), .inl (E 0, 120, .inl uf0)), ((ua 1), .inl (E 0, 120, .inl uf1))] sz)
def M_X6_readInBrackets (l : Launch) (b : Nat) (p0 : Int32) : Prop := ∀ (D : va_G) (E : Nat → Nat) (th : Nat) (ta : Nat → Nat) (tsize : Int32) (trule : Nat) (twords : Nat) (tat : Int32) (tword : Int32) (twordAt : Int32) (tvalue : Int32) (tf0 : Nat → Int32) (ua : Nat → Nat) (usize : Int32) (uf0 : Nat → Int32) (uf1 : Nat → Int32) (sv : Nat) (sn : Nat) (sf : Nat → Int32) (sz : Nat) (hi_t : (0 ≤ tsize.toInt ∧ tsize.toInt ≤ 120)) (hi_u : (0 ≤ usize.toInt ∧ usize.toInt ≤ 120)) (hsn : sn < 2147483647) (g0 : 0 ≤ tat.toInt ∧ tat.toInt ≤ tsize.toInt ∧ 0 ≤ twordAt.toInt ∧ twordAt.toInt ≤ tat.toInt) (g1 : sn ≤ 900), Met l yX6_readInBrackets (wl yX6_readInBrackets cX6_readInBrackets 2 (some .boolean)) (RM (b + 8) 0 0) (muS_P D E [.ref th, .int p0] [(th, .inr (6, G6 ta tsize trule twords tat tword twordAt tvalue)), ((ta 0), .inl (E 0, 120, .inl tf0)), (trule, .inr (4, G4 ua usize)), ((ua 0), .inl (E 0, 120, .inl uf0)), ((ua 1), .inl (E 0, 120, .inl uf1))] sz [(twords, sv, sn, sf)]) (va_Qi (fun (r : Int32) (u : (Int32) × (Int32) × (Int32) × (Int32) × (Nat → Int32) × (Nat → Int32) × (Int32)) => (0 ≤ u.2.2.2.2.2.2.toInt ∧ u.2.2.2.2.2.2.toInt ≤ 120) ∧ (0 ≤ u.1.toInt ∧ u.1.toInt ≤ tsize.toInt ∧ 0 ≤ u.2.2.2.1.toInt ∧ u.2.2.2.1.toInt ≤ u.1.toInt) ∧ (0 ≤ r.toInt ∧ r.toInt ≤ 1)) (mu_B D (va_A [(th, .inr (6, G6 ta tsize trule twords tat tword twordAt tvalue)), ((ta 0), .inl (E 0, 120, .inl tf0)), (trule, .inr (4, G4 ua usize)), ((ua 0), .inl (E 0, 120, .inl uf0)), ((ua 1), .inl (E 0, 120, .inl uf1))] sz) (fun (u : (Int32) × (Int32) × (Int32) × (Int32) × (Nat → Int32) × (Nat → Int32) × (Int32)) => [(th, .inr (6, G6 ta tsize trule twords u.1 u.2.2.1 u.2.2.2.1 u.2.1)), ((ta 0), .inl (E 0, 120, .inl tf0)), (trule, .inr (4, G4 ua u.2.2.2.2.2.2)), ((ua 0), .inl (E 0, 120, .inl u.2.2.2.2.1)), ((ua 1), .inl (E 0, 120, .inl u.2.2.2.2.2.1))])) (va_A [(th, .inr (6, G6 ta tsize trule twords tat tword twordAt tvalue)), ((ta 0), .inl (E 0, 120, .inl tf0)), (trule, .inr (4, G4 ua usize)), ((ua 0), .inl (E 0, 120, .inl uf0)), ((ua 1), .inl (E 0, 120, .inl uf1))] sz)) 0 0 (va_A [(th, .inr (6, G6 ta tsize trule twords tat tword twordAt tvalue)), ((ta 0), .inl (E 0, 120, .inl tf0)), (trule, .inr (4, G4 ua usize)), ((ua 0), .inl (E 0, 120, .inl uf0)), ((ua 1), .inl (E 0, 120, .inl uf1))] sz)
set_option maxHeartbeats 4000000 in
set_option maxRecDepth 100000 in
theorem g_X6_readOperand (l : Launch) (b : Nat) (p0 : Int32) (hb8 : 8 ≤ b) (h15 : 0 ≤ p0.toInt ∧ p0.toInt ≤ 15) (hO : p0.toInt < 15 → ∀ q : Int32, q.toInt = p0.toInt + 1 → M_X6_readOperand l b q) (hB : p0.toInt < 15 → ∀ q : Int32, q.toInt = p0.toInt + 1 → M_X6_readInBrackets l b q) : M_X6_readOperand l (b + 8) p0 := by
  intro D E th ta tsize trule twords tat tword twordAt tvalue tf0 ua usize uf0 uf1 sv sn sf sz hi_t hi_u hsn g0 g1
  refine Met.ofW (cc := cX6_readOperand) (maxL := 4) (ret := (some .boolean)) (by decide) rfl ?_
  intro p e s m args below meth c s₁ B hml hv
  obtain ⟨rfl, hsz, hP, hK, hD0, hG⟩ := hv
  have hx := B.exec; have hb := B.bytes; have hr := B.returns
  have hts := atoms_spec (ws := wl yX6_readOperand cX6_readOperand 4 (some .boolean)) B.pre
  have htb : ∀ w ∈ tb, w.before _ s = true := fun w h => hts w (List.mem_cons_of_mem _ h)
  have hown : s.vm.findClass RX6 = some m.cls := findClass_of_methodNamed B.named
  have hlocks := B.notSynchronized
  subst hsz
  have hD := hD0.self (sz := s.heap.size)
  generalize hAe : va_A [(th, .inr (6, G6 ta tsize trule twords tat tword twordAt tvalue)), ((ta 0), .inl (E 0, 120, .inl tf0)), (trule, .inr (4, G4 ua usize)), ((ua 0), .inl (E 0, 120, .inl uf0)), ((ua 1), .inl (E 0, 120, .inl uf1))] s.heap.size = A at hD hG ⊢
  have hA : ∀ q : Nat, s.heap.size ≤ q → A q := fun q h => by rw [← hAe]; exact Or.inr h
  have hS : va_S A s.heap s.heap [] := va_S.rf
  have hP : va_P D vwCl [(th, .inr (6, G6 ta tsize trule twords tat tword twordAt tvalue)), ((ta 0), .inl (E 0, 120, .inl tf0)), (trule, .inr (4, G4 ua usize)), ((ua 0), .inl (E 0, 120, .inl uf0)), ((ua 1), .inl (E 0, 120, .inl uf1))] s.heap := hP
  have hl := lv_entry ([.ref th, .int p0]) (n := 4) (Nat.le_of_ble_eq_true rfl)
  rw [lg_entry_eq]
  generalize (lg_sl ([.ref th, .int p0]) ++ List.replicate (4 - (lg_sl ([.ref th, .int p0])).length) Slot.unset).toArray = ls at hl ⊢
  have hl : lv_has ls 4 [(0, .ref th), (1, .int p0)] := hl
  have lo_p0 := i_lo p0; have hi_p0 := i_hi p0
  refine lv_aload_n hx hb dX6_readOperand_0 rfl (lv_at hl 0 rfl) ?_
  refine va_get (D := D) (ci := 6) (v := .int tword) (C := RX6) (T := TX6) (N := 8) hx hb htb iX6 hown hK.1 hP 0 rfl rfl 5 (by decide) (htb _ k_163) (fun _ h9 => h9) rfl dX6_readOperand_1 ?_
  refine lv_iconst (v := 2) hx hb dX6_readOperand_4 (by decide) ?_
  refine lv_icmp_eq (tgt := 16) hx hb dX6_readOperand_5 (by decide) (fun c_1 => ?_) (fun c_1 => ?_)
  ·
    have ic_1 : tword.toInt = 2 := (g_eq rfl t_2).mp c_1
    clear c_1
    refine lv_aload_n hx hb dX6_readOperand_16 rfl (lv_at hl 0 rfl) ?_
    refine va_get (D := D) (ci := 6) (v := .ref trule) (C := RX6) (T := TX6) (N := 8) hx hb htb iX6 hown hK.1 hP 0 rfl rfl 2 (by decide) (htb _ k_160) (fun _ h9 => h9) rfl dX6_readOperand_17 ?_
    refine lv_aload_n hx hb dX6_readOperand_20 rfl (lv_at hl 0 rfl) ?_
    refine va_get (D := D) (ci := 6) (v := .int tword) (C := RX6) (T := TX6) (N := 8) hx hb htb iX6 hown hK.1 hP 0 rfl rfl 5 (by decide) (htb _ k_163) (fun _ h9 => h9) rfl dX6_readOperand_21 ?_
    refine lv_aload_n hx hb dX6_readOperand_24 rfl (lv_at hl 0 rfl) ?_
    refine va_get (D := D) (ci := 6) (v := .int tvalue) (C := RX6) (T := TX6) (N := 8) hx hb htb iX6 hown hK.1 hP 0 rfl rfl 7 (by decide) (htb _ k_165) (fun _ h9 => h9) rfl dX6_readOperand_25 ?_
    have hPc := hP.sub (ws' := [(trule, .inr (4, G4 ua usize)), ((ua 0), .inl (E 0, 120, .inl uf0)), ((ua 1), .inl (E 0, 120, .inl uf1))]) [2, 3, 4] rfl
    have hDc := hD.sub (ws' := [(trule, .inr (4, G4 ua usize)), ((ua 0), .inl (E 0, 120, .inl uf0)), ((ua 1), .inl (E 0, 120, .inl uf1))]) [2, 3, 4] (by decide) rfl
    refine aft_v (runMV (rest := []) (As := [.int tword, .int tvalue]) hx hb hml hown htb hK (g_X4_add l D E trule ua usize uf0 uf1 tword tvalue _ (by (try dsimp only); omega)) ok_X4_add k_696 k_697 k_698 k_6 k_699 ⟨show 0 + 1 ≤ b + 8 + 1 from by omega, show 8 + (3 + 11) + 40 * (0) ≤ 40 * (b + 8 + 1) from by omega⟩ ⟨(Nat.le_of_ble_eq_true rfl), (Nat.le_of_ble_eq_true rfl)⟩ hl.1 (Nat.le_of_ble_eq_true rfl) rfl rfl dX6_readOperand_28 hPc hDc rfl rfl 0 rfl) hP hD hS hA [2, 3, 4] [0, 1] (wr := [(th, .inr (6, G6 ta tsize trule twords tat tword twordAt tvalue)), ((ta 0), .inl (E 0, 120, .inl tf0))]) rfl rfl (by decide) (by decide) (fun u_4 H locs hw_3 hP hD hS => ?_)
    clear hPc hDc
    obtain ⟨w_5, w_6, w_7⟩ := u_4
    try dsimp only at hw_3
    have hP : va_P D vwCl [(th, .inr (6, G6 ta tsize trule twords tat tword twordAt tvalue)), ((ta 0), .inl (E 0, 120, .inl tf0)), (trule, .inr (4, G4 ua w_7)), ((ua 0), .inl (E 0, 120, .inl w_5)), ((ua 1), .inl (E 0, 120, .inl w_6))] H := hP
    have hD := toW hP hD rfl
    refine lv_aload_n hx hb dX6_readOperand_31 rfl (lv_at hl 0 rfl) ?_
    have hPc := hP.sub (ws' := [(th, .inr (6, G6 ta tsize trule twords tat tword twordAt tvalue)), ((ta 0), .inl (E 0, 120, .inl tf0))]) [0, 1] rfl
    have hDc := hD.sub (ws' := [(th, .inr (6, G6 ta tsize trule twords tat tword twordAt tvalue)), ((ta 0), .inl (E 0, 120, .inl tf0))]) [0, 1] (by decide) rfl
    refine aft_v (runMG (rest := []) (As := []) hx hb hml hown htb (g_X6_goOn l D E th ta tsize trule twords tat tword twordAt tvalue tf0 sv sn sf _ (by (try dsimp only); omega) hsn (by (try dsimp only); omega) g1) ok_X6_goOn k_591 k_593 ks_11 k_5 k_594 ⟨show 7 + 1 ≤ b + 8 + 1 from by omega, show 8 + (1 + 11) + 40 * (7) ≤ 40 * (b + 8 + 1) from by omega⟩ ⟨(Nat.le_of_ble_eq_true rfl), (Nat.le_of_ble_eq_true rfl)⟩ hl.1 (Nat.le_of_ble_eq_true rfl) rfl rfl dX6_readOperand_32 (pmVS hPc hDc hK rfl rfl 0 rfl hG hS (va_free hD hS hA [0, 1] rfl))) hP hD hS hA [0, 1] [2, 3, 4] (wr := [(trule, .inr (4, G4 ua w_7)), ((ua 0), .inl (E 0, 120, .inl w_5)), ((ua 1), .inl (E 0, 120, .inl w_6))]) rfl rfl (by decide) (by decide) (fun u_10 H locs hw_9 hP hD hS => ?_)
    clear hPc hDc
    obtain ⟨w_11, w_12, w_13, w_14⟩ := u_10
    try dsimp only at hw_9
    have hP : va_P D vwCl [(trule, .inr (4, G4 ua w_7)), ((ua 0), .inl (E 0, 120, .inl w_5)), ((ua 1), .inl (E 0, 120, .inl w_6)), (th, .inr (6, G6 ta tsize trule twords w_11 w_13 w_14 w_12)), ((ta 0), .inl (E 0, 120, .inl tf0))] H := hP
    have hD := toW hP hD rfl
    refine lv_iconst (v := 1) hx hb dX6_readOperand_35 (by decide) ?_
    have hP9 := hP.sub (ws' := [(th, .inr (6, G6 ta tsize trule twords w_11 w_13 w_14 w_12)), ((ta 0), .inl (E 0, 120, .inl tf0)), (trule, .inr (4, G4 ua w_7)), ((ua 0), .inl (E 0, 120, .inl w_5)), ((ua 1), .inl (E 0, 120, .inl w_6))]) [3, 4, 0, 1, 2] rfl
    have hD9 := hD.sub (ws' := [(th, .inr (6, G6 ta tsize trule twords w_11 w_13 w_14 w_12)), ((ta 0), .inl (E 0, 120, .inl tf0)), (trule, .inr (4, G4 ua w_7)), ((ua 0), .inl (E 0, 120, .inl w_5)), ((ua 1), .inl (E 0, 120, .inl w_6))]) [3, 4, 0, 1, 2] (by decide) rfl
    exact W.zret (v := 1) hx hb hr rfl (fun t ht hW => ⟨⟨1, (w_11, w_12, w_13, w_14, w_5, w_6, w_7), rfl, ⟨(by (try dsimp only); omega), (by (try dsimp only); omega), (by have h0 := t_1; (try dsimp only); omega)⟩, by rw [ht]; exact hP9, hD9⟩, hS.F ht⟩) hS.2.2 dX6_readOperand_36
  ·
    have ic_1 : tword.toInt ≠ 2 := mt (g_eq rfl t_2).mpr c_1
    clear c_1
    refine lv_aload_n hx hb dX6_readOperand_8 rfl (lv_at hl 0 rfl) ?_
    refine va_get (D := D) (ci := 6) (v := .int tword) (C := RX6) (T := TX6) (N := 8) hx hb htb iX6 hown hK.1 hP 0 rfl rfl 5 (by decide) (htb _ k_163) (fun _ h9 => h9) rfl dX6_readOperand_9 ?_
    refine lv_iconst (v := 3) hx hb dX6_readOperand_12 (by decide) ?_
    refine lv_icmp_ne (tgt := 37) hx hb dX6_readOperand_13 (by decide) (fun c_15 => ?_) (fun c_15 => ?_)
    ·
      have ic_15 : tword.toInt ≠ 3 := mt (g_eq rfl t_3).mpr c_15
      clear c_15
      refine lv_aload_n hx hb dX6_readOperand_37 rfl (lv_at hl 0 rfl) ?_
      refine va_get (D := D) (ci := 6) (v := .int tword) (C := RX6) (T := TX6) (N := 8) hx hb htb iX6 hown hK.1 hP 0 rfl rfl 5 (by decide) (htb _ k_163) (fun _ h9 => h9) rfl dX6_readOperand_38 ?_
      refine lv_bipush (v := 40) hx hb dX6_readOperand_41 (by decide) ?_
      refine lv_icmp_eq (tgt := 64) hx hb dX6_readOperand_43 (by decide) (fun c_16 => ?_) (fun c_16 => ?_)
      ·
        have ic_16 : tword.toInt = 40 := (g_eq rfl t_40).mp c_16
        clear c_16
        refine lv_iload_n hx hb dX6_readOperand_64 rfl (lv_at hl 1 rfl) ?_
        refine lv_bipush (v := 15) hx hb dX6_readOperand_65 (by decide) ?_
        refine lv_icmp_lt (tgt := 72) hx hb dX6_readOperand_67 (by decide) (fun c_17 => ?_) (fun c_17 => ?_)
        ·
          have ic_17 : p0.toInt < 15 := by first | exact (g_lt rfl t_15).mp c_17 | (have h := mt (g_le t_15 rfl).mpr c_17; omega)
          clear c_17
          refine lv_aload_n hx hb dX6_readOperand_72 rfl (lv_at hl 0 rfl) ?_
          refine va_get (D := D) (ci := 6) (v := .int tword) (C := RX6) (T := TX6) (N := 8) hx hb htb iX6 hown hK.1 hP 0 rfl rfl 5 (by decide) (htb _ k_163) (fun _ h9 => h9) rfl dX6_readOperand_73 ?_
          refine lv_istore_n (lv' := [(2, .int tword), (0, .ref th), (1, .int p0)]) hx hb dX6_readOperand_76 rfl hl (by decide) rfl (fun ls hl => ?_)
          refine lv_aload_n hx hb dX6_readOperand_77 rfl (lv_at hl 1 rfl) ?_
          have hPc := hP.sub (ws' := [(th, .inr (6, G6 ta tsize trule twords tat tword twordAt tvalue)), ((ta 0), .inl (E 0, 120, .inl tf0))]) [0, 1] rfl
          have hDc := hD.sub (ws' := [(th, .inr (6, G6 ta tsize trule twords tat tword twordAt tvalue)), ((ta 0), .inl (E 0, 120, .inl tf0))]) [0, 1] (by decide) rfl
          refine aft_v (runMG (rest := []) (As := []) hx hb hml hown htb (g_X6_goOn l D E th ta tsize trule twords tat tword twordAt tvalue tf0 sv sn sf _ (by (try dsimp only); omega) hsn (by (try dsimp only); omega) g1) ok_X6_goOn k_591 k_593 ks_11 k_5 k_594 ⟨show 7 + 1 ≤ b + 8 + 1 from by omega, show 8 + (1 + 11) + 40 * (7) ≤ 40 * (b + 8 + 1) from by omega⟩ ⟨(Nat.le_of_ble_eq_true rfl), (Nat.le_of_ble_eq_true rfl)⟩ hl.1 (Nat.le_of_ble_eq_true rfl) rfl rfl dX6_readOperand_78 (pmVS hPc hDc hK rfl rfl 0 rfl hG hS (va_free hD hS hA [0, 1] rfl))) hP hD hS hA [0, 1] [2, 3, 4] (wr := [(trule, .inr (4, G4 ua usize)), ((ua 0), .inl (E 0, 120, .inl uf0)), ((ua 1), .inl (E 0, 120, .inl uf1))]) rfl rfl (by decide) (by decide) (fun u_20 H locs hw_19 hP hD hS => ?_)
          clear hPc hDc
          obtain ⟨w_21, w_22, w_23, w_24⟩ := u_20
          try dsimp only at hw_19
          have hP : va_P D vwCl [(trule, .inr (4, G4 ua usize)), ((ua 0), .inl (E 0, 120, .inl uf0)), ((ua 1), .inl (E 0, 120, .inl uf1)), (th, .inr (6, G6 ta tsize trule twords w_21 w_23 w_24 w_22)), ((ta 0), .inl (E 0, 120, .inl tf0))] H := hP
          have hD := toW hP hD rfl
          refine lv_iload_n hx hb dX6_readOperand_81 rfl (lv_at hl 0 rfl) ?_
          refine lv_bipush (v := 40) hx hb dX6_readOperand_82 (by decide) ?_
          refine lv_icmp_ne (tgt := 95) hx hb dX6_readOperand_84 (by decide) (fun c_25 => absurd (by rw [g_eq rfl t_40]; omega) c_25) (fun c_25 => ?_)
          refine lv_aload_n hx hb dX6_readOperand_87 rfl (lv_at hl 1 rfl) ?_
          refine lv_iload_n hx hb dX6_readOperand_88 rfl (lv_at hl 2 rfl) ?_
          refine lv_iconst (v := 1) hx hb dX6_readOperand_89 (by decide) ?_
          refine lv_iadd hx hb dX6_readOperand_90 ?_
          refine lv_topi (fun z_26 ez_26 => ?_)
          have jz_26 : z_26.toInt = p0.toInt + 1 := by rw [ez_26]; exact g_add rfl t_1 (by omega) (by omega)
          have hPc := hP.sub (ws' := [(th, .inr (6, G6 ta tsize trule twords w_21 w_23 w_24 w_22)), ((ta 0), .inl (E 0, 120, .inl tf0)), (trule, .inr (4, G4 ua usize)), ((ua 0), .inl (E 0, 120, .inl uf0)), ((ua 1), .inl (E 0, 120, .inl uf1))]) [3, 4, 0, 1, 2] rfl
          have hDc := hD.sub (ws' := [(th, .inr (6, G6 ta tsize trule twords w_21 w_23 w_24 w_22)), ((ta 0), .inl (E 0, 120, .inl tf0)), (trule, .inr (4, G4 ua usize)), ((ua 0), .inl (E 0, 120, .inl uf0)), ((ua 1), .inl (E 0, 120, .inl uf1))]) [3, 4, 0, 1, 2] (by decide) rfl
          refine aft_i (runMG (rest := []) (As := [.int z_26]) hx hb hml hown htb ((hB (by omega) z_26 (by omega)) D E th ta tsize trule twords w_21 w_23 w_24 w_22 tf0 ua usize uf0 uf1 sv sn sf _ (by (try dsimp only); omega) (by (try dsimp only); omega) hsn (by (try dsimp only); omega) g1) ok_X6_readInBrackets k_700 k_702 ks_23 k_5 k_703 ⟨show b + 8 + 1 ≤ b + 8 + 1 from by omega, show 8 + (2 + 11) + 40 * (b + 8) ≤ 40 * (b + 8 + 1) from by omega⟩ ⟨(Nat.le_of_ble_eq_true rfl), (Nat.le_of_ble_eq_true rfl)⟩ hl.1 (Nat.le_of_ble_eq_true rfl) rfl rfl dX6_readOperand_91 (pmVS hPc hDc hK rfl rfl 0 rfl hG hS (va_free hD hS hA [3, 4, 0, 1, 2] rfl))) hP hD hS hA [3, 4, 0, 1, 2] [] (wr := ([] : va_W)) rfl rfl (by decide) (by decide) (fun r_27 u_29 H locs hw_28 hP hD hS => ?_)
          clear hPc hDc
          obtain ⟨w_30, w_31, w_32, w_33, w_34, w_35, w_36⟩ := u_29
          try dsimp only at hw_28
          have hP : va_P D vwCl [(th, .inr (6, G6 ta tsize trule twords w_30 w_32 w_33 w_31)), ((ta 0), .inl (E 0, 120, .inl tf0)), (trule, .inr (4, G4 ua w_36)), ((ua 0), .inl (E 0, 120, .inl w_34)), ((ua 1), .inl (E 0, 120, .inl w_35))] H := hP
          have hD := toW hP hD rfl
          obtain ⟨hw_28_0, hw_28_1, hw_28_2⟩ := hw_28
          have hP9 := hP.sub (ws' := [(th, .inr (6, G6 ta tsize trule twords w_30 w_32 w_33 w_31)), ((ta 0), .inl (E 0, 120, .inl tf0)), (trule, .inr (4, G4 ua w_36)), ((ua 0), .inl (E 0, 120, .inl w_34)), ((ua 1), .inl (E 0, 120, .inl w_35))]) [0, 1, 2, 3, 4] rfl
          have hD9 := hD.sub (ws' := [(th, .inr (6, G6 ta tsize trule twords w_30 w_32 w_33 w_31)), ((ta 0), .inl (E 0, 120, .inl tf0)), (trule, .inr (4, G4 ua w_36)), ((ua 0), .inl (E 0, 120, .inl w_34)), ((ua 1), .inl (E 0, 120, .inl w_35))]) [0, 1, 2, 3, 4] (by decide) rfl
          exact W.zret (v := r_27) hx hb hr (nar_z (by omega) (by omega)) (fun t ht hW => ⟨⟨r_27, (w_30, w_31, w_32, w_33, w_34, w_35, w_36), rfl, ⟨(by (try dsimp only); omega), (by (try dsimp only); omega), (by (try dsimp only); omega)⟩, by rw [ht]; exact hP9, hD9⟩, hS.F ht⟩) hS.2.2 dX6_readOperand_94
        ·
          have ic_17 : 15 ≤ p0.toInt := by first | exact (g_le t_15 rfl).mp c_17 | (have h := mt (g_lt rfl t_15).mpr c_17; omega)
          clear c_17
          refine lv_iconst (v := 0) hx hb dX6_readOperand_70 (by decide) ?_
          have hP9 := hP.sub (ws' := [(th, .inr (6, G6 ta tsize trule twords tat tword twordAt tvalue)), ((ta 0), .inl (E 0, 120, .inl tf0)), (trule, .inr (4, G4 ua usize)), ((ua 0), .inl (E 0, 120, .inl uf0)), ((ua 1), .inl (E 0, 120, .inl uf1))]) [0, 1, 2, 3, 4] rfl
          have hD9 := hD.sub (ws' := [(th, .inr (6, G6 ta tsize trule twords tat tword twordAt tvalue)), ((ta 0), .inl (E 0, 120, .inl tf0)), (trule, .inr (4, G4 ua usize)), ((ua 0), .inl (E 0, 120, .inl uf0)), ((ua 1), .inl (E 0, 120, .inl uf1))]) [0, 1, 2, 3, 4] (by decide) rfl
          exact W.zret (v := 0) hx hb hr rfl (fun t ht hW => ⟨⟨0, (tat, tvalue, tword, twordAt, uf0, uf1, usize), rfl, ⟨(by (try dsimp only); omega), (by (try dsimp only); omega), (by have h0 := t_0; (try dsimp only); omega)⟩, by rw [ht]; exact hP9, hD9⟩, hS.F ht⟩) hS.2.2 dX6_readOperand_71
      ·
        have ic_16 : tword.toInt ≠ 40 := mt (g_eq rfl t_40).mpr c_16
        clear c_16
        refine lv_aload_n hx hb dX6_readOperand_46 rfl (lv_at hl 0 rfl) ?_
        refine va_get (D := D) (ci := 6) (v := .int tword) (C := RX6) (T := TX6) (N := 8) hx hb htb iX6 hown hK.1 hP 0 rfl rfl 5 (by decide) (htb _ k_163) (fun _ h9 => h9) rfl dX6_readOperand_47 ?_
        refine lv_bipush (v := 7) hx hb dX6_readOperand_50 (by decide) ?_
        refine lv_icmp_eq (tgt := 64) hx hb dX6_readOperand_52 (by decide) (fun c_37 => ?_) (fun c_37 => ?_)
        ·
          have ic_37 : tword.toInt = 7 := (g_eq rfl t_7).mp c_37
          clear c_37
          refine lv_iload_n hx hb dX6_readOperand_64 rfl (lv_at hl 1 rfl) ?_
          refine lv_bipush (v := 15) hx hb dX6_readOperand_65 (by decide) ?_
          refine lv_icmp_lt (tgt := 72) hx hb dX6_readOperand_67 (by decide) (fun c_38 => ?_) (fun c_38 => ?_)
          ·
            have ic_38 : p0.toInt < 15 := by first | exact (g_lt rfl t_15).mp c_38 | (have h := mt (g_le t_15 rfl).mpr c_38; omega)
            clear c_38
            refine lv_aload_n hx hb dX6_readOperand_72 rfl (lv_at hl 0 rfl) ?_
            refine va_get (D := D) (ci := 6) (v := .int tword) (C := RX6) (T := TX6) (N := 8) hx hb htb iX6 hown hK.1 hP 0 rfl rfl 5 (by decide) (htb _ k_163) (fun _ h9 => h9) rfl dX6_readOperand_73 ?_
            refine lv_istore_n (lv' := [(2, .int tword), (0, .ref th), (1, .int p0)]) hx hb dX6_readOperand_76 rfl hl (by decide) rfl (fun ls hl => ?_)
            refine lv_aload_n hx hb dX6_readOperand_77 rfl (lv_at hl 1 rfl) ?_
            have hPc := hP.sub (ws' := [(th, .inr (6, G6 ta tsize trule twords tat tword twordAt tvalue)), ((ta 0), .inl (E 0, 120, .inl tf0))]) [0, 1] rfl
            have hDc := hD.sub (ws' := [(th, .inr (6, G6 ta tsize trule twords tat tword twordAt tvalue)), ((ta 0), .inl (E 0, 120, .inl tf0))]) [0, 1] (by decide) rfl
            refine aft_v (runMG (rest := []) (As := []) hx hb hml hown htb (g_X6_goOn l D E th ta tsize trule twords tat tword twordAt tvalue tf0 sv sn sf _ (by (try dsimp only); omega) hsn (by (try dsimp only); omega) g1) ok_X6_goOn k_591 k_593 ks_11 k_5 k_594 ⟨show 7 + 1 ≤ b + 8 + 1 from by omega, show 8 + (1 + 11) + 40 * (7) ≤ 40 * (b + 8 + 1) from by omega⟩ ⟨(Nat.le_of_ble_eq_true rfl), (Nat.le_of_ble_eq_true rfl)⟩ hl.1 (Nat.le_of_ble_eq_true rfl) rfl rfl dX6_readOperand_78 (pmVS hPc hDc hK rfl rfl 0 rfl hG hS (va_free hD hS hA [0, 1] rfl))) hP hD hS hA [0, 1] [2, 3, 4] (wr := [(trule, .inr (4, G4 ua usize)), ((ua 0), .inl (E 0, 120, .inl uf0)), ((ua 1), .inl (E 0, 120, .inl uf1))]) rfl rfl (by decide) (by decide) (fun u_41 H locs hw_40 hP hD hS => ?_)
            clear hPc hDc
            obtain ⟨w_42, w_43, w_44, w_45⟩ := u_41
            try dsimp only at hw_40
            have hP : va_P D vwCl [(trule, .inr (4, G4 ua usize)), ((ua 0), .inl (E 0, 120, .inl uf0)), ((ua 1), .inl (E 0, 120, .inl uf1)), (th, .inr (6, G6 ta tsize trule twords w_42 w_44 w_45 w_43)), ((ta 0), .inl (E 0, 120, .inl tf0))] H := hP
            have hD := toW hP hD rfl
            refine lv_iload_n hx hb dX6_readOperand_81 rfl (lv_at hl 0 rfl) ?_
            refine lv_bipush (v := 40) hx hb dX6_readOperand_82 (by decide) ?_
            refine lv_icmp_ne (tgt := 95) hx hb dX6_readOperand_84 (by decide) (fun c_46 => ?_) (fun c_46 => absurd c_46 (by rw [g_eq rfl t_40]; omega))
            refine lv_aload_n hx hb dX6_readOperand_95 rfl (lv_at hl 1 rfl) ?_
            refine lv_iload_n hx hb dX6_readOperand_96 rfl (lv_at hl 2 rfl) ?_
            refine lv_iconst (v := 1) hx hb dX6_readOperand_97 (by decide) ?_
            refine lv_iadd hx hb dX6_readOperand_98 ?_
            refine lv_topi (fun z_47 ez_47 => ?_)
            have jz_47 : z_47.toInt = p0.toInt + 1 := by rw [ez_47]; exact g_add rfl t_1 (by omega) (by omega)
            have hPc := hP.sub (ws' := [(th, .inr (6, G6 ta tsize trule twords w_42 w_44 w_45 w_43)), ((ta 0), .inl (E 0, 120, .inl tf0)), (trule, .inr (4, G4 ua usize)), ((ua 0), .inl (E 0, 120, .inl uf0)), ((ua 1), .inl (E 0, 120, .inl uf1))]) [3, 4, 0, 1, 2] rfl
            have hDc := hD.sub (ws' := [(th, .inr (6, G6 ta tsize trule twords w_42 w_44 w_45 w_43)), ((ta 0), .inl (E 0, 120, .inl tf0)), (trule, .inr (4, G4 ua usize)), ((ua 0), .inl (E 0, 120, .inl uf0)), ((ua 1), .inl (E 0, 120, .inl uf1))]) [3, 4, 0, 1, 2] (by decide) rfl
            refine aft_i (runMG (rest := []) (As := [.int z_47]) hx hb hml hown htb ((hO (by omega) z_47 (by omega)) D E th ta tsize trule twords w_42 w_44 w_45 w_43 tf0 ua usize uf0 uf1 sv sn sf _ (by (try dsimp only); omega) (by (try dsimp only); omega) hsn (by (try dsimp only); omega) g1) ok_X6_readOperand k_692 k_694 ks_22 k_5 k_695 ⟨show b + 1 + 1 ≤ b + 8 + 1 from by omega, show 8 + (4 + 11) + 40 * (b + 1) ≤ 40 * (b + 8 + 1) from by omega⟩ ⟨(Nat.le_of_ble_eq_true rfl), (Nat.le_of_ble_eq_true rfl)⟩ hl.1 (Nat.le_of_ble_eq_true rfl) rfl rfl dX6_readOperand_99 (pmVS hPc hDc hK rfl rfl 0 rfl hG hS (va_free hD hS hA [3, 4, 0, 1, 2] rfl))) hP hD hS hA [3, 4, 0, 1, 2] [] (wr := ([] : va_W)) rfl rfl (by decide) (by decide) (fun r_48 u_50 H locs hw_49 hP hD hS => ?_)
            clear hPc hDc
            obtain ⟨w_51, w_52, w_53, w_54, w_55, w_56, w_57⟩ := u_50
            try dsimp only at hw_49
            have hP : va_P D vwCl [(th, .inr (6, G6 ta tsize trule twords w_51 w_53 w_54 w_52)), ((ta 0), .inl (E 0, 120, .inl tf0)), (trule, .inr (4, G4 ua w_57)), ((ua 0), .inl (E 0, 120, .inl w_55)), ((ua 1), .inl (E 0, 120, .inl w_56))] H := hP
            have hD := toW hP hD rfl
            obtain ⟨hw_49_0, hw_49_1, hw_49_2⟩ := hw_49
            refine lv_istore_n (lv' := [(3, .int r_48), (2, .int tword), (0, .ref th), (1, .int p0)]) hx hb dX6_readOperand_102 rfl hl (by decide) rfl (fun ls hl => ?_)
            refine lv_aload_n hx hb dX6_readOperand_103 rfl (lv_at hl 2 rfl) ?_
            refine va_get (D := D) (ci := 6) (v := .ref trule) (C := RX6) (T := TX6) (N := 8) hx hb htb iX6 hown hK.1 hP 0 rfl rfl 2 (by decide) (htb _ k_160) (fun _ h9 => h9) rfl dX6_readOperand_104 ?_
            refine lv_iload_n hx hb dX6_readOperand_107 rfl (lv_at hl 1 rfl) ?_
            refine lv_bipush (v := 45) hx hb dX6_readOperand_108 (by decide) ?_
            refine lv_icmp_ne (tgt := 118) hx hb dX6_readOperand_110 (by decide) (fun c_58 => ?_) (fun c_58 => absurd c_58 (by rw [g_eq rfl t_45]; omega))
            refine lv_bipush (v := 7) hx hb dX6_readOperand_118 (by decide) ?_
            refine lv_iconst (v := 0) hx hb dX6_readOperand_120 (by decide) ?_
            have hPc := hP.sub (ws' := [(trule, .inr (4, G4 ua w_57)), ((ua 0), .inl (E 0, 120, .inl w_55)), ((ua 1), .inl (E 0, 120, .inl w_56))]) [2, 3, 4] rfl
            have hDc := hD.sub (ws' := [(trule, .inr (4, G4 ua w_57)), ((ua 0), .inl (E 0, 120, .inl w_55)), ((ua 1), .inl (E 0, 120, .inl w_56))]) [2, 3, 4] (by decide) rfl
            refine aft_v (runMV (rest := []) (As := [.int 7, .int 0]) hx hb hml hown htb hK (g_X4_add l D E trule ua w_57 w_55 w_56 7 0 _ (by (try dsimp only); omega)) ok_X4_add k_696 k_697 k_698 k_6 k_699 ⟨show 0 + 1 ≤ b + 8 + 1 from by omega, show 8 + (3 + 11) + 40 * (0) ≤ 40 * (b + 8 + 1) from by omega⟩ ⟨(Nat.le_of_ble_eq_true rfl), (Nat.le_of_ble_eq_true rfl)⟩ hl.1 (Nat.le_of_ble_eq_true rfl) rfl rfl dX6_readOperand_121 hPc hDc rfl rfl 0 rfl) hP hD hS hA [2, 3, 4] [0, 1] (wr := [(th, .inr (6, G6 ta tsize trule twords w_51 w_53 w_54 w_52)), ((ta 0), .inl (E 0, 120, .inl tf0))]) rfl rfl (by decide) (by decide) (fun u_61 H locs hw_60 hP hD hS => ?_)
            clear hPc hDc
            obtain ⟨w_62, w_63, w_64⟩ := u_61
            try dsimp only at hw_60
            have hP : va_P D vwCl [(th, .inr (6, G6 ta tsize trule twords w_51 w_53 w_54 w_52)), ((ta 0), .inl (E 0, 120, .inl tf0)), (trule, .inr (4, G4 ua w_64)), ((ua 0), .inl (E 0, 120, .inl w_62)), ((ua 1), .inl (E 0, 120, .inl w_63))] H := hP
            have hD := toW hP hD rfl
            try simp only [t_0, t_7] at hw_60
            refine lv_iload_n hx hb dX6_readOperand_124 rfl (lv_at hl 0 rfl) ?_
            have hP9 := hP.sub (ws' := [(th, .inr (6, G6 ta tsize trule twords w_51 w_53 w_54 w_52)), ((ta 0), .inl (E 0, 120, .inl tf0)), (trule, .inr (4, G4 ua w_64)), ((ua 0), .inl (E 0, 120, .inl w_62)), ((ua 1), .inl (E 0, 120, .inl w_63))]) [0, 1, 2, 3, 4] rfl
            have hD9 := hD.sub (ws' := [(th, .inr (6, G6 ta tsize trule twords w_51 w_53 w_54 w_52)), ((ta 0), .inl (E 0, 120, .inl tf0)), (trule, .inr (4, G4 ua w_64)), ((ua 0), .inl (E 0, 120, .inl w_62)), ((ua 1), .inl (E 0, 120, .inl w_63))]) [0, 1, 2, 3, 4] (by decide) rfl
            exact W.zret (v := r_48) hx hb hr (nar_z (by omega) (by omega)) (fun t ht hW => ⟨⟨r_48, (w_51, w_52, w_53, w_54, w_62, w_63, w_64), rfl, ⟨(by (try dsimp only); omega), (by (try dsimp only); omega), (by (try dsimp only); omega)⟩, by rw [ht]; exact hP9, hD9⟩, hS.F ht⟩) hS.2.2 dX6_readOperand_125
          ·
            have ic_38 : 15 ≤ p0.toInt := by first | exact (g_le t_15 rfl).mp c_38 | (have h := mt (g_lt rfl t_15).mpr c_38; omega)
            clear c_38
            refine lv_iconst (v := 0) hx hb dX6_readOperand_70 (by decide) ?_
            have hP9 := hP.sub (ws' := [(th, .inr (6, G6 ta tsize trule twords tat tword twordAt tvalue)), ((ta 0), .inl (E 0, 120, .inl tf0)), (trule, .inr (4, G4 ua usize)), ((ua 0), .inl (E 0, 120, .inl uf0)), ((ua 1), .inl (E 0, 120, .inl uf1))]) [0, 1, 2, 3, 4] rfl
            have hD9 := hD.sub (ws' := [(th, .inr (6, G6 ta tsize trule twords tat tword twordAt tvalue)), ((ta 0), .inl (E 0, 120, .inl tf0)), (trule, .inr (4, G4 ua usize)), ((ua 0), .inl (E 0, 120, .inl uf0)), ((ua 1), .inl (E 0, 120, .inl uf1))]) [0, 1, 2, 3, 4] (by decide) rfl
            exact W.zret (v := 0) hx hb hr rfl (fun t ht hW => ⟨⟨0, (tat, tvalue, tword, twordAt, uf0, uf1, usize), rfl, ⟨(by (try dsimp only); omega), (by (try dsimp only); omega), (by have h0 := t_0; (try dsimp only); omega)⟩, by rw [ht]; exact hP9, hD9⟩, hS.F ht⟩) hS.2.2 dX6_readOperand_71
        ·
          have ic_37 : tword.toInt ≠ 7 := mt (g_eq rfl t_7).mpr c_37
          clear c_37
          refine lv_aload_n hx hb dX6_readOperand_55 rfl (lv_at hl 0 rfl) ?_
          refine va_get (D := D) (ci := 6) (v := .int tword) (C := RX6) (T := TX6) (N := 8) hx hb htb iX6 hown hK.1 hP 0 rfl rfl 5 (by decide) (htb _ k_163) (fun _ h9 => h9) rfl dX6_readOperand_56 ?_
          refine lv_bipush (v := 45) hx hb dX6_readOperand_59 (by decide) ?_
          refine lv_icmp_ne (tgt := 70) hx hb dX6_readOperand_61 (by decide) (fun c_65 => ?_) (fun c_65 => ?_)
          ·
            have ic_65 : tword.toInt ≠ 45 := mt (g_eq rfl t_45).mpr c_65
            clear c_65
            refine lv_iconst (v := 0) hx hb dX6_readOperand_70 (by decide) ?_
            have hP9 := hP.sub (ws' := [(th, .inr (6, G6 ta tsize trule twords tat tword twordAt tvalue)), ((ta 0), .inl (E 0, 120, .inl tf0)), (trule, .inr (4, G4 ua usize)), ((ua 0), .inl (E 0, 120, .inl uf0)), ((ua 1), .inl (E 0, 120, .inl uf1))]) [0, 1, 2, 3, 4] rfl
            have hD9 := hD.sub (ws' := [(th, .inr (6, G6 ta tsize trule twords tat tword twordAt tvalue)), ((ta 0), .inl (E 0, 120, .inl tf0)), (trule, .inr (4, G4 ua usize)), ((ua 0), .inl (E 0, 120, .inl uf0)), ((ua 1), .inl (E 0, 120, .inl uf1))]) [0, 1, 2, 3, 4] (by decide) rfl
            exact W.zret (v := 0) hx hb hr rfl (fun t ht hW => ⟨⟨0, (tat, tvalue, tword, twordAt, uf0, uf1, usize), rfl, ⟨(by (try dsimp only); omega), (by (try dsimp only); omega), (by have h0 := t_0; (try dsimp only); omega)⟩, by rw [ht]; exact hP9, hD9⟩, hS.F ht⟩) hS.2.2 dX6_readOperand_71
          ·
            have ic_65 : tword.toInt = 45 := (g_eq rfl t_45).mp c_65
            clear c_65
            refine lv_iload_n hx hb dX6_readOperand_64 rfl (lv_at hl 1 rfl) ?_
            refine lv_bipush (v := 15) hx hb dX6_readOperand_65 (by decide) ?_
            refine lv_icmp_lt (tgt := 72) hx hb dX6_readOperand_67 (by decide) (fun c_66 => ?_) (fun c_66 => ?_)
            ·
              have ic_66 : p0.toInt < 15 := by first | exact (g_lt rfl t_15).mp c_66 | (have h := mt (g_le t_15 rfl).mpr c_66; omega)
              clear c_66
              refine lv_aload_n hx hb dX6_readOperand_72 rfl (lv_at hl 0 rfl) ?_
              refine va_get (D := D) (ci := 6) (v := .int tword) (C := RX6) (T := TX6) (N := 8) hx hb htb iX6 hown hK.1 hP 0 rfl rfl 5 (by decide) (htb _ k_163) (fun _ h9 => h9) rfl dX6_readOperand_73 ?_
              refine lv_istore_n (lv' := [(2, .int tword), (0, .ref th), (1, .int p0)]) hx hb dX6_readOperand_76 rfl hl (by decide) rfl (fun ls hl => ?_)
              refine lv_aload_n hx hb dX6_readOperand_77 rfl (lv_at hl 1 rfl) ?_
              have hPc := hP.sub (ws' := [(th, .inr (6, G6 ta tsize trule twords tat tword twordAt tvalue)), ((ta 0), .inl (E 0, 120, .inl tf0))]) [0, 1] rfl
              have hDc := hD.sub (ws' := [(th, .inr (6, G6 ta tsize trule twords tat tword twordAt tvalue)), ((ta 0), .inl (E 0, 120, .inl tf0))]) [0, 1] (by decide) rfl
              refine aft_v (runMG (rest := []) (As := []) hx hb hml hown htb (g_X6_goOn l D E th ta tsize trule twords tat tword twordAt tvalue tf0 sv sn sf _ (by (try dsimp only); omega) hsn (by (try dsimp only); omega) g1) ok_X6_goOn k_591 k_593 ks_11 k_5 k_594 ⟨show 7 + 1 ≤ b + 8 + 1 from by omega, show 8 + (1 + 11) + 40 * (7) ≤ 40 * (b + 8 + 1) from by omega⟩ ⟨(Nat.le_of_ble_eq_true rfl), (Nat.le_of_ble_eq_true rfl)⟩ hl.1 (Nat.le_of_ble_eq_true rfl) rfl rfl dX6_readOperand_78 (pmVS hPc hDc hK rfl rfl 0 rfl hG hS (va_free hD hS hA [0, 1] rfl))) hP hD hS hA [0, 1] [2, 3, 4] (wr := [(trule, .inr (4, G4 ua usize)), ((ua 0), .inl (E 0, 120, .inl uf0)), ((ua 1), .inl (E 0, 120, .inl uf1))]) rfl rfl (by decide) (by decide) (fun u_69 H locs hw_68 hP hD hS => ?_)
              clear hPc hDc
              obtain ⟨w_70, w_71, w_72, w_73⟩ := u_69
              try dsimp only at hw_68
              have hP : va_P D vwCl [(trule, .inr (4, G4 ua usize)), ((ua 0), .inl (E 0, 120, .inl uf0)), ((ua 1), .inl (E 0, 120, .inl uf1)), (th, .inr (6, G6 ta tsize trule twords w_70 w_72 w_73 w_71)), ((ta 0), .inl (E 0, 120, .inl tf0))] H := hP
              have hD := toW hP hD rfl
              refine lv_iload_n hx hb dX6_readOperand_81 rfl (lv_at hl 0 rfl) ?_
              refine lv_bipush (v := 40) hx hb dX6_readOperand_82 (by decide) ?_
              refine lv_icmp_ne (tgt := 95) hx hb dX6_readOperand_84 (by decide) (fun c_74 => ?_) (fun c_74 => absurd c_74 (by rw [g_eq rfl t_40]; omega))
              refine lv_aload_n hx hb dX6_readOperand_95 rfl (lv_at hl 1 rfl) ?_
              refine lv_iload_n hx hb dX6_readOperand_96 rfl (lv_at hl 2 rfl) ?_
              refine lv_iconst (v := 1) hx hb dX6_readOperand_97 (by decide) ?_
              refine lv_iadd hx hb dX6_readOperand_98 ?_
              refine lv_topi (fun z_75 ez_75 => ?_)
              have jz_75 : z_75.toInt = p0.toInt + 1 := by rw [ez_75]; exact g_add rfl t_1 (by omega) (by omega)
              have hPc := hP.sub (ws' := [(th, .inr (6, G6 ta tsize trule twords w_70 w_72 w_73 w_71)), ((ta 0), .inl (E 0, 120, .inl tf0)), (trule, .inr (4, G4 ua usize)), ((ua 0), .inl (E 0, 120, .inl uf0)), ((ua 1), .inl (E 0, 120, .inl uf1))]) [3, 4, 0, 1, 2] rfl
              have hDc := hD.sub (ws' := [(th, .inr (6, G6 ta tsize trule twords w_70 w_72 w_73 w_71)), ((ta 0), .inl (E 0, 120, .inl tf0)), (trule, .inr (4, G4 ua usize)), ((ua 0), .inl (E 0, 120, .inl uf0)), ((ua 1), .inl (E 0, 120, .inl uf1))]) [3, 4, 0, 1, 2] (by decide) rfl
              refine aft_i (runMG (rest := []) (As := [.int z_75]) hx hb hml hown htb ((hO (by omega) z_75 (by omega)) D E th ta tsize trule twords w_70 w_72 w_73 w_71 tf0 ua usize uf0 uf1 sv sn sf _ (by (try dsimp only); omega) (by (try dsimp only); omega) hsn (by (try dsimp only); omega) g1) ok_X6_readOperand k_692 k_694 ks_22 k_5 k_695 ⟨show b + 1 + 1 ≤ b + 8 + 1 from by omega, show 8 + (4 + 11) + 40 * (b + 1) ≤ 40 * (b + 8 + 1) from by omega⟩ ⟨(Nat.le_of_ble_eq_true rfl), (Nat.le_of_ble_eq_true rfl)⟩ hl.1 (Nat.le_of_ble_eq_true rfl) rfl rfl dX6_readOperand_99 (pmVS hPc hDc hK rfl rfl 0 rfl hG hS (va_free hD hS hA [3, 4, 0, 1, 2] rfl))) hP hD hS hA [3, 4, 0, 1, 2] [] (wr := ([] : va_W)) rfl rfl (by decide) (by decide) (fun r_76 u_78 H locs hw_77 hP hD hS => ?_)
              clear hPc hDc
              obtain ⟨w_79, w_80, w_81, w_82, w_83, w_84, w_85⟩ := u_78
              try dsimp only at hw_77
              have hP : va_P D vwCl [(th, .inr (6, G6 ta tsize trule twords w_79 w_81 w_82 w_80)), ((ta 0), .inl (E 0, 120, .inl tf0)), (trule, .inr (4, G4 ua w_85)), ((ua 0), .inl (E 0, 120, .inl w_83)), ((ua 1), .inl (E 0, 120, .inl w_84))] H := hP
              have hD := toW hP hD rfl
              obtain ⟨hw_77_0, hw_77_1, hw_77_2⟩ := hw_77
              refine lv_istore_n (lv' := [(3, .int r_76), (2, .int tword), (0, .ref th), (1, .int p0)]) hx hb dX6_readOperand_102 rfl hl (by decide) rfl (fun ls hl => ?_)
              refine lv_aload_n hx hb dX6_readOperand_103 rfl (lv_at hl 2 rfl) ?_
              refine va_get (D := D) (ci := 6) (v := .ref trule) (C := RX6) (T := TX6) (N := 8) hx hb htb iX6 hown hK.1 hP 0 rfl rfl 2 (by decide) (htb _ k_160) (fun _ h9 => h9) rfl dX6_readOperand_104 ?_
              refine lv_iload_n hx hb dX6_readOperand_107 rfl (lv_at hl 1 rfl) ?_
              refine lv_bipush (v := 45) hx hb dX6_readOperand_108 (by decide) ?_
              refine lv_icmp_ne (tgt := 118) hx hb dX6_readOperand_110 (by decide) (fun c_86 => absurd (by rw [g_eq rfl t_45]; omega) c_86) (fun c_86 => ?_)
              refine lv_bipush (v := 8) hx hb dX6_readOperand_113 (by decide) ?_
              refine lv_goto (tgt := 120) hx hb dX6_readOperand_115 (by decide) ?_
              refine lv_iconst (v := 0) hx hb dX6_readOperand_120 (by decide) ?_
              have hPc := hP.sub (ws' := [(trule, .inr (4, G4 ua w_85)), ((ua 0), .inl (E 0, 120, .inl w_83)), ((ua 1), .inl (E 0, 120, .inl w_84))]) [2, 3, 4] rfl
              have hDc := hD.sub (ws' := [(trule, .inr (4, G4 ua w_85)), ((ua 0), .inl (E 0, 120, .inl w_83)), ((ua 1), .inl (E 0, 120, .inl w_84))]) [2, 3, 4] (by decide) rfl
              refine aft_v (runMV (rest := []) (As := [.int 8, .int 0]) hx hb hml hown htb hK (g_X4_add l D E trule ua w_85 w_83 w_84 8 0 _ (by (try dsimp only); omega)) ok_X4_add k_696 k_697 k_698 k_6 k_699 ⟨show 0 + 1 ≤ b + 8 + 1 from by omega, show 8 + (3 + 11) + 40 * (0) ≤ 40 * (b + 8 + 1) from by omega⟩ ⟨(Nat.le_of_ble_eq_true rfl), (Nat.le_of_ble_eq_true rfl)⟩ hl.1 (Nat.le_of_ble_eq_true rfl) rfl rfl dX6_readOperand_121 hPc hDc rfl rfl 0 rfl) hP hD hS hA [2, 3, 4] [0, 1] (wr := [(th, .inr (6, G6 ta tsize trule twords w_79 w_81 w_82 w_80)), ((ta 0), .inl (E 0, 120, .inl tf0))]) rfl rfl (by decide) (by decide) (fun u_89 H locs hw_88 hP hD hS => ?_)
              clear hPc hDc
              obtain ⟨w_90, w_91, w_92⟩ := u_89
              try dsimp only at hw_88
              have hP : va_P D vwCl [(th, .inr (6, G6 ta tsize trule twords w_79 w_81 w_82 w_80)), ((ta 0), .inl (E 0, 120, .inl tf0)), (trule, .inr (4, G4 ua w_92)), ((ua 0), .inl (E 0, 120, .inl w_90)), ((ua 1), .inl (E 0, 120, .inl w_91))] H := hP
              have hD := toW hP hD rfl
              try simp only [t_0, t_8] at hw_88
              refine lv_iload_n hx hb dX6_readOperand_124 rfl (lv_at hl 0 rfl) ?_
              have hP9 := hP.sub (ws' := [(th, .inr (6, G6 ta tsize trule twords w_79 w_81 w_82 w_80)), ((ta 0), .inl (E 0, 120, .inl tf0)), (trule, .inr (4, G4 ua w_92)), ((ua 0), .inl (E 0, 120, .inl w_90)), ((ua 1), .inl (E 0, 120, .inl w_91))]) [0, 1, 2, 3, 4] rfl
              have hD9 := hD.sub (ws' := [(th, .inr (6, G6 ta tsize trule twords w_79 w_81 w_82 w_80)), ((ta 0), .inl (E 0, 120, .inl tf0)), (trule, .inr (4, G4 ua w_92)), ((ua 0), .inl (E 0, 120, .inl w_90)), ((ua 1), .inl (E 0, 120, .inl w_91))]) [0, 1, 2, 3, 4] (by decide) rfl
              exact W.zret (v := r_76) hx hb hr (nar_z (by omega) (by omega)) (fun t ht hW => ⟨⟨r_76, (w_79, w_80, w_81, w_82, w_90, w_91, w_92), rfl, ⟨(by (try dsimp only); omega), (by (try dsimp only); omega), (by (try dsimp only); omega)⟩, by rw [ht]; exact hP9, hD9⟩, hS.F ht⟩) hS.2.2 dX6_readOperand_125
            ·
              have ic_66 : 15 ≤ p0.toInt := by first | exact (g_le t_15 rfl).mp c_66 | (have h := mt (g_lt rfl t_15).mpr c_66; omega)
              clear c_66
              refine lv_iconst (v := 0) hx hb dX6_readOperand_70 (by decide) ?_
              have hP9 := hP.sub (ws' := [(th, .inr (6, G6 ta tsize trule twords tat tword twordAt tvalue)), ((ta 0), .inl (E 0, 120, .inl tf0)), (trule, .inr (4, G4 ua usize)), ((ua 0), .inl (E 0, 120, .inl uf0)), ((ua 1), .inl (E 0, 120, .inl uf1))]) [0, 1, 2, 3, 4] rfl
              have hD9 := hD.sub (ws' := [(th, .inr (6, G6 ta tsize trule twords tat tword twordAt tvalue)), ((ta 0), .inl (E 0, 120, .inl tf0)), (trule, .inr (4, G4 ua usize)), ((ua 0), .inl (E 0, 120, .inl uf0)), ((ua 1), .inl (E 0, 120, .inl uf1))]) [0, 1, 2, 3, 4] (by decide) rfl
              exact W.zret (v := 0) hx hb hr rfl (fun t ht hW => ⟨⟨0, (tat, tvalue, tword, twordAt, uf0, uf1, usize), rfl, ⟨(by (try dsimp only); omega), (by (try dsimp only); omega), (by have h0 := t_0; (try dsimp only); omega)⟩, by rw [ht]; exact hP9, hD9⟩, hS.F ht⟩) hS.2.2 dX6_readOperand_71
    ·
      have ic_15 : tword.toInt = 3 := (g_eq rfl t_3).mp c_15
      clear c_15
      refine lv_aload_n hx hb dX6_readOperand_16 rfl (lv_at hl 0 rfl) ?_
      refine va_get (D := D) (ci := 6) (v := .ref trule) (C := RX6) (T := TX6) (N := 8) hx hb htb iX6 hown hK.1 hP 0 rfl rfl 2 (by decide) (htb _ k_160) (fun _ h9 => h9) rfl dX6_readOperand_17 ?_
      refine lv_aload_n hx hb dX6_readOperand_20 rfl (lv_at hl 0 rfl) ?_
      refine va_get (D := D) (ci := 6) (v := .int tword) (C := RX6) (T := TX6) (N := 8) hx hb htb iX6 hown hK.1 hP 0 rfl rfl 5 (by decide) (htb _ k_163) (fun _ h9 => h9) rfl dX6_readOperand_21 ?_
      refine lv_aload_n hx hb dX6_readOperand_24 rfl (lv_at hl 0 rfl) ?_
      refine va_get (D := D) (ci := 6) (v := .int tvalue) (C := RX6) (T := TX6) (N := 8) hx hb htb iX6 hown hK.1 hP 0 rfl rfl 7 (by decide) (htb _ k_165) (fun _ h9 => h9) rfl dX6_readOperand_25 ?_
      have hPc := hP.sub (ws' := [(trule, .inr (4, G4 ua usize)), ((ua 0), .inl (E 0, 120, .inl uf0)), ((ua 1), .inl (E 0, 120, .inl uf1))]) [2, 3, 4] rfl
      have hDc := hD.sub (ws' := [(trule, .inr (4, G4 ua usize)), ((ua 0), .inl (E 0, 120, .inl uf0)), ((ua 1), .inl (E 0, 120, .inl uf1))]) [2, 3, 4] (by decide) rfl
      refine aft_v (runMV (rest := []) (As := [.int tword, .int tvalue]) hx hb hml hown htb hK (g_X4_add l D E trule ua usize uf0 uf1 tword tvalue _ (by (try dsimp only); omega)) ok_X4_add k_696 k_697 k_698 k_6 k_699 ⟨show 0 + 1 ≤ b + 8 + 1 from by omega, show 8 + (3 + 11) + 40 * (0) ≤ 40 * (b + 8 + 1) from by omega⟩ ⟨(Nat.le_of_ble_eq_true rfl), (Nat.le_of_ble_eq_true rfl)⟩ hl.1 (Nat.le_of_ble_eq_true rfl) rfl rfl dX6_readOperand_28 hPc hDc rfl rfl 0 rfl) hP hD hS hA [2, 3, 4] [0, 1] (wr := [(th, .inr (6, G6 ta tsize trule twords tat tword twordAt tvalue)), ((ta 0), .inl (E 0, 120, .inl tf0))]) rfl rfl (by decide) (by decide) (fun u_95 H locs hw_94 hP hD hS => ?_)
      clear hPc hDc
      obtain ⟨w_96, w_97, w_98⟩ := u_95
      try dsimp only at hw_94
      have hP : va_P D vwCl [(th, .inr (6, G6 ta tsize trule twords tat tword twordAt tvalue)), ((ta 0), .inl (E 0, 120, .inl tf0)), (trule, .inr (4, G4 ua w_98)), ((ua 0), .inl (E 0, 120, .inl w_96)), ((ua 1), .inl (E 0, 120, .inl w_97))] H := hP
      have hD := toW hP hD rfl
      refine lv_aload_n hx hb dX6_readOperand_31 rfl (lv_at hl 0 rfl) ?_
      have hPc := hP.sub (ws' := [(th, .inr (6, G6 ta tsize trule twords tat tword twordAt tvalue)), ((ta 0), .inl (E 0, 120, .inl tf0))]) [0, 1] rfl
      have hDc := hD.sub (ws' := [(th, .inr (6, G6 ta tsize trule twords tat tword twordAt tvalue)), ((ta 0), .inl (E 0, 120, .inl tf0))]) [0, 1] (by decide) rfl
      refine aft_v (runMG (rest := []) (As := []) hx hb hml hown htb (g_X6_goOn l D E th ta tsize trule twords tat tword twordAt tvalue tf0 sv sn sf _ (by (try dsimp only); omega) hsn (by (try dsimp only); omega) g1) ok_X6_goOn k_591 k_593 ks_11 k_5 k_594 ⟨show 7 + 1 ≤ b + 8 + 1 from by omega, show 8 + (1 + 11) + 40 * (7) ≤ 40 * (b + 8 + 1) from by omega⟩ ⟨(Nat.le_of_ble_eq_true rfl), (Nat.le_of_ble_eq_true rfl)⟩ hl.1 (Nat.le_of_ble_eq_true rfl) rfl rfl dX6_readOperand_32 (pmVS hPc hDc hK rfl rfl 0 rfl hG hS (va_free hD hS hA [0, 1] rfl))) hP hD hS hA [0, 1] [2, 3, 4] (wr := [(trule, .inr (4, G4 ua w_98)), ((ua 0), .inl (E 0, 120, .inl w_96)), ((ua 1), .inl (E 0, 120, .inl w_97))]) rfl rfl (by decide) (by decide) (fun u_101 H locs hw_100 hP hD hS => ?_)
      clear hPc hDc
      obtain ⟨w_102, w_103, w_104, w_105⟩ := u_101
      try dsimp only at hw_100
      have hP : va_P D vwCl [(trule, .inr (4, G4 ua w_98)), ((ua 0), .inl (E 0, 120, .inl w_96)), ((ua 1), .inl (E 0, 120, .inl w_97)), (th, .inr (6, G6 ta tsize trule twords w_102 w_104 w_105 w_103)), ((ta 0), .inl (E 0, 120, .inl tf0))] H := hP
      have hD := toW hP hD rfl
      refine lv_iconst (v := 1) hx hb dX6_readOperand_35 (by decide) ?_
      have hP9 := hP.sub (ws' := [(th, .inr (6, G6 ta tsize trule twords w_102 w_104 w_105 w_103)), ((ta 0), .inl (E 0, 120, .inl tf0)), (trule, .inr (4, G4 ua w_98)), ((ua 0), .inl (E 0, 120, .inl w_96)), ((ua 1), .inl (E 0, 120, .inl w_97))]) [3, 4, 0, 1, 2] rfl
      have hD9 := hD.sub (ws' := [(th, .inr (6, G6 ta tsize trule twords w_102 w_104 w_105 w_103)), ((ta 0), .inl (E 0, 120, .inl tf0)), (trule, .inr (4, G4 ua w_98)), ((ua 0), .inl (E 0, 120, .inl w_96)), ((ua 1), .inl (E 0, 120, .inl w_97))]) [3, 4, 0, 1, 2] (by decide) rfl
      exact W.zret (v := 1) hx hb hr rfl (fun t ht hW => ⟨⟨1, (w_102, w_103, w_104, w_105, w_96, w_97, w_98), rfl, ⟨(by (try dsimp only); omega), (by (try dsimp only); omega), (by have h0 := t_1; (try dsimp only); omega)⟩, by rw [ht]; exact hP9, hD9⟩, hS.F ht⟩) hS.2.2 dX6_readOperand_36
set_option maxHeartbeats 4000000 in
set_option maxRecDepth 100000 in
theorem g_X6_readProduct (l : Launch) (b : Nat) (p0 : Int32) (hb8 : 8 ≤ b) (h15 : 0 ≤ p0.toInt ∧ p0.toInt ≤ 15) (hX : M_X6_readOperand l (b) p0) : M_X6_readProduct l (b) p0 := by
  intro D E th ta tsize trule twords tat tword twordAt tvalue tf0 ua usize uf0 uf1 sv sn sf sz hi_t hi_u hsn g0 g1
  refine Met.ofW (cc := cX6_readProduct) (maxL := 5) (ret := (some .boolean)) (by decide) rfl ?_
  intro p e s m args below meth c s₁ B hml hv
  obtain ⟨rfl, hsz, hP, hK, hD0, hG⟩ := hv
  have hx := B.exec; have hb := B.bytes; have hr := B.returns
  have hts := atoms_spec (ws := wl yX6_readProduct cX6_readProduct 5 (some .boolean)) B.pre
  have htb : ∀ w ∈ tb, w.before _ s = true := fun w h => hts w (List.mem_cons_of_mem _ h)
  have hown : s.vm.findClass RX6 = some m.cls := findClass_of_methodNamed B.named
  have hlocks := B.notSynchronized
  subst hsz
  have hD := hD0.self (sz := s.heap.size)
  generalize hAe : va_A [(th, .inr (6, G6 ta tsize trule twords tat tword twordAt tvalue)), ((ta 0), .inl (E 0, 120, .inl tf0)), (trule, .inr (4, G4 ua usize)), ((ua 0), .inl (E 0, 120, .inl uf0)), ((ua 1), .inl (E 0, 120, .inl uf1))] s.heap.size = A at hD hG ⊢
  have hA : ∀ q : Nat, s.heap.size ≤ q → A q := fun q h => by rw [← hAe]; exact Or.inr h
  have hS : va_S A s.heap s.heap [] := va_S.rf
  have hP : va_P D vwCl [(th, .inr (6, G6 ta tsize trule twords tat tword twordAt tvalue)), ((ta 0), .inl (E 0, 120, .inl tf0)), (trule, .inr (4, G4 ua usize)), ((ua 0), .inl (E 0, 120, .inl uf0)), ((ua 1), .inl (E 0, 120, .inl uf1))] s.heap := hP
  have hl := lv_entry ([.ref th, .int p0]) (n := 5) (Nat.le_of_ble_eq_true rfl)
  rw [lg_entry_eq]
  generalize (lg_sl ([.ref th, .int p0]) ++ List.replicate (5 - (lg_sl ([.ref th, .int p0])).length) Slot.unset).toArray = ls at hl ⊢
  have hl : lv_has ls 5 [(0, .ref th), (1, .int p0)] := hl
  have lo_p0 := i_lo p0; have hi_p0 := i_hi p0
  refine lv_aload_n hx hb dX6_readProduct_0 rfl (lv_at hl 0 rfl) ?_
  refine lv_iload_n hx hb dX6_readProduct_1 rfl (lv_at hl 1 rfl) ?_
  have hPc := hP.sub (ws' := [(th, .inr (6, G6 ta tsize trule twords tat tword twordAt tvalue)), ((ta 0), .inl (E 0, 120, .inl tf0)), (trule, .inr (4, G4 ua usize)), ((ua 0), .inl (E 0, 120, .inl uf0)), ((ua 1), .inl (E 0, 120, .inl uf1))]) [0, 1, 2, 3, 4] rfl
  have hDc := hD.sub (ws' := [(th, .inr (6, G6 ta tsize trule twords tat tword twordAt tvalue)), ((ta 0), .inl (E 0, 120, .inl tf0)), (trule, .inr (4, G4 ua usize)), ((ua 0), .inl (E 0, 120, .inl uf0)), ((ua 1), .inl (E 0, 120, .inl uf1))]) [0, 1, 2, 3, 4] (by decide) rfl
  refine aft_i (runMG (rest := []) (As := [.int p0]) hx hb hml hown htb ((hX) D E th ta tsize trule twords tat tword twordAt tvalue tf0 ua usize uf0 uf1 sv sn sf _ (by (try dsimp only); omega) (by (try dsimp only); omega) hsn (by (try dsimp only); omega) g1) ok_X6_readOperand k_692 k_694 ks_22 k_5 k_695 ⟨show b + 1 + 1 ≤ b + 2 from by omega, show 8 + (4 + 11) + 40 * (b + 1) ≤ 40 * (b + 2) from by omega⟩ ⟨(Nat.le_of_ble_eq_true rfl), (Nat.le_of_ble_eq_true rfl)⟩ hl.1 (Nat.le_of_ble_eq_true rfl) rfl rfl dX6_readProduct_2 (pmVS hPc hDc hK rfl rfl 0 rfl hG hS (va_free hD hS hA [0, 1, 2, 3, 4] rfl))) hP hD hS hA [0, 1, 2, 3, 4] [] (wr := ([] : va_W)) rfl rfl (by decide) (by decide) (fun r_1 u_3 H locs hw_2 hP hD hS => ?_)
  clear hPc hDc
  obtain ⟨w_4, w_5, w_6, w_7, w_8, w_9, w_10⟩ := u_3
  try dsimp only at hw_2
  have hP : va_P D vwCl [(th, .inr (6, G6 ta tsize trule twords w_4 w_6 w_7 w_5)), ((ta 0), .inl (E 0, 120, .inl tf0)), (trule, .inr (4, G4 ua w_10)), ((ua 0), .inl (E 0, 120, .inl w_8)), ((ua 1), .inl (E 0, 120, .inl w_9))] H := hP
  have hD := toW hP hD rfl
  obtain ⟨hw_2_0, hw_2_1, hw_2_2⟩ := hw_2
  refine lv_istore_n (lv' := [(2, .int r_1), (0, .ref th), (1, .int p0)]) hx hb dX6_readProduct_5 rfl hl (by decide) rfl (fun ls hl => ?_)
  refine lv_iconst (v := 0) hx hb dX6_readProduct_6 (by decide) ?_
  refine lv_istore_n (lv' := [(3, .int 0), (2, .int r_1), (0, .ref th), (1, .int p0)]) hx hb dX6_readProduct_7 rfl hl (by decide) rfl (fun ls hl => ?_)
  have loop_11 : ∀ (N_13 : Nat) (L3_8 : Int32) (L2_8 : Int32) (tat_8 : Int32) (tword_8 : Int32) (twordAt_8 : Int32) (tvalue_8 : Int32) (usize_8 : Int32) (uf0_8 : Nat → Int32) (uf1_8 : Nat → Int32) (H : Heap) (locs : List Loc) (ls : Array Slot), 120 - L3_8.toInt < (N_13 : Int) → (0 ≤ usize_8.toInt ∧ usize_8.toInt ≤ 120) → (0 ≤ L3_8.toInt ∧ L3_8.toInt ≤ 120 ∧ 0 ≤ L2_8.toInt ∧ L2_8.toInt ≤ 1) → (0 ≤ tat_8.toInt ∧ tat_8.toInt ≤ tsize.toInt ∧ 0 ≤ twordAt_8.toInt ∧ twordAt_8.toInt ≤ tat_8.toInt) → va_P D vwCl [(th, .inr (6, G6 ta tsize trule twords tat_8 tword_8 twordAt_8 tvalue_8)), ((ta 0), .inl (E 0, 120, .inl tf0)), (trule, .inr (4, G4 ua usize_8)), ((ua 0), .inl (E 0, 120, .inl uf0_8)), ((ua 1), .inl (E 0, 120, .inl uf1_8))] H → va_D A [(th, .inr (6, G6 ta tsize trule twords tat_8 tword_8 twordAt_8 tvalue_8)), ((ta 0), .inl (E 0, 120, .inl tf0)), (trule, .inr (4, G4 ua usize_8)), ((ua 0), .inl (E 0, 120, .inl uf0_8)), ((ua 1), .inl (E 0, 120, .inl uf1_8))] → va_S A s.heap H locs → lv_has ls 5 [(3, .int L3_8), (2, .int L2_8), (0, .ref th), (1, .int p0)] → W p l e (headSpec (wl yX6_readProduct cX6_readProduct 5 (some .boolean)) (RM (b + 2) 0 0)).room s m [Value.ref th, .int p0].toArray below meth c H locs 0 0 (MQ below (va_Qi (fun (r : Int32) (u : (Int32) × (Int32) × (Int32) × (Int32) × (Nat → Int32) × (Nat → Int32) × (Int32)) => (0 ≤ u.2.2.2.2.2.2.toInt ∧ u.2.2.2.2.2.2.toInt ≤ 120) ∧ (0 ≤ u.1.toInt ∧ u.1.toInt ≤ tsize.toInt ∧ 0 ≤ u.2.2.2.1.toInt ∧ u.2.2.2.1.toInt ≤ u.1.toInt) ∧ (0 ≤ r.toInt ∧ r.toInt ≤ 1)) (mu_B D A (fun (u : (Int32) × (Int32) × (Int32) × (Int32) × (Nat → Int32) × (Nat → Int32) × (Int32)) => [(th, .inr (6, G6 ta tsize trule twords u.1 u.2.2.1 u.2.2.2.1 u.2.1)), ((ta 0), .inl (E 0, 120, .inl tf0)), (trule, .inr (4, G4 ua u.2.2.2.2.2.2)), ((ua 0), .inl (E 0, 120, .inl u.2.2.2.2.1)), ((ua 1), .inl (E 0, 120, .inl u.2.2.2.2.2.1))])) A) [Value.ref th, .int p0].toArray s 0 0 A) (F0 m 8 ls []) := by
    intro N_13
    induction N_13 with
    | zero => intro L3_8 L2_8 tat_8 tword_8 twordAt_8 tvalue_8 usize_8 uf0_8 uf1_8 H locs ls hm v_usize_8 v0_8 v1_8 _ _ _ _; exfalso; omega
    | succ N_13 ih_12 =>
      intro L3_8 L2_8 tat_8 tword_8 twordAt_8 tvalue_8 usize_8 uf0_8 uf1_8 H locs ls hm v_usize_8 v0_8 v1_8 hP hD hS hl
      have lo_L3_8 := i_lo L3_8; have hi_L3_8 := i_hi L3_8
      have lo_L2_8 := i_lo L2_8; have hi_L2_8 := i_hi L2_8
      have lo_tat_8 := i_lo tat_8; have hi_tat_8 := i_hi tat_8
      have lo_tword_8 := i_lo tword_8; have hi_tword_8 := i_hi tword_8
      have lo_twordAt_8 := i_lo twordAt_8; have hi_twordAt_8 := i_hi twordAt_8
      have lo_tvalue_8 := i_lo tvalue_8; have hi_tvalue_8 := i_hi tvalue_8
      have lo_usize_8 := i_lo usize_8; have hi_usize_8 := i_hi usize_8
      refine lv_iload_n hx hb dX6_readProduct_8 rfl (lv_at hl 0 rfl) ?_
      refine lv_bipush (v := 120) hx hb dX6_readProduct_9 (by decide) ?_
      refine lv_icmp_ge (tgt := 68) hx hb dX6_readProduct_11 (by decide) (fun c_14 => ?_) (fun c_14 => ?_)
      ·
        have ic_14 : 120 ≤ L3_8.toInt := by first | exact (g_le t_120 rfl).mp c_14 | (have h := mt (g_lt rfl t_120).mpr c_14; omega)
        clear c_14
        refine lv_iload_n hx hb dX6_readProduct_68 rfl (lv_at hl 1 rfl) ?_
        have hP9 := hP.sub (ws' := [(th, .inr (6, G6 ta tsize trule twords tat_8 tword_8 twordAt_8 tvalue_8)), ((ta 0), .inl (E 0, 120, .inl tf0)), (trule, .inr (4, G4 ua usize_8)), ((ua 0), .inl (E 0, 120, .inl uf0_8)), ((ua 1), .inl (E 0, 120, .inl uf1_8))]) [0, 1, 2, 3, 4] rfl
        have hD9 := hD.sub (ws' := [(th, .inr (6, G6 ta tsize trule twords tat_8 tword_8 twordAt_8 tvalue_8)), ((ta 0), .inl (E 0, 120, .inl tf0)), (trule, .inr (4, G4 ua usize_8)), ((ua 0), .inl (E 0, 120, .inl uf0_8)), ((ua 1), .inl (E 0, 120, .inl uf1_8))]) [0, 1, 2, 3, 4] (by decide) rfl
        exact W.zret (v := L2_8) hx hb hr (nar_z (by omega) (by omega)) (fun t ht hW => ⟨⟨L2_8, (tat_8, tvalue_8, tword_8, twordAt_8, uf0_8, uf1_8, usize_8), rfl, ⟨(by (try dsimp only); omega), (by (try dsimp only); omega), (by (try dsimp only); omega)⟩, by rw [ht]; exact hP9, hD9⟩, hS.F ht⟩) hS.2.2 dX6_readProduct_69
      ·
        have ic_14 : L3_8.toInt < 120 := by first | exact (g_lt rfl t_120).mp c_14 | (have h := mt (g_le t_120 rfl).mpr c_14; omega)
        clear c_14
        refine lv_iload_n hx hb dX6_readProduct_14 rfl (lv_at hl 1 rfl) ?_
        refine lv_if_eq (tgt := 68) hx hb dX6_readProduct_15 (by decide) (fun c_15 => ?_) (fun c_15 => ?_)
        ·
          have ic_15 : L2_8.toInt = 0 := (g_eq rfl t_0).mp c_15
          clear c_15
          refine lv_iload_n hx hb dX6_readProduct_68 rfl (lv_at hl 1 rfl) ?_
          have hP9 := hP.sub (ws' := [(th, .inr (6, G6 ta tsize trule twords tat_8 tword_8 twordAt_8 tvalue_8)), ((ta 0), .inl (E 0, 120, .inl tf0)), (trule, .inr (4, G4 ua usize_8)), ((ua 0), .inl (E 0, 120, .inl uf0_8)), ((ua 1), .inl (E 0, 120, .inl uf1_8))]) [0, 1, 2, 3, 4] rfl
          have hD9 := hD.sub (ws' := [(th, .inr (6, G6 ta tsize trule twords tat_8 tword_8 twordAt_8 tvalue_8)), ((ta 0), .inl (E 0, 120, .inl tf0)), (trule, .inr (4, G4 ua usize_8)), ((ua 0), .inl (E 0, 120, .inl uf0_8)), ((ua 1), .inl (E 0, 120, .inl uf1_8))]) [0, 1, 2, 3, 4] (by decide) rfl
          exact W.zret (v := L2_8) hx hb hr (nar_z (by omega) (by omega)) (fun t ht hW => ⟨⟨L2_8, (tat_8, tvalue_8, tword_8, twordAt_8, uf0_8, uf1_8, usize_8), rfl, ⟨(by (try dsimp only); omega), (by (try dsimp only); omega), (by (try dsimp only); omega)⟩, by rw [ht]; exact hP9, hD9⟩, hS.F ht⟩) hS.2.2 dX6_readProduct_69
        ·
          have ic_15 : L2_8.toInt ≠ 0 := mt (g_eq rfl t_0).mpr c_15
          clear c_15
          refine lv_aload_n hx hb dX6_readProduct_18 rfl (lv_at hl 2 rfl) ?_
          refine va_get (D := D) (ci := 6) (v := .int tword_8) (C := RX6) (T := TX6) (N := 8) hx hb htb iX6 hown hK.1 hP 0 rfl rfl 5 (by decide) (htb _ k_163) (fun _ h9 => h9) rfl dX6_readProduct_19 ?_
          refine lv_bipush (v := 42) hx hb dX6_readProduct_22 (by decide) ?_
          refine lv_icmp_eq (tgt := 36) hx hb dX6_readProduct_24 (by decide) (fun c_16 => ?_) (fun c_16 => ?_)
          ·
            have ic_16 : tword_8.toInt = 42 := (g_eq rfl t_42).mp c_16
            clear c_16
            refine lv_aload_n hx hb dX6_readProduct_36 rfl (lv_at hl 2 rfl) ?_
            refine va_get (D := D) (ci := 6) (v := .int tword_8) (C := RX6) (T := TX6) (N := 8) hx hb htb iX6 hown hK.1 hP 0 rfl rfl 5 (by decide) (htb _ k_163) (fun _ h9 => h9) rfl dX6_readProduct_37 ?_
            refine lv_istore (lv' := [(4, .int tword_8), (3, .int L3_8), (2, .int L2_8), (0, .ref th), (1, .int p0)]) hx hb dX6_readProduct_40 hl (by decide) rfl (fun ls hl => ?_)
            refine lv_aload_n hx hb dX6_readProduct_42 rfl (lv_at hl 3 rfl) ?_
            have hPc := hP.sub (ws' := [(th, .inr (6, G6 ta tsize trule twords tat_8 tword_8 twordAt_8 tvalue_8)), ((ta 0), .inl (E 0, 120, .inl tf0))]) [0, 1] rfl
            have hDc := hD.sub (ws' := [(th, .inr (6, G6 ta tsize trule twords tat_8 tword_8 twordAt_8 tvalue_8)), ((ta 0), .inl (E 0, 120, .inl tf0))]) [0, 1] (by decide) rfl
            refine aft_v (runMG (rest := []) (As := []) hx hb hml hown htb (g_X6_goOn l D E th ta tsize trule twords tat_8 tword_8 twordAt_8 tvalue_8 tf0 sv sn sf _ (by (try dsimp only); omega) hsn (by (try dsimp only); omega) g1) ok_X6_goOn k_591 k_593 ks_11 k_5 k_594 ⟨show 7 + 1 ≤ b + 2 from by omega, show 8 + (1 + 11) + 40 * (7) ≤ 40 * (b + 2) from by omega⟩ ⟨(Nat.le_of_ble_eq_true rfl), (Nat.le_of_ble_eq_true rfl)⟩ hl.1 (Nat.le_of_ble_eq_true rfl) rfl rfl dX6_readProduct_43 (pmVS hPc hDc hK rfl rfl 0 rfl hG hS (va_free hD hS hA [0, 1] rfl))) hP hD hS hA [0, 1] [2, 3, 4] (wr := [(trule, .inr (4, G4 ua usize_8)), ((ua 0), .inl (E 0, 120, .inl uf0_8)), ((ua 1), .inl (E 0, 120, .inl uf1_8))]) rfl rfl (by decide) (by decide) (fun u_19 H locs hw_18 hP hD hS => ?_)
            clear hPc hDc
            obtain ⟨w_20, w_21, w_22, w_23⟩ := u_19
            try dsimp only at hw_18
            have hP : va_P D vwCl [(trule, .inr (4, G4 ua usize_8)), ((ua 0), .inl (E 0, 120, .inl uf0_8)), ((ua 1), .inl (E 0, 120, .inl uf1_8)), (th, .inr (6, G6 ta tsize trule twords w_20 w_22 w_23 w_21)), ((ta 0), .inl (E 0, 120, .inl tf0))] H := hP
            have hD := toW hP hD rfl
            refine lv_aload_n hx hb dX6_readProduct_46 rfl (lv_at hl 3 rfl) ?_
            refine lv_iload_n hx hb dX6_readProduct_47 rfl (lv_at hl 4 rfl) ?_
            have hPc := hP.sub (ws' := [(th, .inr (6, G6 ta tsize trule twords w_20 w_22 w_23 w_21)), ((ta 0), .inl (E 0, 120, .inl tf0)), (trule, .inr (4, G4 ua usize_8)), ((ua 0), .inl (E 0, 120, .inl uf0_8)), ((ua 1), .inl (E 0, 120, .inl uf1_8))]) [3, 4, 0, 1, 2] rfl
            have hDc := hD.sub (ws' := [(th, .inr (6, G6 ta tsize trule twords w_20 w_22 w_23 w_21)), ((ta 0), .inl (E 0, 120, .inl tf0)), (trule, .inr (4, G4 ua usize_8)), ((ua 0), .inl (E 0, 120, .inl uf0_8)), ((ua 1), .inl (E 0, 120, .inl uf1_8))]) [3, 4, 0, 1, 2] (by decide) rfl
            refine aft_i (runMG (rest := []) (As := [.int p0]) hx hb hml hown htb ((hX) D E th ta tsize trule twords w_20 w_22 w_23 w_21 tf0 ua usize_8 uf0_8 uf1_8 sv sn sf _ (by (try dsimp only); omega) (by (try dsimp only); omega) hsn (by (try dsimp only); omega) g1) ok_X6_readOperand k_692 k_694 ks_22 k_5 k_695 ⟨show b + 1 + 1 ≤ b + 2 from by omega, show 8 + (4 + 11) + 40 * (b + 1) ≤ 40 * (b + 2) from by omega⟩ ⟨(Nat.le_of_ble_eq_true rfl), (Nat.le_of_ble_eq_true rfl)⟩ hl.1 (Nat.le_of_ble_eq_true rfl) rfl rfl dX6_readProduct_48 (pmVS hPc hDc hK rfl rfl 0 rfl hG hS (va_free hD hS hA [3, 4, 0, 1, 2] rfl))) hP hD hS hA [3, 4, 0, 1, 2] [] (wr := ([] : va_W)) rfl rfl (by decide) (by decide) (fun r_24 u_26 H locs hw_25 hP hD hS => ?_)
            clear hPc hDc
            obtain ⟨w_27, w_28, w_29, w_30, w_31, w_32, w_33⟩ := u_26
            try dsimp only at hw_25
            have hP : va_P D vwCl [(th, .inr (6, G6 ta tsize trule twords w_27 w_29 w_30 w_28)), ((ta 0), .inl (E 0, 120, .inl tf0)), (trule, .inr (4, G4 ua w_33)), ((ua 0), .inl (E 0, 120, .inl w_31)), ((ua 1), .inl (E 0, 120, .inl w_32))] H := hP
            have hD := toW hP hD rfl
            obtain ⟨hw_25_0, hw_25_1, hw_25_2⟩ := hw_25
            refine lv_istore_n (lv' := [(2, .int r_24), (4, .int tword_8), (3, .int L3_8), (0, .ref th), (1, .int p0)]) hx hb dX6_readProduct_51 rfl hl (by decide) rfl (fun ls hl => ?_)
            refine lv_aload_n hx hb dX6_readProduct_52 rfl (lv_at hl 3 rfl) ?_
            refine va_get (D := D) (ci := 6) (v := .ref trule) (C := RX6) (T := TX6) (N := 8) hx hb htb iX6 hown hK.1 hP 0 rfl rfl 2 (by decide) (htb _ k_160) (fun _ h9 => h9) rfl dX6_readProduct_53 ?_
            refine lv_iload hx hb dX6_readProduct_56 (lv_at hl 1 rfl) ?_
            refine lv_iconst (v := 0) hx hb dX6_readProduct_58 (by decide) ?_
            have hPc := hP.sub (ws' := [(trule, .inr (4, G4 ua w_33)), ((ua 0), .inl (E 0, 120, .inl w_31)), ((ua 1), .inl (E 0, 120, .inl w_32))]) [2, 3, 4] rfl
            have hDc := hD.sub (ws' := [(trule, .inr (4, G4 ua w_33)), ((ua 0), .inl (E 0, 120, .inl w_31)), ((ua 1), .inl (E 0, 120, .inl w_32))]) [2, 3, 4] (by decide) rfl
            refine aft_v (runMV (rest := []) (As := [.int tword_8, .int 0]) hx hb hml hown htb hK (g_X4_add l D E trule ua w_33 w_31 w_32 tword_8 0 _ (by (try dsimp only); omega)) ok_X4_add k_696 k_697 k_698 k_6 k_699 ⟨show 0 + 1 ≤ b + 2 from by omega, show 8 + (3 + 11) + 40 * (0) ≤ 40 * (b + 2) from by omega⟩ ⟨(Nat.le_of_ble_eq_true rfl), (Nat.le_of_ble_eq_true rfl)⟩ hl.1 (Nat.le_of_ble_eq_true rfl) rfl rfl dX6_readProduct_59 hPc hDc rfl rfl 0 rfl) hP hD hS hA [2, 3, 4] [0, 1] (wr := [(th, .inr (6, G6 ta tsize trule twords w_27 w_29 w_30 w_28)), ((ta 0), .inl (E 0, 120, .inl tf0))]) rfl rfl (by decide) (by decide) (fun u_36 H locs hw_35 hP hD hS => ?_)
            clear hPc hDc
            obtain ⟨w_37, w_38, w_39⟩ := u_36
            try dsimp only at hw_35
            have hP : va_P D vwCl [(th, .inr (6, G6 ta tsize trule twords w_27 w_29 w_30 w_28)), ((ta 0), .inl (E 0, 120, .inl tf0)), (trule, .inr (4, G4 ua w_39)), ((ua 0), .inl (E 0, 120, .inl w_37)), ((ua 1), .inl (E 0, 120, .inl w_38))] H := hP
            have hD := toW hP hD rfl
            try simp only [t_0] at hw_35
            obtain ⟨z_40, ez_40⟩ : ∃ y : Int32, y = L3_8 + 1 := ⟨_, rfl⟩
            have jz_40 : z_40.toInt = L3_8.toInt + 1 := by rw [ez_40]; exact g_add rfl t_1 (by omega) (by omega)
            refine lv_iinc (v := z_40) (lv' := [(3, .int z_40), (2, .int r_24), (4, .int tword_8), (0, .ref th), (1, .int p0)]) hx hb dX6_readProduct_62 hl (k := 2) rfl (by rw [ez_40]; rfl) (by decide) rfl (fun ls hl => ?_)
            refine lv_goto (tgt := 8) hx hb dX6_readProduct_65 (by decide) ?_
            exact ih_12 z_40 r_24 w_27 w_29 w_30 w_28 w_39 w_37 w_38 _ _ _ (by (try dsimp only); omega) (by (try dsimp only); omega) (by (try dsimp only); omega) (by (try dsimp only); omega) hP hD hS (lv_sub hl [0, 1, 3, 4] rfl)
          ·
            have ic_16 : tword_8.toInt ≠ 42 := mt (g_eq rfl t_42).mpr c_16
            clear c_16
            refine lv_aload_n hx hb dX6_readProduct_27 rfl (lv_at hl 2 rfl) ?_
            refine va_get (D := D) (ci := 6) (v := .int tword_8) (C := RX6) (T := TX6) (N := 8) hx hb htb iX6 hown hK.1 hP 0 rfl rfl 5 (by decide) (htb _ k_163) (fun _ h9 => h9) rfl dX6_readProduct_28 ?_
            refine lv_bipush (v := 47) hx hb dX6_readProduct_31 (by decide) ?_
            refine lv_icmp_ne (tgt := 68) hx hb dX6_readProduct_33 (by decide) (fun c_41 => ?_) (fun c_41 => ?_)
            ·
              have ic_41 : tword_8.toInt ≠ 47 := mt (g_eq rfl t_47).mpr c_41
              clear c_41
              refine lv_iload_n hx hb dX6_readProduct_68 rfl (lv_at hl 1 rfl) ?_
              have hP9 := hP.sub (ws' := [(th, .inr (6, G6 ta tsize trule twords tat_8 tword_8 twordAt_8 tvalue_8)), ((ta 0), .inl (E 0, 120, .inl tf0)), (trule, .inr (4, G4 ua usize_8)), ((ua 0), .inl (E 0, 120, .inl uf0_8)), ((ua 1), .inl (E 0, 120, .inl uf1_8))]) [0, 1, 2, 3, 4] rfl
              have hD9 := hD.sub (ws' := [(th, .inr (6, G6 ta tsize trule twords tat_8 tword_8 twordAt_8 tvalue_8)), ((ta 0), .inl (E 0, 120, .inl tf0)), (trule, .inr (4, G4 ua usize_8)), ((ua 0), .inl (E 0, 120, .inl uf0_8)), ((ua 1), .inl (E 0, 120, .inl uf1_8))]) [0, 1, 2, 3, 4] (by decide) rfl
              exact W.zret (v := L2_8) hx hb hr (nar_z (by omega) (by omega)) (fun t ht hW => ⟨⟨L2_8, (tat_8, tvalue_8, tword_8, twordAt_8, uf0_8, uf1_8, usize_8), rfl, ⟨(by (try dsimp only); omega), (by (try dsimp only); omega), (by (try dsimp only); omega)⟩, by rw [ht]; exact hP9, hD9⟩, hS.F ht⟩) hS.2.2 dX6_readProduct_69
            ·
              have ic_41 : tword_8.toInt = 47 := (g_eq rfl t_47).mp c_41
              clear c_41
              refine lv_aload_n hx hb dX6_readProduct_36 rfl (lv_at hl 2 rfl) ?_
              refine va_get (D := D) (ci := 6) (v := .int tword_8) (C := RX6) (T := TX6) (N := 8) hx hb htb iX6 hown hK.1 hP 0 rfl rfl 5 (by decide) (htb _ k_163) (fun _ h9 => h9) rfl dX6_readProduct_37 ?_
              refine lv_istore (lv' := [(4, .int tword_8), (3, .int L3_8), (2, .int L2_8), (0, .ref th), (1, .int p0)]) hx hb dX6_readProduct_40 hl (by decide) rfl (fun ls hl => ?_)
              refine lv_aload_n hx hb dX6_readProduct_42 rfl (lv_at hl 3 rfl) ?_
              have hPc := hP.sub (ws' := [(th, .inr (6, G6 ta tsize trule twords tat_8 tword_8 twordAt_8 tvalue_8)), ((ta 0), .inl (E 0, 120, .inl tf0))]) [0, 1] rfl
              have hDc := hD.sub (ws' := [(th, .inr (6, G6 ta tsize trule twords tat_8 tword_8 twordAt_8 tvalue_8)), ((ta 0), .inl (E 0, 120, .inl tf0))]) [0, 1] (by decide) rfl
              refine aft_v (runMG (rest := []) (As := []) hx hb hml hown htb (g_X6_goOn l D E th ta tsize trule twords tat_8 tword_8 twordAt_8 tvalue_8 tf0 sv sn sf _ (by (try dsimp only); omega) hsn (by (try dsimp only); omega) g1) ok_X6_goOn k_591 k_593 ks_11 k_5 k_594 ⟨show 7 + 1 ≤ b + 2 from by omega, show 8 + (1 + 11) + 40 * (7) ≤ 40 * (b + 2) from by omega⟩ ⟨(Nat.le_of_ble_eq_true rfl), (Nat.le_of_ble_eq_true rfl)⟩ hl.1 (Nat.le_of_ble_eq_true rfl) rfl rfl dX6_readProduct_43 (pmVS hPc hDc hK rfl rfl 0 rfl hG hS (va_free hD hS hA [0, 1] rfl))) hP hD hS hA [0, 1] [2, 3, 4] (wr := [(trule, .inr (4, G4 ua usize_8)), ((ua 0), .inl (E 0, 120, .inl uf0_8)), ((ua 1), .inl (E 0, 120, .inl uf1_8))]) rfl rfl (by decide) (by decide) (fun u_44 H locs hw_43 hP hD hS => ?_)
              clear hPc hDc
              obtain ⟨w_45, w_46, w_47, w_48⟩ := u_44
              try dsimp only at hw_43
              have hP : va_P D vwCl [(trule, .inr (4, G4 ua usize_8)), ((ua 0), .inl (E 0, 120, .inl uf0_8)), ((ua 1), .inl (E 0, 120, .inl uf1_8)), (th, .inr (6, G6 ta tsize trule twords w_45 w_47 w_48 w_46)), ((ta 0), .inl (E 0, 120, .inl tf0))] H := hP
              have hD := toW hP hD rfl
              refine lv_aload_n hx hb dX6_readProduct_46 rfl (lv_at hl 3 rfl) ?_
              refine lv_iload_n hx hb dX6_readProduct_47 rfl (lv_at hl 4 rfl) ?_
              have hPc := hP.sub (ws' := [(th, .inr (6, G6 ta tsize trule twords w_45 w_47 w_48 w_46)), ((ta 0), .inl (E 0, 120, .inl tf0)), (trule, .inr (4, G4 ua usize_8)), ((ua 0), .inl (E 0, 120, .inl uf0_8)), ((ua 1), .inl (E 0, 120, .inl uf1_8))]) [3, 4, 0, 1, 2] rfl
              have hDc := hD.sub (ws' := [(th, .inr (6, G6 ta tsize trule twords w_45 w_47 w_48 w_46)), ((ta 0), .inl (E 0, 120, .inl tf0)), (trule, .inr (4, G4 ua usize_8)), ((ua 0), .inl (E 0, 120, .inl uf0_8)), ((ua 1), .inl (E 0, 120, .inl uf1_8))]) [3, 4, 0, 1, 2] (by decide) rfl
              refine aft_i (runMG (rest := []) (As := [.int p0]) hx hb hml hown htb ((hX) D E th ta tsize trule twords w_45 w_47 w_48 w_46 tf0 ua usize_8 uf0_8 uf1_8 sv sn sf _ (by (try dsimp only); omega) (by (try dsimp only); omega) hsn (by (try dsimp only); omega) g1) ok_X6_readOperand k_692 k_694 ks_22 k_5 k_695 ⟨show b + 1 + 1 ≤ b + 2 from by omega, show 8 + (4 + 11) + 40 * (b + 1) ≤ 40 * (b + 2) from by omega⟩ ⟨(Nat.le_of_ble_eq_true rfl), (Nat.le_of_ble_eq_true rfl)⟩ hl.1 (Nat.le_of_ble_eq_true rfl) rfl rfl dX6_readProduct_48 (pmVS hPc hDc hK rfl rfl 0 rfl hG hS (va_free hD hS hA [3, 4, 0, 1, 2] rfl))) hP hD hS hA [3, 4, 0, 1, 2] [] (wr := ([] : va_W)) rfl rfl (by decide) (by decide) (fun r_49 u_51 H locs hw_50 hP hD hS => ?_)
              clear hPc hDc
              obtain ⟨w_52, w_53, w_54, w_55, w_56, w_57, w_58⟩ := u_51
              try dsimp only at hw_50
              have hP : va_P D vwCl [(th, .inr (6, G6 ta tsize trule twords w_52 w_54 w_55 w_53)), ((ta 0), .inl (E 0, 120, .inl tf0)), (trule, .inr (4, G4 ua w_58)), ((ua 0), .inl (E 0, 120, .inl w_56)), ((ua 1), .inl (E 0, 120, .inl w_57))] H := hP
              have hD := toW hP hD rfl
              obtain ⟨hw_50_0, hw_50_1, hw_50_2⟩ := hw_50
              refine lv_istore_n (lv' := [(2, .int r_49), (4, .int tword_8), (3, .int L3_8), (0, .ref th), (1, .int p0)]) hx hb dX6_readProduct_51 rfl hl (by decide) rfl (fun ls hl => ?_)
              refine lv_aload_n hx hb dX6_readProduct_52 rfl (lv_at hl 3 rfl) ?_
              refine va_get (D := D) (ci := 6) (v := .ref trule) (C := RX6) (T := TX6) (N := 8) hx hb htb iX6 hown hK.1 hP 0 rfl rfl 2 (by decide) (htb _ k_160) (fun _ h9 => h9) rfl dX6_readProduct_53 ?_
              refine lv_iload hx hb dX6_readProduct_56 (lv_at hl 1 rfl) ?_
              refine lv_iconst (v := 0) hx hb dX6_readProduct_58 (by decide) ?_
              have hPc := hP.sub (ws' := [(trule, .inr (4, G4 ua w_58)), ((ua 0), .inl (E 0, 120, .inl w_56)), ((ua 1), .inl (E 0, 120, .inl w_57))]) [2, 3, 4] rfl
              have hDc := hD.sub (ws' := [(trule, .inr (4, G4 ua w_58)), ((ua 0), .inl (E 0, 120, .inl w_56)), ((ua 1), .inl (E 0, 120, .inl w_57))]) [2, 3, 4] (by decide) rfl
              refine aft_v (runMV (rest := []) (As := [.int tword_8, .int 0]) hx hb hml hown htb hK (g_X4_add l D E trule ua w_58 w_56 w_57 tword_8 0 _ (by (try dsimp only); omega)) ok_X4_add k_696 k_697 k_698 k_6 k_699 ⟨show 0 + 1 ≤ b + 2 from by omega, show 8 + (3 + 11) + 40 * (0) ≤ 40 * (b + 2) from by omega⟩ ⟨(Nat.le_of_ble_eq_true rfl), (Nat.le_of_ble_eq_true rfl)⟩ hl.1 (Nat.le_of_ble_eq_true rfl) rfl rfl dX6_readProduct_59 hPc hDc rfl rfl 0 rfl) hP hD hS hA [2, 3, 4] [0, 1] (wr := [(th, .inr (6, G6 ta tsize trule twords w_52 w_54 w_55 w_53)), ((ta 0), .inl (E 0, 120, .inl tf0))]) rfl rfl (by decide) (by decide) (fun u_61 H locs hw_60 hP hD hS => ?_)
              clear hPc hDc
              obtain ⟨w_62, w_63, w_64⟩ := u_61
              try dsimp only at hw_60
              have hP : va_P D vwCl [(th, .inr (6, G6 ta tsize trule twords w_52 w_54 w_55 w_53)), ((ta 0), .inl (E 0, 120, .inl tf0)), (trule, .inr (4, G4 ua w_64)), ((ua 0), .inl (E 0, 120, .inl w_62)), ((ua 1), .inl (E 0, 120, .inl w_63))] H := hP
              have hD := toW hP hD rfl
              try simp only [t_0] at hw_60
              obtain ⟨z_65, ez_65⟩ : ∃ y : Int32, y = L3_8 + 1 := ⟨_, rfl⟩
              have jz_65 : z_65.toInt = L3_8.toInt + 1 := by rw [ez_65]; exact g_add rfl t_1 (by omega) (by omega)
              refine lv_iinc (v := z_65) (lv' := [(3, .int z_65), (2, .int r_49), (4, .int tword_8), (0, .ref th), (1, .int p0)]) hx hb dX6_readProduct_62 hl (k := 2) rfl (by rw [ez_65]; rfl) (by decide) rfl (fun ls hl => ?_)
              refine lv_goto (tgt := 8) hx hb dX6_readProduct_65 (by decide) ?_
              exact ih_12 z_65 r_49 w_52 w_54 w_55 w_53 w_64 w_62 w_63 _ _ _ (by (try dsimp only); omega) (by (try dsimp only); omega) (by (try dsimp only); omega) (by (try dsimp only); omega) hP hD hS (lv_sub hl [0, 1, 3, 4] rfl)
  exact loop_11 121 0 r_1 w_4 w_6 w_7 w_5 w_10 w_8 w_9 _ _ _ (by have h0 := t_0; (try dsimp only); omega) (by (try dsimp only); omega) (by have h0 := t_0; (try dsimp only); omega) (by have h0 := t_0; (try dsimp only); omega) hP hD hS (lv_sub hl [0, 1, 2, 3] rfl)
set_option maxHeartbeats 4000000 in
set_option maxRecDepth 100000 in
theorem g_X6_readSum (l : Launch) (b : Nat) (p0 : Int32) (hb8 : 8 ≤ b) (h15 : 0 ≤ p0.toInt ∧ p0.toInt ≤ 15) (hX : M_X6_readProduct l (b) p0) : M_X6_readSum l (b) p0 := by
  intro D E th ta tsize trule twords tat tword twordAt tvalue tf0 ua usize uf0 uf1 sv sn sf sz hi_t hi_u hsn g0 g1
  refine Met.ofW (cc := cX6_readSum) (maxL := 5) (ret := (some .boolean)) (by decide) rfl ?_
  intro p e s m args below meth c s₁ B hml hv
  obtain ⟨rfl, hsz, hP, hK, hD0, hG⟩ := hv
  have hx := B.exec; have hb := B.bytes; have hr := B.returns
  have hts := atoms_spec (ws := wl yX6_readSum cX6_readSum 5 (some .boolean)) B.pre
  have htb : ∀ w ∈ tb, w.before _ s = true := fun w h => hts w (List.mem_cons_of_mem _ h)
  have hown : s.vm.findClass RX6 = some m.cls := findClass_of_methodNamed B.named
  have hlocks := B.notSynchronized
  subst hsz
  have hD := hD0.self (sz := s.heap.size)
  generalize hAe : va_A [(th, .inr (6, G6 ta tsize trule twords tat tword twordAt tvalue)), ((ta 0), .inl (E 0, 120, .inl tf0)), (trule, .inr (4, G4 ua usize)), ((ua 0), .inl (E 0, 120, .inl uf0)), ((ua 1), .inl (E 0, 120, .inl uf1))] s.heap.size = A at hD hG ⊢
  have hA : ∀ q : Nat, s.heap.size ≤ q → A q := fun q h => by rw [← hAe]; exact Or.inr h
  have hS : va_S A s.heap s.heap [] := va_S.rf
  have hP : va_P D vwCl [(th, .inr (6, G6 ta tsize trule twords tat tword twordAt tvalue)), ((ta 0), .inl (E 0, 120, .inl tf0)), (trule, .inr (4, G4 ua usize)), ((ua 0), .inl (E 0, 120, .inl uf0)), ((ua 1), .inl (E 0, 120, .inl uf1))] s.heap := hP
  have hl := lv_entry ([.ref th, .int p0]) (n := 5) (Nat.le_of_ble_eq_true rfl)
  rw [lg_entry_eq]
  generalize (lg_sl ([.ref th, .int p0]) ++ List.replicate (5 - (lg_sl ([.ref th, .int p0])).length) Slot.unset).toArray = ls at hl ⊢
  have hl : lv_has ls 5 [(0, .ref th), (1, .int p0)] := hl
  have lo_p0 := i_lo p0; have hi_p0 := i_hi p0
  refine lv_aload_n hx hb dX6_readSum_0 rfl (lv_at hl 0 rfl) ?_
  refine lv_iload_n hx hb dX6_readSum_1 rfl (lv_at hl 1 rfl) ?_
  have hPc := hP.sub (ws' := [(th, .inr (6, G6 ta tsize trule twords tat tword twordAt tvalue)), ((ta 0), .inl (E 0, 120, .inl tf0)), (trule, .inr (4, G4 ua usize)), ((ua 0), .inl (E 0, 120, .inl uf0)), ((ua 1), .inl (E 0, 120, .inl uf1))]) [0, 1, 2, 3, 4] rfl
  have hDc := hD.sub (ws' := [(th, .inr (6, G6 ta tsize trule twords tat tword twordAt tvalue)), ((ta 0), .inl (E 0, 120, .inl tf0)), (trule, .inr (4, G4 ua usize)), ((ua 0), .inl (E 0, 120, .inl uf0)), ((ua 1), .inl (E 0, 120, .inl uf1))]) [0, 1, 2, 3, 4] (by decide) rfl
  refine aft_i (runMG (rest := []) (As := [.int p0]) hx hb hml hown htb ((hX) D E th ta tsize trule twords tat tword twordAt tvalue tf0 ua usize uf0 uf1 sv sn sf _ (by (try dsimp only); omega) (by (try dsimp only); omega) hsn (by (try dsimp only); omega) g1) ok_X6_readProduct k_688 k_690 ks_21 k_5 k_691 ⟨show b + 2 + 1 ≤ b + 3 from by omega, show 8 + (5 + 11) + 40 * (b + 2) ≤ 40 * (b + 3) from by omega⟩ ⟨(Nat.le_of_ble_eq_true rfl), (Nat.le_of_ble_eq_true rfl)⟩ hl.1 (Nat.le_of_ble_eq_true rfl) rfl rfl dX6_readSum_2 (pmVS hPc hDc hK rfl rfl 0 rfl hG hS (va_free hD hS hA [0, 1, 2, 3, 4] rfl))) hP hD hS hA [0, 1, 2, 3, 4] [] (wr := ([] : va_W)) rfl rfl (by decide) (by decide) (fun r_1 u_3 H locs hw_2 hP hD hS => ?_)
  clear hPc hDc
  obtain ⟨w_4, w_5, w_6, w_7, w_8, w_9, w_10⟩ := u_3
  try dsimp only at hw_2
  have hP : va_P D vwCl [(th, .inr (6, G6 ta tsize trule twords w_4 w_6 w_7 w_5)), ((ta 0), .inl (E 0, 120, .inl tf0)), (trule, .inr (4, G4 ua w_10)), ((ua 0), .inl (E 0, 120, .inl w_8)), ((ua 1), .inl (E 0, 120, .inl w_9))] H := hP
  have hD := toW hP hD rfl
  obtain ⟨hw_2_0, hw_2_1, hw_2_2⟩ := hw_2
  refine lv_istore_n (lv' := [(2, .int r_1), (0, .ref th), (1, .int p0)]) hx hb dX6_readSum_5 rfl hl (by decide) rfl (fun ls hl => ?_)
  refine lv_iconst (v := 0) hx hb dX6_readSum_6 (by decide) ?_
  refine lv_istore_n (lv' := [(3, .int 0), (2, .int r_1), (0, .ref th), (1, .int p0)]) hx hb dX6_readSum_7 rfl hl (by decide) rfl (fun ls hl => ?_)
  have loop_11 : ∀ (N_13 : Nat) (L3_8 : Int32) (L2_8 : Int32) (tat_8 : Int32) (tword_8 : Int32) (twordAt_8 : Int32) (tvalue_8 : Int32) (usize_8 : Int32) (uf0_8 : Nat → Int32) (uf1_8 : Nat → Int32) (H : Heap) (locs : List Loc) (ls : Array Slot), 120 - L3_8.toInt < (N_13 : Int) → (0 ≤ usize_8.toInt ∧ usize_8.toInt ≤ 120) → (0 ≤ L3_8.toInt ∧ L3_8.toInt ≤ 120 ∧ 0 ≤ L2_8.toInt ∧ L2_8.toInt ≤ 1) → (0 ≤ tat_8.toInt ∧ tat_8.toInt ≤ tsize.toInt ∧ 0 ≤ twordAt_8.toInt ∧ twordAt_8.toInt ≤ tat_8.toInt) → va_P D vwCl [(th, .inr (6, G6 ta tsize trule twords tat_8 tword_8 twordAt_8 tvalue_8)), ((ta 0), .inl (E 0, 120, .inl tf0)), (trule, .inr (4, G4 ua usize_8)), ((ua 0), .inl (E 0, 120, .inl uf0_8)), ((ua 1), .inl (E 0, 120, .inl uf1_8))] H → va_D A [(th, .inr (6, G6 ta tsize trule twords tat_8 tword_8 twordAt_8 tvalue_8)), ((ta 0), .inl (E 0, 120, .inl tf0)), (trule, .inr (4, G4 ua usize_8)), ((ua 0), .inl (E 0, 120, .inl uf0_8)), ((ua 1), .inl (E 0, 120, .inl uf1_8))] → va_S A s.heap H locs → lv_has ls 5 [(3, .int L3_8), (2, .int L2_8), (0, .ref th), (1, .int p0)] → W p l e (headSpec (wl yX6_readSum cX6_readSum 5 (some .boolean)) (RM (b + 3) 0 0)).room s m [Value.ref th, .int p0].toArray below meth c H locs 0 0 (MQ below (va_Qi (fun (r : Int32) (u : (Int32) × (Int32) × (Int32) × (Int32) × (Nat → Int32) × (Nat → Int32) × (Int32)) => (0 ≤ u.2.2.2.2.2.2.toInt ∧ u.2.2.2.2.2.2.toInt ≤ 120) ∧ (0 ≤ u.1.toInt ∧ u.1.toInt ≤ tsize.toInt ∧ 0 ≤ u.2.2.2.1.toInt ∧ u.2.2.2.1.toInt ≤ u.1.toInt) ∧ (0 ≤ r.toInt ∧ r.toInt ≤ 1)) (mu_B D A (fun (u : (Int32) × (Int32) × (Int32) × (Int32) × (Nat → Int32) × (Nat → Int32) × (Int32)) => [(th, .inr (6, G6 ta tsize trule twords u.1 u.2.2.1 u.2.2.2.1 u.2.1)), ((ta 0), .inl (E 0, 120, .inl tf0)), (trule, .inr (4, G4 ua u.2.2.2.2.2.2)), ((ua 0), .inl (E 0, 120, .inl u.2.2.2.2.1)), ((ua 1), .inl (E 0, 120, .inl u.2.2.2.2.2.1))])) A) [Value.ref th, .int p0].toArray s 0 0 A) (F0 m 8 ls []) := by
    intro N_13
    induction N_13 with
    | zero => intro L3_8 L2_8 tat_8 tword_8 twordAt_8 tvalue_8 usize_8 uf0_8 uf1_8 H locs ls hm v_usize_8 v0_8 v1_8 _ _ _ _; exfalso; omega
    | succ N_13 ih_12 =>
      intro L3_8 L2_8 tat_8 tword_8 twordAt_8 tvalue_8 usize_8 uf0_8 uf1_8 H locs ls hm v_usize_8 v0_8 v1_8 hP hD hS hl
      have lo_L3_8 := i_lo L3_8; have hi_L3_8 := i_hi L3_8
      have lo_L2_8 := i_lo L2_8; have hi_L2_8 := i_hi L2_8
      have lo_tat_8 := i_lo tat_8; have hi_tat_8 := i_hi tat_8
      have lo_tword_8 := i_lo tword_8; have hi_tword_8 := i_hi tword_8
      have lo_twordAt_8 := i_lo twordAt_8; have hi_twordAt_8 := i_hi twordAt_8
      have lo_tvalue_8 := i_lo tvalue_8; have hi_tvalue_8 := i_hi tvalue_8
      have lo_usize_8 := i_lo usize_8; have hi_usize_8 := i_hi usize_8
      refine lv_iload_n hx hb dX6_readSum_8 rfl (lv_at hl 0 rfl) ?_
      refine lv_bipush (v := 120) hx hb dX6_readSum_9 (by decide) ?_
      refine lv_icmp_ge (tgt := 68) hx hb dX6_readSum_11 (by decide) (fun c_14 => ?_) (fun c_14 => ?_)
      ·
        have ic_14 : 120 ≤ L3_8.toInt := by first | exact (g_le t_120 rfl).mp c_14 | (have h := mt (g_lt rfl t_120).mpr c_14; omega)
        clear c_14
        refine lv_iload_n hx hb dX6_readSum_68 rfl (lv_at hl 1 rfl) ?_
        have hP9 := hP.sub (ws' := [(th, .inr (6, G6 ta tsize trule twords tat_8 tword_8 twordAt_8 tvalue_8)), ((ta 0), .inl (E 0, 120, .inl tf0)), (trule, .inr (4, G4 ua usize_8)), ((ua 0), .inl (E 0, 120, .inl uf0_8)), ((ua 1), .inl (E 0, 120, .inl uf1_8))]) [0, 1, 2, 3, 4] rfl
        have hD9 := hD.sub (ws' := [(th, .inr (6, G6 ta tsize trule twords tat_8 tword_8 twordAt_8 tvalue_8)), ((ta 0), .inl (E 0, 120, .inl tf0)), (trule, .inr (4, G4 ua usize_8)), ((ua 0), .inl (E 0, 120, .inl uf0_8)), ((ua 1), .inl (E 0, 120, .inl uf1_8))]) [0, 1, 2, 3, 4] (by decide) rfl
        exact W.zret (v := L2_8) hx hb hr (nar_z (by omega) (by omega)) (fun t ht hW => ⟨⟨L2_8, (tat_8, tvalue_8, tword_8, twordAt_8, uf0_8, uf1_8, usize_8), rfl, ⟨(by (try dsimp only); omega), (by (try dsimp only); omega), (by (try dsimp only); omega)⟩, by rw [ht]; exact hP9, hD9⟩, hS.F ht⟩) hS.2.2 dX6_readSum_69
      ·
        have ic_14 : L3_8.toInt < 120 := by first | exact (g_lt rfl t_120).mp c_14 | (have h := mt (g_le t_120 rfl).mpr c_14; omega)
        clear c_14
        refine lv_iload_n hx hb dX6_readSum_14 rfl (lv_at hl 1 rfl) ?_
        refine lv_if_eq (tgt := 68) hx hb dX6_readSum_15 (by decide) (fun c_15 => ?_) (fun c_15 => ?_)
        ·
          have ic_15 : L2_8.toInt = 0 := (g_eq rfl t_0).mp c_15
          clear c_15
          refine lv_iload_n hx hb dX6_readSum_68 rfl (lv_at hl 1 rfl) ?_
          have hP9 := hP.sub (ws' := [(th, .inr (6, G6 ta tsize trule twords tat_8 tword_8 twordAt_8 tvalue_8)), ((ta 0), .inl (E 0, 120, .inl tf0)), (trule, .inr (4, G4 ua usize_8)), ((ua 0), .inl (E 0, 120, .inl uf0_8)), ((ua 1), .inl (E 0, 120, .inl uf1_8))]) [0, 1, 2, 3, 4] rfl
          have hD9 := hD.sub (ws' := [(th, .inr (6, G6 ta tsize trule twords tat_8 tword_8 twordAt_8 tvalue_8)), ((ta 0), .inl (E 0, 120, .inl tf0)), (trule, .inr (4, G4 ua usize_8)), ((ua 0), .inl (E 0, 120, .inl uf0_8)), ((ua 1), .inl (E 0, 120, .inl uf1_8))]) [0, 1, 2, 3, 4] (by decide) rfl
          exact W.zret (v := L2_8) hx hb hr (nar_z (by omega) (by omega)) (fun t ht hW => ⟨⟨L2_8, (tat_8, tvalue_8, tword_8, twordAt_8, uf0_8, uf1_8, usize_8), rfl, ⟨(by (try dsimp only); omega), (by (try dsimp only); omega), (by (try dsimp only); omega)⟩, by rw [ht]; exact hP9, hD9⟩, hS.F ht⟩) hS.2.2 dX6_readSum_69
        ·
          have ic_15 : L2_8.toInt ≠ 0 := mt (g_eq rfl t_0).mpr c_15
          clear c_15
          refine lv_aload_n hx hb dX6_readSum_18 rfl (lv_at hl 2 rfl) ?_
          refine va_get (D := D) (ci := 6) (v := .int tword_8) (C := RX6) (T := TX6) (N := 8) hx hb htb iX6 hown hK.1 hP 0 rfl rfl 5 (by decide) (htb _ k_163) (fun _ h9 => h9) rfl dX6_readSum_19 ?_
          refine lv_bipush (v := 43) hx hb dX6_readSum_22 (by decide) ?_
          refine lv_icmp_eq (tgt := 36) hx hb dX6_readSum_24 (by decide) (fun c_16 => ?_) (fun c_16 => ?_)
          ·
            have ic_16 : tword_8.toInt = 43 := (g_eq rfl t_43).mp c_16
            clear c_16
            refine lv_aload_n hx hb dX6_readSum_36 rfl (lv_at hl 2 rfl) ?_
            refine va_get (D := D) (ci := 6) (v := .int tword_8) (C := RX6) (T := TX6) (N := 8) hx hb htb iX6 hown hK.1 hP 0 rfl rfl 5 (by decide) (htb _ k_163) (fun _ h9 => h9) rfl dX6_readSum_37 ?_
            refine lv_istore (lv' := [(4, .int tword_8), (3, .int L3_8), (2, .int L2_8), (0, .ref th), (1, .int p0)]) hx hb dX6_readSum_40 hl (by decide) rfl (fun ls hl => ?_)
            refine lv_aload_n hx hb dX6_readSum_42 rfl (lv_at hl 3 rfl) ?_
            have hPc := hP.sub (ws' := [(th, .inr (6, G6 ta tsize trule twords tat_8 tword_8 twordAt_8 tvalue_8)), ((ta 0), .inl (E 0, 120, .inl tf0))]) [0, 1] rfl
            have hDc := hD.sub (ws' := [(th, .inr (6, G6 ta tsize trule twords tat_8 tword_8 twordAt_8 tvalue_8)), ((ta 0), .inl (E 0, 120, .inl tf0))]) [0, 1] (by decide) rfl
            refine aft_v (runMG (rest := []) (As := []) hx hb hml hown htb (g_X6_goOn l D E th ta tsize trule twords tat_8 tword_8 twordAt_8 tvalue_8 tf0 sv sn sf _ (by (try dsimp only); omega) hsn (by (try dsimp only); omega) g1) ok_X6_goOn k_591 k_593 ks_11 k_5 k_594 ⟨show 7 + 1 ≤ b + 3 from by omega, show 8 + (1 + 11) + 40 * (7) ≤ 40 * (b + 3) from by omega⟩ ⟨(Nat.le_of_ble_eq_true rfl), (Nat.le_of_ble_eq_true rfl)⟩ hl.1 (Nat.le_of_ble_eq_true rfl) rfl rfl dX6_readSum_43 (pmVS hPc hDc hK rfl rfl 0 rfl hG hS (va_free hD hS hA [0, 1] rfl))) hP hD hS hA [0, 1] [2, 3, 4] (wr := [(trule, .inr (4, G4 ua usize_8)), ((ua 0), .inl (E 0, 120, .inl uf0_8)), ((ua 1), .inl (E 0, 120, .inl uf1_8))]) rfl rfl (by decide) (by decide) (fun u_19 H locs hw_18 hP hD hS => ?_)
            clear hPc hDc
            obtain ⟨w_20, w_21, w_22, w_23⟩ := u_19
            try dsimp only at hw_18
            have hP : va_P D vwCl [(trule, .inr (4, G4 ua usize_8)), ((ua 0), .inl (E 0, 120, .inl uf0_8)), ((ua 1), .inl (E 0, 120, .inl uf1_8)), (th, .inr (6, G6 ta tsize trule twords w_20 w_22 w_23 w_21)), ((ta 0), .inl (E 0, 120, .inl tf0))] H := hP
            have hD := toW hP hD rfl
            refine lv_aload_n hx hb dX6_readSum_46 rfl (lv_at hl 3 rfl) ?_
            refine lv_iload_n hx hb dX6_readSum_47 rfl (lv_at hl 4 rfl) ?_
            have hPc := hP.sub (ws' := [(th, .inr (6, G6 ta tsize trule twords w_20 w_22 w_23 w_21)), ((ta 0), .inl (E 0, 120, .inl tf0)), (trule, .inr (4, G4 ua usize_8)), ((ua 0), .inl (E 0, 120, .inl uf0_8)), ((ua 1), .inl (E 0, 120, .inl uf1_8))]) [3, 4, 0, 1, 2] rfl
            have hDc := hD.sub (ws' := [(th, .inr (6, G6 ta tsize trule twords w_20 w_22 w_23 w_21)), ((ta 0), .inl (E 0, 120, .inl tf0)), (trule, .inr (4, G4 ua usize_8)), ((ua 0), .inl (E 0, 120, .inl uf0_8)), ((ua 1), .inl (E 0, 120, .inl uf1_8))]) [3, 4, 0, 1, 2] (by decide) rfl
            refine aft_i (runMG (rest := []) (As := [.int p0]) hx hb hml hown htb ((hX) D E th ta tsize trule twords w_20 w_22 w_23 w_21 tf0 ua usize_8 uf0_8 uf1_8 sv sn sf _ (by (try dsimp only); omega) (by (try dsimp only); omega) hsn (by (try dsimp only); omega) g1) ok_X6_readProduct k_688 k_690 ks_21 k_5 k_691 ⟨show b + 2 + 1 ≤ b + 3 from by omega, show 8 + (5 + 11) + 40 * (b + 2) ≤ 40 * (b + 3) from by omega⟩ ⟨(Nat.le_of_ble_eq_true rfl), (Nat.le_of_ble_eq_true rfl)⟩ hl.1 (Nat.le_of_ble_eq_true rfl) rfl rfl dX6_readSum_48 (pmVS hPc hDc hK rfl rfl 0 rfl hG hS (va_free hD hS hA [3, 4, 0, 1, 2] rfl))) hP hD hS hA [3, 4, 0, 1, 2] [] (wr := ([] : va_W)) rfl rfl (by decide) (by decide) (fun r_24 u_26 H locs hw_25 hP hD hS => ?_)
            clear hPc hDc
            obtain ⟨w_27, w_28, w_29, w_30, w_31, w_32, w_33⟩ := u_26
            try dsimp only at hw_25
            have hP : va_P D vwCl [(th, .inr (6, G6 ta tsize trule twords w_27 w_29 w_30 w_28)), ((ta 0), .inl (E 0, 120, .inl tf0)), (trule, .inr (4, G4 ua w_33)), ((ua 0), .inl (E 0, 120, .inl w_31)), ((ua 1), .inl (E 0, 120, .inl w_32))] H := hP
            have hD := toW hP hD rfl
            obtain ⟨hw_25_0, hw_25_1, hw_25_2⟩ := hw_25
            refine lv_istore_n (lv' := [(2, .int r_24), (4, .int tword_8), (3, .int L3_8), (0, .ref th), (1, .int p0)]) hx hb dX6_readSum_51 rfl hl (by decide) rfl (fun ls hl => ?_)
            refine lv_aload_n hx hb dX6_readSum_52 rfl (lv_at hl 3 rfl) ?_
            refine va_get (D := D) (ci := 6) (v := .ref trule) (C := RX6) (T := TX6) (N := 8) hx hb htb iX6 hown hK.1 hP 0 rfl rfl 2 (by decide) (htb _ k_160) (fun _ h9 => h9) rfl dX6_readSum_53 ?_
            refine lv_iload hx hb dX6_readSum_56 (lv_at hl 1 rfl) ?_
            refine lv_iconst (v := 0) hx hb dX6_readSum_58 (by decide) ?_
            have hPc := hP.sub (ws' := [(trule, .inr (4, G4 ua w_33)), ((ua 0), .inl (E 0, 120, .inl w_31)), ((ua 1), .inl (E 0, 120, .inl w_32))]) [2, 3, 4] rfl
            have hDc := hD.sub (ws' := [(trule, .inr (4, G4 ua w_33)), ((ua 0), .inl (E 0, 120, .inl w_31)), ((ua 1), .inl (E 0, 120, .inl w_32))]) [2, 3, 4] (by decide) rfl
            refine aft_v (runMV (rest := []) (As := [.int tword_8, .int 0]) hx hb hml hown htb hK (g_X4_add l D E trule ua w_33 w_31 w_32 tword_8 0 _ (by (try dsimp only); omega)) ok_X4_add k_696 k_697 k_698 k_6 k_699 ⟨show 0 + 1 ≤ b + 3 from by omega, show 8 + (3 + 11) + 40 * (0) ≤ 40 * (b + 3) from by omega⟩ ⟨(Nat.le_of_ble_eq_true rfl), (Nat.le_of_ble_eq_true rfl)⟩ hl.1 (Nat.le_of_ble_eq_true rfl) rfl rfl dX6_readSum_59 hPc hDc rfl rfl 0 rfl) hP hD hS hA [2, 3, 4] [0, 1] (wr := [(th, .inr (6, G6 ta tsize trule twords w_27 w_29 w_30 w_28)), ((ta 0), .inl (E 0, 120, .inl tf0))]) rfl rfl (by decide) (by decide) (fun u_36 H locs hw_35 hP hD hS => ?_)
            clear hPc hDc
            obtain ⟨w_37, w_38, w_39⟩ := u_36
            try dsimp only at hw_35
            have hP : va_P D vwCl [(th, .inr (6, G6 ta tsize trule twords w_27 w_29 w_30 w_28)), ((ta 0), .inl (E 0, 120, .inl tf0)), (trule, .inr (4, G4 ua w_39)), ((ua 0), .inl (E 0, 120, .inl w_37)), ((ua 1), .inl (E 0, 120, .inl w_38))] H := hP
            have hD := toW hP hD rfl
            try simp only [t_0] at hw_35
            obtain ⟨z_40, ez_40⟩ : ∃ y : Int32, y = L3_8 + 1 := ⟨_, rfl⟩
            have jz_40 : z_40.toInt = L3_8.toInt + 1 := by rw [ez_40]; exact g_add rfl t_1 (by omega) (by omega)
            refine lv_iinc (v := z_40) (lv' := [(3, .int z_40), (2, .int r_24), (4, .int tword_8), (0, .ref th), (1, .int p0)]) hx hb dX6_readSum_62 hl (k := 2) rfl (by rw [ez_40]; rfl) (by decide) rfl (fun ls hl => ?_)
            refine lv_goto (tgt := 8) hx hb dX6_readSum_65 (by decide) ?_
            exact ih_12 z_40 r_24 w_27 w_29 w_30 w_28 w_39 w_37 w_38 _ _ _ (by (try dsimp only); omega) (by (try dsimp only); omega) (by (try dsimp only); omega) (by (try dsimp only); omega) hP hD hS (lv_sub hl [0, 1, 3, 4] rfl)
          ·
            have ic_16 : tword_8.toInt ≠ 43 := mt (g_eq rfl t_43).mpr c_16
            clear c_16
            refine lv_aload_n hx hb dX6_readSum_27 rfl (lv_at hl 2 rfl) ?_
            refine va_get (D := D) (ci := 6) (v := .int tword_8) (C := RX6) (T := TX6) (N := 8) hx hb htb iX6 hown hK.1 hP 0 rfl rfl 5 (by decide) (htb _ k_163) (fun _ h9 => h9) rfl dX6_readSum_28 ?_
            refine lv_bipush (v := 45) hx hb dX6_readSum_31 (by decide) ?_
            refine lv_icmp_ne (tgt := 68) hx hb dX6_readSum_33 (by decide) (fun c_41 => ?_) (fun c_41 => ?_)
            ·
              have ic_41 : tword_8.toInt ≠ 45 := mt (g_eq rfl t_45).mpr c_41
              clear c_41
              refine lv_iload_n hx hb dX6_readSum_68 rfl (lv_at hl 1 rfl) ?_
              have hP9 := hP.sub (ws' := [(th, .inr (6, G6 ta tsize trule twords tat_8 tword_8 twordAt_8 tvalue_8)), ((ta 0), .inl (E 0, 120, .inl tf0)), (trule, .inr (4, G4 ua usize_8)), ((ua 0), .inl (E 0, 120, .inl uf0_8)), ((ua 1), .inl (E 0, 120, .inl uf1_8))]) [0, 1, 2, 3, 4] rfl
              have hD9 := hD.sub (ws' := [(th, .inr (6, G6 ta tsize trule twords tat_8 tword_8 twordAt_8 tvalue_8)), ((ta 0), .inl (E 0, 120, .inl tf0)), (trule, .inr (4, G4 ua usize_8)), ((ua 0), .inl (E 0, 120, .inl uf0_8)), ((ua 1), .inl (E 0, 120, .inl uf1_8))]) [0, 1, 2, 3, 4] (by decide) rfl
              exact W.zret (v := L2_8) hx hb hr (nar_z (by omega) (by omega)) (fun t ht hW => ⟨⟨L2_8, (tat_8, tvalue_8, tword_8, twordAt_8, uf0_8, uf1_8, usize_8), rfl, ⟨(by (try dsimp only); omega), (by (try dsimp only); omega), (by (try dsimp only); omega)⟩, by rw [ht]; exact hP9, hD9⟩, hS.F ht⟩) hS.2.2 dX6_readSum_69
            ·
              have ic_41 : tword_8.toInt = 45 := (g_eq rfl t_45).mp c_41
              clear c_41
              refine lv_aload_n hx hb dX6_readSum_36 rfl (lv_at hl 2 rfl) ?_
              refine va_get (D := D) (ci := 6) (v := .int tword_8) (C := RX6) (T := TX6) (N := 8) hx hb htb iX6 hown hK.1 hP 0 rfl rfl 5 (by decide) (htb _ k_163) (fun _ h9 => h9) rfl dX6_readSum_37 ?_
              refine lv_istore (lv' := [(4, .int tword_8), (3, .int L3_8), (2, .int L2_8), (0, .ref th), (1, .int p0)]) hx hb dX6_readSum_40 hl (by decide) rfl (fun ls hl => ?_)
              refine lv_aload_n hx hb dX6_readSum_42 rfl (lv_at hl 3 rfl) ?_
              have hPc := hP.sub (ws' := [(th, .inr (6, G6 ta tsize trule twords tat_8 tword_8 twordAt_8 tvalue_8)), ((ta 0), .inl (E 0, 120, .inl tf0))]) [0, 1] rfl
              have hDc := hD.sub (ws' := [(th, .inr (6, G6 ta tsize trule twords tat_8 tword_8 twordAt_8 tvalue_8)), ((ta 0), .inl (E 0, 120, .inl tf0))]) [0, 1] (by decide) rfl
              refine aft_v (runMG (rest := []) (As := []) hx hb hml hown htb (g_X6_goOn l D E th ta tsize trule twords tat_8 tword_8 twordAt_8 tvalue_8 tf0 sv sn sf _ (by (try dsimp only); omega) hsn (by (try dsimp only); omega) g1) ok_X6_goOn k_591 k_593 ks_11 k_5 k_594 ⟨show 7 + 1 ≤ b + 3 from by omega, show 8 + (1 + 11) + 40 * (7) ≤ 40 * (b + 3) from by omega⟩ ⟨(Nat.le_of_ble_eq_true rfl), (Nat.le_of_ble_eq_true rfl)⟩ hl.1 (Nat.le_of_ble_eq_true rfl) rfl rfl dX6_readSum_43 (pmVS hPc hDc hK rfl rfl 0 rfl hG hS (va_free hD hS hA [0, 1] rfl))) hP hD hS hA [0, 1] [2, 3, 4] (wr := [(trule, .inr (4, G4 ua usize_8)), ((ua 0), .inl (E 0, 120, .inl uf0_8)), ((ua 1), .inl (E 0, 120, .inl uf1_8))]) rfl rfl (by decide) (by decide) (fun u_44 H locs hw_43 hP hD hS => ?_)
              clear hPc hDc
              obtain ⟨w_45, w_46, w_47, w_48⟩ := u_44
              try dsimp only at hw_43
              have hP : va_P D vwCl [(trule, .inr (4, G4 ua usize_8)), ((ua 0), .inl (E 0, 120, .inl uf0_8)), ((ua 1), .inl (E 0, 120, .inl uf1_8)), (th, .inr (6, G6 ta tsize trule twords w_45 w_47 w_48 w_46)), ((ta 0), .inl (E 0, 120, .inl tf0))] H := hP
              have hD := toW hP hD rfl
              refine lv_aload_n hx hb dX6_readSum_46 rfl (lv_at hl 3 rfl) ?_
              refine lv_iload_n hx hb dX6_readSum_47 rfl (lv_at hl 4 rfl) ?_
              have hPc := hP.sub (ws' := [(th, .inr (6, G6 ta tsize trule twords w_45 w_47 w_48 w_46)), ((ta 0), .inl (E 0, 120, .inl tf0)), (trule, .inr (4, G4 ua usize_8)), ((ua 0), .inl (E 0, 120, .inl uf0_8)), ((ua 1), .inl (E 0, 120, .inl uf1_8))]) [3, 4, 0, 1, 2] rfl
              have hDc := hD.sub (ws' := [(th, .inr (6, G6 ta tsize trule twords w_45 w_47 w_48 w_46)), ((ta 0), .inl (E 0, 120, .inl tf0)), (trule, .inr (4, G4 ua usize_8)), ((ua 0), .inl (E 0, 120, .inl uf0_8)), ((ua 1), .inl (E 0, 120, .inl uf1_8))]) [3, 4, 0, 1, 2] (by decide) rfl
              refine aft_i (runMG (rest := []) (As := [.int p0]) hx hb hml hown htb ((hX) D E th ta tsize trule twords w_45 w_47 w_48 w_46 tf0 ua usize_8 uf0_8 uf1_8 sv sn sf _ (by (try dsimp only); omega) (by (try dsimp only); omega) hsn (by (try dsimp only); omega) g1) ok_X6_readProduct k_688 k_690 ks_21 k_5 k_691 ⟨show b + 2 + 1 ≤ b + 3 from by omega, show 8 + (5 + 11) + 40 * (b + 2) ≤ 40 * (b + 3) from by omega⟩ ⟨(Nat.le_of_ble_eq_true rfl), (Nat.le_of_ble_eq_true rfl)⟩ hl.1 (Nat.le_of_ble_eq_true rfl) rfl rfl dX6_readSum_48 (pmVS hPc hDc hK rfl rfl 0 rfl hG hS (va_free hD hS hA [3, 4, 0, 1, 2] rfl))) hP hD hS hA [3, 4, 0, 1, 2] [] (wr := ([] : va_W)) rfl rfl (by decide) (by decide) (fun r_49 u_51 H locs hw_50 hP hD hS => ?_)
              clear hPc hDc
              obtain ⟨w_52, w_53, w_54, w_55, w_56, w_57, w_58⟩ := u_51
              try dsimp only at hw_50
              have hP : va_P D vwCl [(th, .inr (6, G6 ta tsize trule twords w_52 w_54 w_55 w_53)), ((ta 0), .inl (E 0, 120, .inl tf0)), (trule, .inr (4, G4 ua w_58)), ((ua 0), .inl (E 0, 120, .inl w_56)), ((ua 1), .inl (E 0, 120, .inl w_57))] H := hP
              have hD := toW hP hD rfl
              obtain ⟨hw_50_0, hw_50_1, hw_50_2⟩ := hw_50
              refine lv_istore_n (lv' := [(2, .int r_49), (4, .int tword_8), (3, .int L3_8), (0, .ref th), (1, .int p0)]) hx hb dX6_readSum_51 rfl hl (by decide) rfl (fun ls hl => ?_)
              refine lv_aload_n hx hb dX6_readSum_52 rfl (lv_at hl 3 rfl) ?_
              refine va_get (D := D) (ci := 6) (v := .ref trule) (C := RX6) (T := TX6) (N := 8) hx hb htb iX6 hown hK.1 hP 0 rfl rfl 2 (by decide) (htb _ k_160) (fun _ h9 => h9) rfl dX6_readSum_53 ?_
              refine lv_iload hx hb dX6_readSum_56 (lv_at hl 1 rfl) ?_
              refine lv_iconst (v := 0) hx hb dX6_readSum_58 (by decide) ?_
              have hPc := hP.sub (ws' := [(trule, .inr (4, G4 ua w_58)), ((ua 0), .inl (E 0, 120, .inl w_56)), ((ua 1), .inl (E 0, 120, .inl w_57))]) [2, 3, 4] rfl
              have hDc := hD.sub (ws' := [(trule, .inr (4, G4 ua w_58)), ((ua 0), .inl (E 0, 120, .inl w_56)), ((ua 1), .inl (E 0, 120, .inl w_57))]) [2, 3, 4] (by decide) rfl
              refine aft_v (runMV (rest := []) (As := [.int tword_8, .int 0]) hx hb hml hown htb hK (g_X4_add l D E trule ua w_58 w_56 w_57 tword_8 0 _ (by (try dsimp only); omega)) ok_X4_add k_696 k_697 k_698 k_6 k_699 ⟨show 0 + 1 ≤ b + 3 from by omega, show 8 + (3 + 11) + 40 * (0) ≤ 40 * (b + 3) from by omega⟩ ⟨(Nat.le_of_ble_eq_true rfl), (Nat.le_of_ble_eq_true rfl)⟩ hl.1 (Nat.le_of_ble_eq_true rfl) rfl rfl dX6_readSum_59 hPc hDc rfl rfl 0 rfl) hP hD hS hA [2, 3, 4] [0, 1] (wr := [(th, .inr (6, G6 ta tsize trule twords w_52 w_54 w_55 w_53)), ((ta 0), .inl (E 0, 120, .inl tf0))]) rfl rfl (by decide) (by decide) (fun u_61 H locs hw_60 hP hD hS => ?_)
              clear hPc hDc
              obtain ⟨w_62, w_63, w_64⟩ := u_61
              try dsimp only at hw_60
              have hP : va_P D vwCl [(th, .inr (6, G6 ta tsize trule twords w_52 w_54 w_55 w_53)), ((ta 0), .inl (E 0, 120, .inl tf0)), (trule, .inr (4, G4 ua w_64)), ((ua 0), .inl (E 0, 120, .inl w_62)), ((ua 1), .inl (E 0, 120, .inl w_63))] H := hP
              have hD := toW hP hD rfl
              try simp only [t_0] at hw_60
              obtain ⟨z_65, ez_65⟩ : ∃ y : Int32, y = L3_8 + 1 := ⟨_, rfl⟩
              have jz_65 : z_65.toInt = L3_8.toInt + 1 := by rw [ez_65]; exact g_add rfl t_1 (by omega) (by omega)
              refine lv_iinc (v := z_65) (lv' := [(3, .int z_65), (2, .int r_49), (4, .int tword_8), (0, .ref th), (1, .int p0)]) hx hb dX6_readSum_62 hl (k := 2) rfl (by rw [ez_65]; rfl) (by decide) rfl (fun ls hl => ?_)
              refine lv_goto (tgt := 8) hx hb dX6_readSum_65 (by decide) ?_
              exact ih_12 z_65 r_49 w_52 w_54 w_55 w_53 w_64 w_62 w_63 _ _ _ (by (try dsimp only); omega) (by (try dsimp only); omega) (by (try dsimp only); omega) (by (try dsimp only); omega) hP hD hS (lv_sub hl [0, 1, 3, 4] rfl)
  exact loop_11 121 0 r_1 w_4 w_6 w_7 w_5 w_10 w_8 w_9 _ _ _ (by have h0 := t_0; (try dsimp only); omega) (by (try dsimp only); omega) (by have h0 := t_0; (try dsimp only); omega) (by have h0 := t_0; (try dsimp only); omega) hP hD hS (lv_sub hl [0, 1, 2, 3] rfl)
set_option maxHeartbeats 4000000 in
set_option maxRecDepth 100000 in
theorem g_X6_readComparison (l : Launch) (b : Nat) (p0 : Int32) (hb8 : 8 ≤ b) (h15 : 0 ≤ p0.toInt ∧ p0.toInt ≤ 15) (hX : M_X6_readSum l (b) p0) : M_X6_readComparison l (b) p0 := by
  intro D E th ta tsize trule twords tat tword twordAt tvalue tf0 ua usize uf0 uf1 sv sn sf sz hi_t hi_u hsn g0 g1
  refine Met.ofW (cc := cX6_readComparison) (maxL := 4) (ret := (some .boolean)) (by decide) rfl ?_
  intro p e s m args below meth c s₁ B hml hv
  obtain ⟨rfl, hsz, hP, hK, hD0, hG⟩ := hv
  have hx := B.exec; have hb := B.bytes; have hr := B.returns
  have hts := atoms_spec (ws := wl yX6_readComparison cX6_readComparison 4 (some .boolean)) B.pre
  have htb : ∀ w ∈ tb, w.before _ s = true := fun w h => hts w (List.mem_cons_of_mem _ h)
  have hown : s.vm.findClass RX6 = some m.cls := findClass_of_methodNamed B.named
  have hlocks := B.notSynchronized
  subst hsz
  have hD := hD0.self (sz := s.heap.size)
  generalize hAe : va_A [(th, .inr (6, G6 ta tsize trule twords tat tword twordAt tvalue)), ((ta 0), .inl (E 0, 120, .inl tf0)), (trule, .inr (4, G4 ua usize)), ((ua 0), .inl (E 0, 120, .inl uf0)), ((ua 1), .inl (E 0, 120, .inl uf1))] s.heap.size = A at hD hG ⊢
  have hA : ∀ q : Nat, s.heap.size ≤ q → A q := fun q h => by rw [← hAe]; exact Or.inr h
  have hS : va_S A s.heap s.heap [] := va_S.rf
  have hP : va_P D vwCl [(th, .inr (6, G6 ta tsize trule twords tat tword twordAt tvalue)), ((ta 0), .inl (E 0, 120, .inl tf0)), (trule, .inr (4, G4 ua usize)), ((ua 0), .inl (E 0, 120, .inl uf0)), ((ua 1), .inl (E 0, 120, .inl uf1))] s.heap := hP
  have hl := lv_entry ([.ref th, .int p0]) (n := 4) (Nat.le_of_ble_eq_true rfl)
  rw [lg_entry_eq]
  generalize (lg_sl ([.ref th, .int p0]) ++ List.replicate (4 - (lg_sl ([.ref th, .int p0])).length) Slot.unset).toArray = ls at hl ⊢
  have hl : lv_has ls 4 [(0, .ref th), (1, .int p0)] := hl
  have lo_p0 := i_lo p0; have hi_p0 := i_hi p0
  refine lv_aload_n hx hb dX6_readComparison_0 rfl (lv_at hl 0 rfl) ?_
  refine lv_iload_n hx hb dX6_readComparison_1 rfl (lv_at hl 1 rfl) ?_
  have hPc := hP.sub (ws' := [(th, .inr (6, G6 ta tsize trule twords tat tword twordAt tvalue)), ((ta 0), .inl (E 0, 120, .inl tf0)), (trule, .inr (4, G4 ua usize)), ((ua 0), .inl (E 0, 120, .inl uf0)), ((ua 1), .inl (E 0, 120, .inl uf1))]) [0, 1, 2, 3, 4] rfl
  have hDc := hD.sub (ws' := [(th, .inr (6, G6 ta tsize trule twords tat tword twordAt tvalue)), ((ta 0), .inl (E 0, 120, .inl tf0)), (trule, .inr (4, G4 ua usize)), ((ua 0), .inl (E 0, 120, .inl uf0)), ((ua 1), .inl (E 0, 120, .inl uf1))]) [0, 1, 2, 3, 4] (by decide) rfl
  refine aft_i (runMG (rest := []) (As := [.int p0]) hx hb hml hown htb ((hX) D E th ta tsize trule twords tat tword twordAt tvalue tf0 ua usize uf0 uf1 sv sn sf _ (by (try dsimp only); omega) (by (try dsimp only); omega) hsn (by (try dsimp only); omega) g1) ok_X6_readSum k_684 k_686 ks_20 k_5 k_687 ⟨show b + 3 + 1 ≤ b + 4 from by omega, show 8 + (5 + 11) + 40 * (b + 3) ≤ 40 * (b + 4) from by omega⟩ ⟨(Nat.le_of_ble_eq_true rfl), (Nat.le_of_ble_eq_true rfl)⟩ hl.1 (Nat.le_of_ble_eq_true rfl) rfl rfl dX6_readComparison_2 (pmVS hPc hDc hK rfl rfl 0 rfl hG hS (va_free hD hS hA [0, 1, 2, 3, 4] rfl))) hP hD hS hA [0, 1, 2, 3, 4] [] (wr := ([] : va_W)) rfl rfl (by decide) (by decide) (fun r_1 u_3 H locs hw_2 hP hD hS => ?_)
  clear hPc hDc
  obtain ⟨w_4, w_5, w_6, w_7, w_8, w_9, w_10⟩ := u_3
  try dsimp only at hw_2
  have hP : va_P D vwCl [(th, .inr (6, G6 ta tsize trule twords w_4 w_6 w_7 w_5)), ((ta 0), .inl (E 0, 120, .inl tf0)), (trule, .inr (4, G4 ua w_10)), ((ua 0), .inl (E 0, 120, .inl w_8)), ((ua 1), .inl (E 0, 120, .inl w_9))] H := hP
  have hD := toW hP hD rfl
  obtain ⟨hw_2_0, hw_2_1, hw_2_2⟩ := hw_2
  refine lv_istore_n (lv' := [(2, .int r_1), (0, .ref th), (1, .int p0)]) hx hb dX6_readComparison_5 rfl hl (by decide) rfl (fun ls hl => ?_)
  refine lv_iload_n hx hb dX6_readComparison_6 rfl (lv_at hl 0 rfl) ?_
  refine lv_if_eq (tgt := 61) hx hb dX6_readComparison_7 (by decide) (fun c_11 => ?_) (fun c_11 => ?_)
  ·
    have ic_11 : r_1.toInt = 0 := (g_eq rfl t_0).mp c_11
    clear c_11
    refine lv_iload_n hx hb dX6_readComparison_61 rfl (lv_at hl 0 rfl) ?_
    have hP9 := hP.sub (ws' := [(th, .inr (6, G6 ta tsize trule twords w_4 w_6 w_7 w_5)), ((ta 0), .inl (E 0, 120, .inl tf0)), (trule, .inr (4, G4 ua w_10)), ((ua 0), .inl (E 0, 120, .inl w_8)), ((ua 1), .inl (E 0, 120, .inl w_9))]) [0, 1, 2, 3, 4] rfl
    have hD9 := hD.sub (ws' := [(th, .inr (6, G6 ta tsize trule twords w_4 w_6 w_7 w_5)), ((ta 0), .inl (E 0, 120, .inl tf0)), (trule, .inr (4, G4 ua w_10)), ((ua 0), .inl (E 0, 120, .inl w_8)), ((ua 1), .inl (E 0, 120, .inl w_9))]) [0, 1, 2, 3, 4] (by decide) rfl
    exact W.zret (v := r_1) hx hb hr (nar_z (by omega) (by omega)) (fun t ht hW => ⟨⟨r_1, (w_4, w_5, w_6, w_7, w_8, w_9, w_10), rfl, ⟨(by (try dsimp only); omega), (by (try dsimp only); omega), (by (try dsimp only); omega)⟩, by rw [ht]; exact hP9, hD9⟩, hS.F ht⟩) hS.2.2 dX6_readComparison_62
  ·
    have ic_11 : r_1.toInt ≠ 0 := mt (g_eq rfl t_0).mpr c_11
    clear c_11
    refine lv_aload_n hx hb dX6_readComparison_10 rfl (lv_at hl 1 rfl) ?_
    refine va_get (D := D) (ci := 6) (v := .int w_6) (C := RX6) (T := TX6) (N := 8) hx hb htb iX6 hown hK.1 hP 0 rfl rfl 5 (by decide) (htb _ k_163) (fun _ h9 => h9) rfl dX6_readComparison_11 ?_
    refine lv_bipush (v := 60) hx hb dX6_readComparison_14 (by decide) ?_
    refine lv_icmp_eq (tgt := 37) hx hb dX6_readComparison_16 (by decide) (fun c_12 => ?_) (fun c_12 => ?_)
    ·
      have ic_12 : w_6.toInt = 60 := (g_eq rfl t_60).mp c_12
      clear c_12
      refine lv_aload_n hx hb dX6_readComparison_37 rfl (lv_at hl 1 rfl) ?_
      refine va_get (D := D) (ci := 6) (v := .int w_6) (C := RX6) (T := TX6) (N := 8) hx hb htb iX6 hown hK.1 hP 0 rfl rfl 5 (by decide) (htb _ k_163) (fun _ h9 => h9) rfl dX6_readComparison_38 ?_
      refine lv_istore_n (lv' := [(3, .int w_6), (2, .int r_1), (0, .ref th), (1, .int p0)]) hx hb dX6_readComparison_41 rfl hl (by decide) rfl (fun ls hl => ?_)
      refine lv_aload_n hx hb dX6_readComparison_42 rfl (lv_at hl 2 rfl) ?_
      have hPc := hP.sub (ws' := [(th, .inr (6, G6 ta tsize trule twords w_4 w_6 w_7 w_5)), ((ta 0), .inl (E 0, 120, .inl tf0))]) [0, 1] rfl
      have hDc := hD.sub (ws' := [(th, .inr (6, G6 ta tsize trule twords w_4 w_6 w_7 w_5)), ((ta 0), .inl (E 0, 120, .inl tf0))]) [0, 1] (by decide) rfl
      refine aft_v (runMG (rest := []) (As := []) hx hb hml hown htb (g_X6_goOn l D E th ta tsize trule twords w_4 w_6 w_7 w_5 tf0 sv sn sf _ (by (try dsimp only); omega) hsn (by (try dsimp only); omega) g1) ok_X6_goOn k_591 k_593 ks_11 k_5 k_594 ⟨show 7 + 1 ≤ b + 4 from by omega, show 8 + (1 + 11) + 40 * (7) ≤ 40 * (b + 4) from by omega⟩ ⟨(Nat.le_of_ble_eq_true rfl), (Nat.le_of_ble_eq_true rfl)⟩ hl.1 (Nat.le_of_ble_eq_true rfl) rfl rfl dX6_readComparison_43 (pmVS hPc hDc hK rfl rfl 0 rfl hG hS (va_free hD hS hA [0, 1] rfl))) hP hD hS hA [0, 1] [2, 3, 4] (wr := [(trule, .inr (4, G4 ua w_10)), ((ua 0), .inl (E 0, 120, .inl w_8)), ((ua 1), .inl (E 0, 120, .inl w_9))]) rfl rfl (by decide) (by decide) (fun u_15 H locs hw_14 hP hD hS => ?_)
      clear hPc hDc
      obtain ⟨w_16, w_17, w_18, w_19⟩ := u_15
      try dsimp only at hw_14
      have hP : va_P D vwCl [(trule, .inr (4, G4 ua w_10)), ((ua 0), .inl (E 0, 120, .inl w_8)), ((ua 1), .inl (E 0, 120, .inl w_9)), (th, .inr (6, G6 ta tsize trule twords w_16 w_18 w_19 w_17)), ((ta 0), .inl (E 0, 120, .inl tf0))] H := hP
      have hD := toW hP hD rfl
      refine lv_aload_n hx hb dX6_readComparison_46 rfl (lv_at hl 2 rfl) ?_
      refine lv_iload_n hx hb dX6_readComparison_47 rfl (lv_at hl 3 rfl) ?_
      have hPc := hP.sub (ws' := [(th, .inr (6, G6 ta tsize trule twords w_16 w_18 w_19 w_17)), ((ta 0), .inl (E 0, 120, .inl tf0)), (trule, .inr (4, G4 ua w_10)), ((ua 0), .inl (E 0, 120, .inl w_8)), ((ua 1), .inl (E 0, 120, .inl w_9))]) [3, 4, 0, 1, 2] rfl
      have hDc := hD.sub (ws' := [(th, .inr (6, G6 ta tsize trule twords w_16 w_18 w_19 w_17)), ((ta 0), .inl (E 0, 120, .inl tf0)), (trule, .inr (4, G4 ua w_10)), ((ua 0), .inl (E 0, 120, .inl w_8)), ((ua 1), .inl (E 0, 120, .inl w_9))]) [3, 4, 0, 1, 2] (by decide) rfl
      refine aft_i (runMG (rest := []) (As := [.int p0]) hx hb hml hown htb ((hX) D E th ta tsize trule twords w_16 w_18 w_19 w_17 tf0 ua w_10 w_8 w_9 sv sn sf _ (by (try dsimp only); omega) (by (try dsimp only); omega) hsn (by (try dsimp only); omega) g1) ok_X6_readSum k_684 k_686 ks_20 k_5 k_687 ⟨show b + 3 + 1 ≤ b + 4 from by omega, show 8 + (5 + 11) + 40 * (b + 3) ≤ 40 * (b + 4) from by omega⟩ ⟨(Nat.le_of_ble_eq_true rfl), (Nat.le_of_ble_eq_true rfl)⟩ hl.1 (Nat.le_of_ble_eq_true rfl) rfl rfl dX6_readComparison_48 (pmVS hPc hDc hK rfl rfl 0 rfl hG hS (va_free hD hS hA [3, 4, 0, 1, 2] rfl))) hP hD hS hA [3, 4, 0, 1, 2] [] (wr := ([] : va_W)) rfl rfl (by decide) (by decide) (fun r_20 u_22 H locs hw_21 hP hD hS => ?_)
      clear hPc hDc
      obtain ⟨w_23, w_24, w_25, w_26, w_27, w_28, w_29⟩ := u_22
      try dsimp only at hw_21
      have hP : va_P D vwCl [(th, .inr (6, G6 ta tsize trule twords w_23 w_25 w_26 w_24)), ((ta 0), .inl (E 0, 120, .inl tf0)), (trule, .inr (4, G4 ua w_29)), ((ua 0), .inl (E 0, 120, .inl w_27)), ((ua 1), .inl (E 0, 120, .inl w_28))] H := hP
      have hD := toW hP hD rfl
      obtain ⟨hw_21_0, hw_21_1, hw_21_2⟩ := hw_21
      refine lv_istore_n (lv' := [(2, .int r_20), (3, .int w_6), (0, .ref th), (1, .int p0)]) hx hb dX6_readComparison_51 rfl hl (by decide) rfl (fun ls hl => ?_)
      refine lv_aload_n hx hb dX6_readComparison_52 rfl (lv_at hl 2 rfl) ?_
      refine va_get (D := D) (ci := 6) (v := .ref trule) (C := RX6) (T := TX6) (N := 8) hx hb htb iX6 hown hK.1 hP 0 rfl rfl 2 (by decide) (htb _ k_160) (fun _ h9 => h9) rfl dX6_readComparison_53 ?_
      refine lv_iload_n hx hb dX6_readComparison_56 rfl (lv_at hl 1 rfl) ?_
      refine lv_iconst (v := 0) hx hb dX6_readComparison_57 (by decide) ?_
      have hPc := hP.sub (ws' := [(trule, .inr (4, G4 ua w_29)), ((ua 0), .inl (E 0, 120, .inl w_27)), ((ua 1), .inl (E 0, 120, .inl w_28))]) [2, 3, 4] rfl
      have hDc := hD.sub (ws' := [(trule, .inr (4, G4 ua w_29)), ((ua 0), .inl (E 0, 120, .inl w_27)), ((ua 1), .inl (E 0, 120, .inl w_28))]) [2, 3, 4] (by decide) rfl
      refine aft_v (runMV (rest := []) (As := [.int w_6, .int 0]) hx hb hml hown htb hK (g_X4_add l D E trule ua w_29 w_27 w_28 w_6 0 _ (by (try dsimp only); omega)) ok_X4_add k_696 k_697 k_698 k_6 k_699 ⟨show 0 + 1 ≤ b + 4 from by omega, show 8 + (3 + 11) + 40 * (0) ≤ 40 * (b + 4) from by omega⟩ ⟨(Nat.le_of_ble_eq_true rfl), (Nat.le_of_ble_eq_true rfl)⟩ hl.1 (Nat.le_of_ble_eq_true rfl) rfl rfl dX6_readComparison_58 hPc hDc rfl rfl 0 rfl) hP hD hS hA [2, 3, 4] [0, 1] (wr := [(th, .inr (6, G6 ta tsize trule twords w_23 w_25 w_26 w_24)), ((ta 0), .inl (E 0, 120, .inl tf0))]) rfl rfl (by decide) (by decide) (fun u_32 H locs hw_31 hP hD hS => ?_)
      clear hPc hDc
      obtain ⟨w_33, w_34, w_35⟩ := u_32
      try dsimp only at hw_31
      have hP : va_P D vwCl [(th, .inr (6, G6 ta tsize trule twords w_23 w_25 w_26 w_24)), ((ta 0), .inl (E 0, 120, .inl tf0)), (trule, .inr (4, G4 ua w_35)), ((ua 0), .inl (E 0, 120, .inl w_33)), ((ua 1), .inl (E 0, 120, .inl w_34))] H := hP
      have hD := toW hP hD rfl
      try simp only [t_0] at hw_31
      refine lv_iload_n hx hb dX6_readComparison_61 rfl (lv_at hl 0 rfl) ?_
      have hP9 := hP.sub (ws' := [(th, .inr (6, G6 ta tsize trule twords w_23 w_25 w_26 w_24)), ((ta 0), .inl (E 0, 120, .inl tf0)), (trule, .inr (4, G4 ua w_35)), ((ua 0), .inl (E 0, 120, .inl w_33)), ((ua 1), .inl (E 0, 120, .inl w_34))]) [0, 1, 2, 3, 4] rfl
      have hD9 := hD.sub (ws' := [(th, .inr (6, G6 ta tsize trule twords w_23 w_25 w_26 w_24)), ((ta 0), .inl (E 0, 120, .inl tf0)), (trule, .inr (4, G4 ua w_35)), ((ua 0), .inl (E 0, 120, .inl w_33)), ((ua 1), .inl (E 0, 120, .inl w_34))]) [0, 1, 2, 3, 4] (by decide) rfl
      exact W.zret (v := r_20) hx hb hr (nar_z (by omega) (by omega)) (fun t ht hW => ⟨⟨r_20, (w_23, w_24, w_25, w_26, w_33, w_34, w_35), rfl, ⟨(by (try dsimp only); omega), (by (try dsimp only); omega), (by (try dsimp only); omega)⟩, by rw [ht]; exact hP9, hD9⟩, hS.F ht⟩) hS.2.2 dX6_readComparison_62
    ·
      have ic_12 : w_6.toInt ≠ 60 := mt (g_eq rfl t_60).mpr c_12
      clear c_12
      refine lv_aload_n hx hb dX6_readComparison_19 rfl (lv_at hl 1 rfl) ?_
      refine va_get (D := D) (ci := 6) (v := .int w_6) (C := RX6) (T := TX6) (N := 8) hx hb htb iX6 hown hK.1 hP 0 rfl rfl 5 (by decide) (htb _ k_163) (fun _ h9 => h9) rfl dX6_readComparison_20 ?_
      refine lv_bipush (v := 61) hx hb dX6_readComparison_23 (by decide) ?_
      refine lv_icmp_eq (tgt := 37) hx hb dX6_readComparison_25 (by decide) (fun c_36 => ?_) (fun c_36 => ?_)
      ·
        have ic_36 : w_6.toInt = 61 := (g_eq rfl t_61).mp c_36
        clear c_36
        refine lv_aload_n hx hb dX6_readComparison_37 rfl (lv_at hl 1 rfl) ?_
        refine va_get (D := D) (ci := 6) (v := .int w_6) (C := RX6) (T := TX6) (N := 8) hx hb htb iX6 hown hK.1 hP 0 rfl rfl 5 (by decide) (htb _ k_163) (fun _ h9 => h9) rfl dX6_readComparison_38 ?_
        refine lv_istore_n (lv' := [(3, .int w_6), (2, .int r_1), (0, .ref th), (1, .int p0)]) hx hb dX6_readComparison_41 rfl hl (by decide) rfl (fun ls hl => ?_)
        refine lv_aload_n hx hb dX6_readComparison_42 rfl (lv_at hl 2 rfl) ?_
        have hPc := hP.sub (ws' := [(th, .inr (6, G6 ta tsize trule twords w_4 w_6 w_7 w_5)), ((ta 0), .inl (E 0, 120, .inl tf0))]) [0, 1] rfl
        have hDc := hD.sub (ws' := [(th, .inr (6, G6 ta tsize trule twords w_4 w_6 w_7 w_5)), ((ta 0), .inl (E 0, 120, .inl tf0))]) [0, 1] (by decide) rfl
        refine aft_v (runMG (rest := []) (As := []) hx hb hml hown htb (g_X6_goOn l D E th ta tsize trule twords w_4 w_6 w_7 w_5 tf0 sv sn sf _ (by (try dsimp only); omega) hsn (by (try dsimp only); omega) g1) ok_X6_goOn k_591 k_593 ks_11 k_5 k_594 ⟨show 7 + 1 ≤ b + 4 from by omega, show 8 + (1 + 11) + 40 * (7) ≤ 40 * (b + 4) from by omega⟩ ⟨(Nat.le_of_ble_eq_true rfl), (Nat.le_of_ble_eq_true rfl)⟩ hl.1 (Nat.le_of_ble_eq_true rfl) rfl rfl dX6_readComparison_43 (pmVS hPc hDc hK rfl rfl 0 rfl hG hS (va_free hD hS hA [0, 1] rfl))) hP hD hS hA [0, 1] [2, 3, 4] (wr := [(trule, .inr (4, G4 ua w_10)), ((ua 0), .inl (E 0, 120, .inl w_8)), ((ua 1), .inl (E 0, 120, .inl w_9))]) rfl rfl (by decide) (by decide) (fun u_39 H locs hw_38 hP hD hS => ?_)
        clear hPc hDc
        obtain ⟨w_40, w_41, w_42, w_43⟩ := u_39
        try dsimp only at hw_38
        have hP : va_P D vwCl [(trule, .inr (4, G4 ua w_10)), ((ua 0), .inl (E 0, 120, .inl w_8)), ((ua 1), .inl (E 0, 120, .inl w_9)), (th, .inr (6, G6 ta tsize trule twords w_40 w_42 w_43 w_41)), ((ta 0), .inl (E 0, 120, .inl tf0))] H := hP
        have hD := toW hP hD rfl
        refine lv_aload_n hx hb dX6_readComparison_46 rfl (lv_at hl 2 rfl) ?_
        refine lv_iload_n hx hb dX6_readComparison_47 rfl (lv_at hl 3 rfl) ?_
        have hPc := hP.sub (ws' := [(th, .inr (6, G6 ta tsize trule twords w_40 w_42 w_43 w_41)), ((ta 0), .inl (E 0, 120, .inl tf0)), (trule, .inr (4, G4 ua w_10)), ((ua 0), .inl (E 0, 120, .inl w_8)), ((ua 1), .inl (E 0, 120, .inl w_9))]) [3, 4, 0, 1, 2] rfl
        have hDc := hD.sub (ws' := [(th, .inr (6, G6 ta tsize trule twords w_40 w_42 w_43 w_41)), ((ta 0), .inl (E 0, 120, .inl tf0)), (trule, .inr (4, G4 ua w_10)), ((ua 0), .inl (E 0, 120, .inl w_8)), ((ua 1), .inl (E 0, 120, .inl w_9))]) [3, 4, 0, 1, 2] (by decide) rfl
        refine aft_i (runMG (rest := []) (As := [.int p0]) hx hb hml hown htb ((hX) D E th ta tsize trule twords w_40 w_42 w_43 w_41 tf0 ua w_10 w_8 w_9 sv sn sf _ (by (try dsimp only); omega) (by (try dsimp only); omega) hsn (by (try dsimp only); omega) g1) ok_X6_readSum k_684 k_686 ks_20 k_5 k_687 ⟨show b + 3 + 1 ≤ b + 4 from by omega, show 8 + (5 + 11) + 40 * (b + 3) ≤ 40 * (b + 4) from by omega⟩ ⟨(Nat.le_of_ble_eq_true rfl), (Nat.le_of_ble_eq_true rfl)⟩ hl.1 (Nat.le_of_ble_eq_true rfl) rfl rfl dX6_readComparison_48 (pmVS hPc hDc hK rfl rfl 0 rfl hG hS (va_free hD hS hA [3, 4, 0, 1, 2] rfl))) hP hD hS hA [3, 4, 0, 1, 2] [] (wr := ([] : va_W)) rfl rfl (by decide) (by decide) (fun r_44 u_46 H locs hw_45 hP hD hS => ?_)
        clear hPc hDc
        obtain ⟨w_47, w_48, w_49, w_50, w_51, w_52, w_53⟩ := u_46
        try dsimp only at hw_45
        have hP : va_P D vwCl [(th, .inr (6, G6 ta tsize trule twords w_47 w_49 w_50 w_48)), ((ta 0), .inl (E 0, 120, .inl tf0)), (trule, .inr (4, G4 ua w_53)), ((ua 0), .inl (E 0, 120, .inl w_51)), ((ua 1), .inl (E 0, 120, .inl w_52))] H := hP
        have hD := toW hP hD rfl
        obtain ⟨hw_45_0, hw_45_1, hw_45_2⟩ := hw_45
        refine lv_istore_n (lv' := [(2, .int r_44), (3, .int w_6), (0, .ref th), (1, .int p0)]) hx hb dX6_readComparison_51 rfl hl (by decide) rfl (fun ls hl => ?_)
        refine lv_aload_n hx hb dX6_readComparison_52 rfl (lv_at hl 2 rfl) ?_
        refine va_get (D := D) (ci := 6) (v := .ref trule) (C := RX6) (T := TX6) (N := 8) hx hb htb iX6 hown hK.1 hP 0 rfl rfl 2 (by decide) (htb _ k_160) (fun _ h9 => h9) rfl dX6_readComparison_53 ?_
        refine lv_iload_n hx hb dX6_readComparison_56 rfl (lv_at hl 1 rfl) ?_
        refine lv_iconst (v := 0) hx hb dX6_readComparison_57 (by decide) ?_
        have hPc := hP.sub (ws' := [(trule, .inr (4, G4 ua w_53)), ((ua 0), .inl (E 0, 120, .inl w_51)), ((ua 1), .inl (E 0, 120, .inl w_52))]) [2, 3, 4] rfl
        have hDc := hD.sub (ws' := [(trule, .inr (4, G4 ua w_53)), ((ua 0), .inl (E 0, 120, .inl w_51)), ((ua 1), .inl (E 0, 120, .inl w_52))]) [2, 3, 4] (by decide) rfl
        refine aft_v (runMV (rest := []) (As := [.int w_6, .int 0]) hx hb hml hown htb hK (g_X4_add l D E trule ua w_53 w_51 w_52 w_6 0 _ (by (try dsimp only); omega)) ok_X4_add k_696 k_697 k_698 k_6 k_699 ⟨show 0 + 1 ≤ b + 4 from by omega, show 8 + (3 + 11) + 40 * (0) ≤ 40 * (b + 4) from by omega⟩ ⟨(Nat.le_of_ble_eq_true rfl), (Nat.le_of_ble_eq_true rfl)⟩ hl.1 (Nat.le_of_ble_eq_true rfl) rfl rfl dX6_readComparison_58 hPc hDc rfl rfl 0 rfl) hP hD hS hA [2, 3, 4] [0, 1] (wr := [(th, .inr (6, G6 ta tsize trule twords w_47 w_49 w_50 w_48)), ((ta 0), .inl (E 0, 120, .inl tf0))]) rfl rfl (by decide) (by decide) (fun u_56 H locs hw_55 hP hD hS => ?_)
        clear hPc hDc
        obtain ⟨w_57, w_58, w_59⟩ := u_56
        try dsimp only at hw_55
        have hP : va_P D vwCl [(th, .inr (6, G6 ta tsize trule twords w_47 w_49 w_50 w_48)), ((ta 0), .inl (E 0, 120, .inl tf0)), (trule, .inr (4, G4 ua w_59)), ((ua 0), .inl (E 0, 120, .inl w_57)), ((ua 1), .inl (E 0, 120, .inl w_58))] H := hP
        have hD := toW hP hD rfl
        try simp only [t_0] at hw_55
        refine lv_iload_n hx hb dX6_readComparison_61 rfl (lv_at hl 0 rfl) ?_
        have hP9 := hP.sub (ws' := [(th, .inr (6, G6 ta tsize trule twords w_47 w_49 w_50 w_48)), ((ta 0), .inl (E 0, 120, .inl tf0)), (trule, .inr (4, G4 ua w_59)), ((ua 0), .inl (E 0, 120, .inl w_57)), ((ua 1), .inl (E 0, 120, .inl w_58))]) [0, 1, 2, 3, 4] rfl
        have hD9 := hD.sub (ws' := [(th, .inr (6, G6 ta tsize trule twords w_47 w_49 w_50 w_48)), ((ta 0), .inl (E 0, 120, .inl tf0)), (trule, .inr (4, G4 ua w_59)), ((ua 0), .inl (E 0, 120, .inl w_57)), ((ua 1), .inl (E 0, 120, .inl w_58))]) [0, 1, 2, 3, 4] (by decide) rfl
        exact W.zret (v := r_44) hx hb hr (nar_z (by omega) (by omega)) (fun t ht hW => ⟨⟨r_44, (w_47, w_48, w_49, w_50, w_57, w_58, w_59), rfl, ⟨(by (try dsimp only); omega), (by (try dsimp only); omega), (by (try dsimp only); omega)⟩, by rw [ht]; exact hP9, hD9⟩, hS.F ht⟩) hS.2.2 dX6_readComparison_62
      ·
        have ic_36 : w_6.toInt ≠ 61 := mt (g_eq rfl t_61).mpr c_36
        clear c_36
        refine lv_aload_n hx hb dX6_readComparison_28 rfl (lv_at hl 1 rfl) ?_
        refine va_get (D := D) (ci := 6) (v := .int w_6) (C := RX6) (T := TX6) (N := 8) hx hb htb iX6 hown hK.1 hP 0 rfl rfl 5 (by decide) (htb _ k_163) (fun _ h9 => h9) rfl dX6_readComparison_29 ?_
        refine lv_bipush (v := 62) hx hb dX6_readComparison_32 (by decide) ?_
        refine lv_icmp_ne (tgt := 61) hx hb dX6_readComparison_34 (by decide) (fun c_60 => ?_) (fun c_60 => ?_)
        ·
          have ic_60 : w_6.toInt ≠ 62 := mt (g_eq rfl t_62).mpr c_60
          clear c_60
          refine lv_iload_n hx hb dX6_readComparison_61 rfl (lv_at hl 0 rfl) ?_
          have hP9 := hP.sub (ws' := [(th, .inr (6, G6 ta tsize trule twords w_4 w_6 w_7 w_5)), ((ta 0), .inl (E 0, 120, .inl tf0)), (trule, .inr (4, G4 ua w_10)), ((ua 0), .inl (E 0, 120, .inl w_8)), ((ua 1), .inl (E 0, 120, .inl w_9))]) [0, 1, 2, 3, 4] rfl
          have hD9 := hD.sub (ws' := [(th, .inr (6, G6 ta tsize trule twords w_4 w_6 w_7 w_5)), ((ta 0), .inl (E 0, 120, .inl tf0)), (trule, .inr (4, G4 ua w_10)), ((ua 0), .inl (E 0, 120, .inl w_8)), ((ua 1), .inl (E 0, 120, .inl w_9))]) [0, 1, 2, 3, 4] (by decide) rfl
          exact W.zret (v := r_1) hx hb hr (nar_z (by omega) (by omega)) (fun t ht hW => ⟨⟨r_1, (w_4, w_5, w_6, w_7, w_8, w_9, w_10), rfl, ⟨(by (try dsimp only); omega), (by (try dsimp only); omega), (by (try dsimp only); omega)⟩, by rw [ht]; exact hP9, hD9⟩, hS.F ht⟩) hS.2.2 dX6_readComparison_62
        ·
          have ic_60 : w_6.toInt = 62 := (g_eq rfl t_62).mp c_60
          clear c_60
          refine lv_aload_n hx hb dX6_readComparison_37 rfl (lv_at hl 1 rfl) ?_
          refine va_get (D := D) (ci := 6) (v := .int w_6) (C := RX6) (T := TX6) (N := 8) hx hb htb iX6 hown hK.1 hP 0 rfl rfl 5 (by decide) (htb _ k_163) (fun _ h9 => h9) rfl dX6_readComparison_38 ?_
          refine lv_istore_n (lv' := [(3, .int w_6), (2, .int r_1), (0, .ref th), (1, .int p0)]) hx hb dX6_readComparison_41 rfl hl (by decide) rfl (fun ls hl => ?_)
          refine lv_aload_n hx hb dX6_readComparison_42 rfl (lv_at hl 2 rfl) ?_
          have hPc := hP.sub (ws' := [(th, .inr (6, G6 ta tsize trule twords w_4 w_6 w_7 w_5)), ((ta 0), .inl (E 0, 120, .inl tf0))]) [0, 1] rfl
          have hDc := hD.sub (ws' := [(th, .inr (6, G6 ta tsize trule twords w_4 w_6 w_7 w_5)), ((ta 0), .inl (E 0, 120, .inl tf0))]) [0, 1] (by decide) rfl
          refine aft_v (runMG (rest := []) (As := []) hx hb hml hown htb (g_X6_goOn l D E th ta tsize trule twords w_4 w_6 w_7 w_5 tf0 sv sn sf _ (by (try dsimp only); omega) hsn (by (try dsimp only); omega) g1) ok_X6_goOn k_591 k_593 ks_11 k_5 k_594 ⟨show 7 + 1 ≤ b + 4 from by omega, show 8 + (1 + 11) + 40 * (7) ≤ 40 * (b + 4) from by omega⟩ ⟨(Nat.le_of_ble_eq_true rfl), (Nat.le_of_ble_eq_true rfl)⟩ hl.1 (Nat.le_of_ble_eq_true rfl) rfl rfl dX6_readComparison_43 (pmVS hPc hDc hK rfl rfl 0 rfl hG hS (va_free hD hS hA [0, 1] rfl))) hP hD hS hA [0, 1] [2, 3, 4] (wr := [(trule, .inr (4, G4 ua w_10)), ((ua 0), .inl (E 0, 120, .inl w_8)), ((ua 1), .inl (E 0, 120, .inl w_9))]) rfl rfl (by decide) (by decide) (fun u_63 H locs hw_62 hP hD hS => ?_)
          clear hPc hDc
          obtain ⟨w_64, w_65, w_66, w_67⟩ := u_63
          try dsimp only at hw_62
          have hP : va_P D vwCl [(trule, .inr (4, G4 ua w_10)), ((ua 0), .inl (E 0, 120, .inl w_8)), ((ua 1), .inl (E 0, 120, .inl w_9)), (th, .inr (6, G6 ta tsize trule twords w_64 w_66 w_67 w_65)), ((ta 0), .inl (E 0, 120, .inl tf0))] H := hP
          have hD := toW hP hD rfl
          refine lv_aload_n hx hb dX6_readComparison_46 rfl (lv_at hl 2 rfl) ?_
          refine lv_iload_n hx hb dX6_readComparison_47 rfl (lv_at hl 3 rfl) ?_
          have hPc := hP.sub (ws' := [(th, .inr (6, G6 ta tsize trule twords w_64 w_66 w_67 w_65)), ((ta 0), .inl (E 0, 120, .inl tf0)), (trule, .inr (4, G4 ua w_10)), ((ua 0), .inl (E 0, 120, .inl w_8)), ((ua 1), .inl (E 0, 120, .inl w_9))]) [3, 4, 0, 1, 2] rfl
          have hDc := hD.sub (ws' := [(th, .inr (6, G6 ta tsize trule twords w_64 w_66 w_67 w_65)), ((ta 0), .inl (E 0, 120, .inl tf0)), (trule, .inr (4, G4 ua w_10)), ((ua 0), .inl (E 0, 120, .inl w_8)), ((ua 1), .inl (E 0, 120, .inl w_9))]) [3, 4, 0, 1, 2] (by decide) rfl
          refine aft_i (runMG (rest := []) (As := [.int p0]) hx hb hml hown htb ((hX) D E th ta tsize trule twords w_64 w_66 w_67 w_65 tf0 ua w_10 w_8 w_9 sv sn sf _ (by (try dsimp only); omega) (by (try dsimp only); omega) hsn (by (try dsimp only); omega) g1) ok_X6_readSum k_684 k_686 ks_20 k_5 k_687 ⟨show b + 3 + 1 ≤ b + 4 from by omega, show 8 + (5 + 11) + 40 * (b + 3) ≤ 40 * (b + 4) from by omega⟩ ⟨(Nat.le_of_ble_eq_true rfl), (Nat.le_of_ble_eq_true rfl)⟩ hl.1 (Nat.le_of_ble_eq_true rfl) rfl rfl dX6_readComparison_48 (pmVS hPc hDc hK rfl rfl 0 rfl hG hS (va_free hD hS hA [3, 4, 0, 1, 2] rfl))) hP hD hS hA [3, 4, 0, 1, 2] [] (wr := ([] : va_W)) rfl rfl (by decide) (by decide) (fun r_68 u_70 H locs hw_69 hP hD hS => ?_)
          clear hPc hDc
          obtain ⟨w_71, w_72, w_73, w_74, w_75, w_76, w_77⟩ := u_70
          try dsimp only at hw_69
          have hP : va_P D vwCl [(th, .inr (6, G6 ta tsize trule twords w_71 w_73 w_74 w_72)), ((ta 0), .inl (E 0, 120, .inl tf0)), (trule, .inr (4, G4 ua w_77)), ((ua 0), .inl (E 0, 120, .inl w_75)), ((ua 1), .inl (E 0, 120, .inl w_76))] H := hP
          have hD := toW hP hD rfl
          obtain ⟨hw_69_0, hw_69_1, hw_69_2⟩ := hw_69
          refine lv_istore_n (lv' := [(2, .int r_68), (3, .int w_6), (0, .ref th), (1, .int p0)]) hx hb dX6_readComparison_51 rfl hl (by decide) rfl (fun ls hl => ?_)
          refine lv_aload_n hx hb dX6_readComparison_52 rfl (lv_at hl 2 rfl) ?_
          refine va_get (D := D) (ci := 6) (v := .ref trule) (C := RX6) (T := TX6) (N := 8) hx hb htb iX6 hown hK.1 hP 0 rfl rfl 2 (by decide) (htb _ k_160) (fun _ h9 => h9) rfl dX6_readComparison_53 ?_
          refine lv_iload_n hx hb dX6_readComparison_56 rfl (lv_at hl 1 rfl) ?_
          refine lv_iconst (v := 0) hx hb dX6_readComparison_57 (by decide) ?_
          have hPc := hP.sub (ws' := [(trule, .inr (4, G4 ua w_77)), ((ua 0), .inl (E 0, 120, .inl w_75)), ((ua 1), .inl (E 0, 120, .inl w_76))]) [2, 3, 4] rfl
          have hDc := hD.sub (ws' := [(trule, .inr (4, G4 ua w_77)), ((ua 0), .inl (E 0, 120, .inl w_75)), ((ua 1), .inl (E 0, 120, .inl w_76))]) [2, 3, 4] (by decide) rfl
          refine aft_v (runMV (rest := []) (As := [.int w_6, .int 0]) hx hb hml hown htb hK (g_X4_add l D E trule ua w_77 w_75 w_76 w_6 0 _ (by (try dsimp only); omega)) ok_X4_add k_696 k_697 k_698 k_6 k_699 ⟨show 0 + 1 ≤ b + 4 from by omega, show 8 + (3 + 11) + 40 * (0) ≤ 40 * (b + 4) from by omega⟩ ⟨(Nat.le_of_ble_eq_true rfl), (Nat.le_of_ble_eq_true rfl)⟩ hl.1 (Nat.le_of_ble_eq_true rfl) rfl rfl dX6_readComparison_58 hPc hDc rfl rfl 0 rfl) hP hD hS hA [2, 3, 4] [0, 1] (wr := [(th, .inr (6, G6 ta tsize trule twords w_71 w_73 w_74 w_72)), ((ta 0), .inl (E 0, 120, .inl tf0))]) rfl rfl (by decide) (by decide) (fun u_80 H locs hw_79 hP hD hS => ?_)
          clear hPc hDc
          obtain ⟨w_81, w_82, w_83⟩ := u_80
          try dsimp only at hw_79
          have hP : va_P D vwCl [(th, .inr (6, G6 ta tsize trule twords w_71 w_73 w_74 w_72)), ((ta 0), .inl (E 0, 120, .inl tf0)), (trule, .inr (4, G4 ua w_83)), ((ua 0), .inl (E 0, 120, .inl w_81)), ((ua 1), .inl (E 0, 120, .inl w_82))] H := hP
          have hD := toW hP hD rfl
          try simp only [t_0] at hw_79
          refine lv_iload_n hx hb dX6_readComparison_61 rfl (lv_at hl 0 rfl) ?_
          have hP9 := hP.sub (ws' := [(th, .inr (6, G6 ta tsize trule twords w_71 w_73 w_74 w_72)), ((ta 0), .inl (E 0, 120, .inl tf0)), (trule, .inr (4, G4 ua w_83)), ((ua 0), .inl (E 0, 120, .inl w_81)), ((ua 1), .inl (E 0, 120, .inl w_82))]) [0, 1, 2, 3, 4] rfl
          have hD9 := hD.sub (ws' := [(th, .inr (6, G6 ta tsize trule twords w_71 w_73 w_74 w_72)), ((ta 0), .inl (E 0, 120, .inl tf0)), (trule, .inr (4, G4 ua w_83)), ((ua 0), .inl (E 0, 120, .inl w_81)), ((ua 1), .inl (E 0, 120, .inl w_82))]) [0, 1, 2, 3, 4] (by decide) rfl
          exact W.zret (v := r_68) hx hb hr (nar_z (by omega) (by omega)) (fun t ht hW => ⟨⟨r_68, (w_71, w_72, w_73, w_74, w_81, w_82, w_83), rfl, ⟨(by (try dsimp only); omega), (by (try dsimp only); omega), (by (try dsimp only); omega)⟩, by rw [ht]; exact hP9, hD9⟩, hS.F ht⟩) hS.2.2 dX6_readComparison_62
set_option maxHeartbeats 4000000 in
set_option maxRecDepth 100000 in
theorem g_X6_readNegation (l : Launch) (b : Nat) (p0 : Int32) (hb8 : 8 ≤ b) (h15 : 0 ≤ p0.toInt ∧ p0.toInt ≤ 15) (hX : M_X6_readComparison l (b + 8) p0) (hN : p0.toInt < 15 → ∀ q : Int32, q.toInt = p0.toInt + 1 → M_X6_readNegation l b q) : M_X6_readNegation l (b + 8) p0 := by
  intro D E th ta tsize trule twords tat tword twordAt tvalue tf0 ua usize uf0 uf1 sv sn sf sz hi_t hi_u hsn g0 g1
  refine Met.ofW (cc := cX6_readNegation) (maxL := 3) (ret := (some .boolean)) (by decide) rfl ?_
  intro p e s m args below meth c s₁ B hml hv
  obtain ⟨rfl, hsz, hP, hK, hD0, hG⟩ := hv
  have hx := B.exec; have hb := B.bytes; have hr := B.returns
  have hts := atoms_spec (ws := wl yX6_readNegation cX6_readNegation 3 (some .boolean)) B.pre
  have htb : ∀ w ∈ tb, w.before _ s = true := fun w h => hts w (List.mem_cons_of_mem _ h)
  have hown : s.vm.findClass RX6 = some m.cls := findClass_of_methodNamed B.named
  have hlocks := B.notSynchronized
  subst hsz
  have hD := hD0.self (sz := s.heap.size)
  generalize hAe : va_A [(th, .inr (6, G6 ta tsize trule twords tat tword twordAt tvalue)), ((ta 0), .inl (E 0, 120, .inl tf0)), (trule, .inr (4, G4 ua usize)), ((ua 0), .inl (E 0, 120, .inl uf0)), ((ua 1), .inl (E 0, 120, .inl uf1))] s.heap.size = A at hD hG ⊢
  have hA : ∀ q : Nat, s.heap.size ≤ q → A q := fun q h => by rw [← hAe]; exact Or.inr h
  have hS : va_S A s.heap s.heap [] := va_S.rf
  have hP : va_P D vwCl [(th, .inr (6, G6 ta tsize trule twords tat tword twordAt tvalue)), ((ta 0), .inl (E 0, 120, .inl tf0)), (trule, .inr (4, G4 ua usize)), ((ua 0), .inl (E 0, 120, .inl uf0)), ((ua 1), .inl (E 0, 120, .inl uf1))] s.heap := hP
  have hl := lv_entry ([.ref th, .int p0]) (n := 3) (Nat.le_of_ble_eq_true rfl)
  rw [lg_entry_eq]
  generalize (lg_sl ([.ref th, .int p0]) ++ List.replicate (3 - (lg_sl ([.ref th, .int p0])).length) Slot.unset).toArray = ls at hl ⊢
  have hl : lv_has ls 3 [(0, .ref th), (1, .int p0)] := hl
  have lo_p0 := i_lo p0; have hi_p0 := i_hi p0
  refine lv_aload_n hx hb dX6_readNegation_0 rfl (lv_at hl 0 rfl) ?_
  refine va_get (D := D) (ci := 6) (v := .int tword) (C := RX6) (T := TX6) (N := 8) hx hb htb iX6 hown hK.1 hP 0 rfl rfl 5 (by decide) (htb _ k_163) (fun _ h9 => h9) rfl dX6_readNegation_1 ?_
  refine lv_bipush (v := 6) hx hb dX6_readNegation_4 (by decide) ?_
  refine lv_icmp_eq (tgt := 15) hx hb dX6_readNegation_6 (by decide) (fun c_1 => ?_) (fun c_1 => ?_)
  ·
    have ic_1 : tword.toInt = 6 := (g_eq rfl t_6).mp c_1
    clear c_1
    refine lv_iload_n hx hb dX6_readNegation_15 rfl (lv_at hl 1 rfl) ?_
    refine lv_bipush (v := 15) hx hb dX6_readNegation_16 (by decide) ?_
    refine lv_icmp_lt (tgt := 23) hx hb dX6_readNegation_18 (by decide) (fun c_2 => ?_) (fun c_2 => ?_)
    ·
      have ic_2 : p0.toInt < 15 := by first | exact (g_lt rfl t_15).mp c_2 | (have h := mt (g_le t_15 rfl).mpr c_2; omega)
      clear c_2
      refine lv_aload_n hx hb dX6_readNegation_23 rfl (lv_at hl 0 rfl) ?_
      have hPc := hP.sub (ws' := [(th, .inr (6, G6 ta tsize trule twords tat tword twordAt tvalue)), ((ta 0), .inl (E 0, 120, .inl tf0))]) [0, 1] rfl
      have hDc := hD.sub (ws' := [(th, .inr (6, G6 ta tsize trule twords tat tword twordAt tvalue)), ((ta 0), .inl (E 0, 120, .inl tf0))]) [0, 1] (by decide) rfl
      refine aft_v (runMG (rest := []) (As := []) hx hb hml hown htb (g_X6_goOn l D E th ta tsize trule twords tat tword twordAt tvalue tf0 sv sn sf _ (by (try dsimp only); omega) hsn (by (try dsimp only); omega) g1) ok_X6_goOn k_591 k_593 ks_11 k_5 k_594 ⟨show 7 + 1 ≤ b + 8 + 5 from by omega, show 8 + (1 + 11) + 40 * (7) ≤ 40 * (b + 8 + 5) from by omega⟩ ⟨(Nat.le_of_ble_eq_true rfl), (Nat.le_of_ble_eq_true rfl)⟩ hl.1 (Nat.le_of_ble_eq_true rfl) rfl rfl dX6_readNegation_24 (pmVS hPc hDc hK rfl rfl 0 rfl hG hS (va_free hD hS hA [0, 1] rfl))) hP hD hS hA [0, 1] [2, 3, 4] (wr := [(trule, .inr (4, G4 ua usize)), ((ua 0), .inl (E 0, 120, .inl uf0)), ((ua 1), .inl (E 0, 120, .inl uf1))]) rfl rfl (by decide) (by decide) (fun u_5 H locs hw_4 hP hD hS => ?_)
      clear hPc hDc
      obtain ⟨w_6, w_7, w_8, w_9⟩ := u_5
      try dsimp only at hw_4
      have hP : va_P D vwCl [(trule, .inr (4, G4 ua usize)), ((ua 0), .inl (E 0, 120, .inl uf0)), ((ua 1), .inl (E 0, 120, .inl uf1)), (th, .inr (6, G6 ta tsize trule twords w_6 w_8 w_9 w_7)), ((ta 0), .inl (E 0, 120, .inl tf0))] H := hP
      have hD := toW hP hD rfl
      refine lv_aload_n hx hb dX6_readNegation_27 rfl (lv_at hl 0 rfl) ?_
      refine lv_iload_n hx hb dX6_readNegation_28 rfl (lv_at hl 1 rfl) ?_
      refine lv_iconst (v := 1) hx hb dX6_readNegation_29 (by decide) ?_
      refine lv_iadd hx hb dX6_readNegation_30 ?_
      refine lv_topi (fun z_10 ez_10 => ?_)
      have jz_10 : z_10.toInt = p0.toInt + 1 := by rw [ez_10]; exact g_add rfl t_1 (by omega) (by omega)
      have hPc := hP.sub (ws' := [(th, .inr (6, G6 ta tsize trule twords w_6 w_8 w_9 w_7)), ((ta 0), .inl (E 0, 120, .inl tf0)), (trule, .inr (4, G4 ua usize)), ((ua 0), .inl (E 0, 120, .inl uf0)), ((ua 1), .inl (E 0, 120, .inl uf1))]) [3, 4, 0, 1, 2] rfl
      have hDc := hD.sub (ws' := [(th, .inr (6, G6 ta tsize trule twords w_6 w_8 w_9 w_7)), ((ta 0), .inl (E 0, 120, .inl tf0)), (trule, .inr (4, G4 ua usize)), ((ua 0), .inl (E 0, 120, .inl uf0)), ((ua 1), .inl (E 0, 120, .inl uf1))]) [3, 4, 0, 1, 2] (by decide) rfl
      refine aft_i (runMG (rest := []) (As := [.int z_10]) hx hb hml hown htb ((hN (by omega) z_10 (by omega)) D E th ta tsize trule twords w_6 w_8 w_9 w_7 tf0 ua usize uf0 uf1 sv sn sf _ (by (try dsimp only); omega) (by (try dsimp only); omega) hsn (by (try dsimp only); omega) g1) ok_X6_readNegation k_676 k_678 ks_18 k_5 k_679 ⟨show b + 5 + 1 ≤ b + 8 + 5 from by omega, show 8 + (3 + 11) + 40 * (b + 5) ≤ 40 * (b + 8 + 5) from by omega⟩ ⟨(Nat.le_of_ble_eq_true rfl), (Nat.le_of_ble_eq_true rfl)⟩ hl.1 (Nat.le_of_ble_eq_true rfl) rfl rfl dX6_readNegation_31 (pmVS hPc hDc hK rfl rfl 0 rfl hG hS (va_free hD hS hA [3, 4, 0, 1, 2] rfl))) hP hD hS hA [3, 4, 0, 1, 2] [] (wr := ([] : va_W)) rfl rfl (by decide) (by decide) (fun r_11 u_13 H locs hw_12 hP hD hS => ?_)
      clear hPc hDc
      obtain ⟨w_14, w_15, w_16, w_17, w_18, w_19, w_20⟩ := u_13
      try dsimp only at hw_12
      have hP : va_P D vwCl [(th, .inr (6, G6 ta tsize trule twords w_14 w_16 w_17 w_15)), ((ta 0), .inl (E 0, 120, .inl tf0)), (trule, .inr (4, G4 ua w_20)), ((ua 0), .inl (E 0, 120, .inl w_18)), ((ua 1), .inl (E 0, 120, .inl w_19))] H := hP
      have hD := toW hP hD rfl
      obtain ⟨hw_12_0, hw_12_1, hw_12_2⟩ := hw_12
      refine lv_istore_n (lv' := [(2, .int r_11), (0, .ref th), (1, .int p0)]) hx hb dX6_readNegation_34 rfl hl (by decide) rfl (fun ls hl => ?_)
      refine lv_aload_n hx hb dX6_readNegation_35 rfl (lv_at hl 1 rfl) ?_
      refine va_get (D := D) (ci := 6) (v := .ref trule) (C := RX6) (T := TX6) (N := 8) hx hb htb iX6 hown hK.1 hP 0 rfl rfl 2 (by decide) (htb _ k_160) (fun _ h9 => h9) rfl dX6_readNegation_36 ?_
      refine lv_bipush (v := 6) hx hb dX6_readNegation_39 (by decide) ?_
      refine lv_iconst (v := 0) hx hb dX6_readNegation_41 (by decide) ?_
      have hPc := hP.sub (ws' := [(trule, .inr (4, G4 ua w_20)), ((ua 0), .inl (E 0, 120, .inl w_18)), ((ua 1), .inl (E 0, 120, .inl w_19))]) [2, 3, 4] rfl
      have hDc := hD.sub (ws' := [(trule, .inr (4, G4 ua w_20)), ((ua 0), .inl (E 0, 120, .inl w_18)), ((ua 1), .inl (E 0, 120, .inl w_19))]) [2, 3, 4] (by decide) rfl
      refine aft_v (runMV (rest := []) (As := [.int 6, .int 0]) hx hb hml hown htb hK (g_X4_add l D E trule ua w_20 w_18 w_19 6 0 _ (by (try dsimp only); omega)) ok_X4_add k_696 k_697 k_698 k_6 k_699 ⟨show 0 + 1 ≤ b + 8 + 5 from by omega, show 8 + (3 + 11) + 40 * (0) ≤ 40 * (b + 8 + 5) from by omega⟩ ⟨(Nat.le_of_ble_eq_true rfl), (Nat.le_of_ble_eq_true rfl)⟩ hl.1 (Nat.le_of_ble_eq_true rfl) rfl rfl dX6_readNegation_42 hPc hDc rfl rfl 0 rfl) hP hD hS hA [2, 3, 4] [0, 1] (wr := [(th, .inr (6, G6 ta tsize trule twords w_14 w_16 w_17 w_15)), ((ta 0), .inl (E 0, 120, .inl tf0))]) rfl rfl (by decide) (by decide) (fun u_23 H locs hw_22 hP hD hS => ?_)
      clear hPc hDc
      obtain ⟨w_24, w_25, w_26⟩ := u_23
      try dsimp only at hw_22
      have hP : va_P D vwCl [(th, .inr (6, G6 ta tsize trule twords w_14 w_16 w_17 w_15)), ((ta 0), .inl (E 0, 120, .inl tf0)), (trule, .inr (4, G4 ua w_26)), ((ua 0), .inl (E 0, 120, .inl w_24)), ((ua 1), .inl (E 0, 120, .inl w_25))] H := hP
      have hD := toW hP hD rfl
      try simp only [t_0, t_6] at hw_22
      refine lv_iload_n hx hb dX6_readNegation_45 rfl (lv_at hl 0 rfl) ?_
      have hP9 := hP.sub (ws' := [(th, .inr (6, G6 ta tsize trule twords w_14 w_16 w_17 w_15)), ((ta 0), .inl (E 0, 120, .inl tf0)), (trule, .inr (4, G4 ua w_26)), ((ua 0), .inl (E 0, 120, .inl w_24)), ((ua 1), .inl (E 0, 120, .inl w_25))]) [0, 1, 2, 3, 4] rfl
      have hD9 := hD.sub (ws' := [(th, .inr (6, G6 ta tsize trule twords w_14 w_16 w_17 w_15)), ((ta 0), .inl (E 0, 120, .inl tf0)), (trule, .inr (4, G4 ua w_26)), ((ua 0), .inl (E 0, 120, .inl w_24)), ((ua 1), .inl (E 0, 120, .inl w_25))]) [0, 1, 2, 3, 4] (by decide) rfl
      exact W.zret (v := r_11) hx hb hr (nar_z (by omega) (by omega)) (fun t ht hW => ⟨⟨r_11, (w_14, w_15, w_16, w_17, w_24, w_25, w_26), rfl, ⟨(by (try dsimp only); omega), (by (try dsimp only); omega), (by (try dsimp only); omega)⟩, by rw [ht]; exact hP9, hD9⟩, hS.F ht⟩) hS.2.2 dX6_readNegation_46
    ·
      have ic_2 : 15 ≤ p0.toInt := by first | exact (g_le t_15 rfl).mp c_2 | (have h := mt (g_lt rfl t_15).mpr c_2; omega)
      clear c_2
      refine lv_iconst (v := 0) hx hb dX6_readNegation_21 (by decide) ?_
      have hP9 := hP.sub (ws' := [(th, .inr (6, G6 ta tsize trule twords tat tword twordAt tvalue)), ((ta 0), .inl (E 0, 120, .inl tf0)), (trule, .inr (4, G4 ua usize)), ((ua 0), .inl (E 0, 120, .inl uf0)), ((ua 1), .inl (E 0, 120, .inl uf1))]) [0, 1, 2, 3, 4] rfl
      have hD9 := hD.sub (ws' := [(th, .inr (6, G6 ta tsize trule twords tat tword twordAt tvalue)), ((ta 0), .inl (E 0, 120, .inl tf0)), (trule, .inr (4, G4 ua usize)), ((ua 0), .inl (E 0, 120, .inl uf0)), ((ua 1), .inl (E 0, 120, .inl uf1))]) [0, 1, 2, 3, 4] (by decide) rfl
      exact W.zret (v := 0) hx hb hr rfl (fun t ht hW => ⟨⟨0, (tat, tvalue, tword, twordAt, uf0, uf1, usize), rfl, ⟨(by (try dsimp only); omega), (by (try dsimp only); omega), (by have h0 := t_0; (try dsimp only); omega)⟩, by rw [ht]; exact hP9, hD9⟩, hS.F ht⟩) hS.2.2 dX6_readNegation_22
  ·
    have ic_1 : tword.toInt ≠ 6 := mt (g_eq rfl t_6).mpr c_1
    clear c_1
    refine lv_aload_n hx hb dX6_readNegation_9 rfl (lv_at hl 0 rfl) ?_
    refine lv_iload_n hx hb dX6_readNegation_10 rfl (lv_at hl 1 rfl) ?_
    have hPc := hP.sub (ws' := [(th, .inr (6, G6 ta tsize trule twords tat tword twordAt tvalue)), ((ta 0), .inl (E 0, 120, .inl tf0)), (trule, .inr (4, G4 ua usize)), ((ua 0), .inl (E 0, 120, .inl uf0)), ((ua 1), .inl (E 0, 120, .inl uf1))]) [0, 1, 2, 3, 4] rfl
    have hDc := hD.sub (ws' := [(th, .inr (6, G6 ta tsize trule twords tat tword twordAt tvalue)), ((ta 0), .inl (E 0, 120, .inl tf0)), (trule, .inr (4, G4 ua usize)), ((ua 0), .inl (E 0, 120, .inl uf0)), ((ua 1), .inl (E 0, 120, .inl uf1))]) [0, 1, 2, 3, 4] (by decide) rfl
    refine aft_i (runMG (rest := []) (As := [.int p0]) hx hb hml hown htb ((hX) D E th ta tsize trule twords tat tword twordAt tvalue tf0 ua usize uf0 uf1 sv sn sf _ (by (try dsimp only); omega) (by (try dsimp only); omega) hsn (by (try dsimp only); omega) g1) ok_X6_readComparison k_680 k_682 ks_19 k_5 k_683 ⟨show b + 8 + 4 + 1 ≤ b + 8 + 5 from by omega, show 8 + (4 + 11) + 40 * (b + 8 + 4) ≤ 40 * (b + 8 + 5) from by omega⟩ ⟨(Nat.le_of_ble_eq_true rfl), (Nat.le_of_ble_eq_true rfl)⟩ hl.1 (Nat.le_of_ble_eq_true rfl) rfl rfl dX6_readNegation_11 (pmVS hPc hDc hK rfl rfl 0 rfl hG hS (va_free hD hS hA [0, 1, 2, 3, 4] rfl))) hP hD hS hA [0, 1, 2, 3, 4] [] (wr := ([] : va_W)) rfl rfl (by decide) (by decide) (fun r_27 u_29 H locs hw_28 hP hD hS => ?_)
    clear hPc hDc
    obtain ⟨w_30, w_31, w_32, w_33, w_34, w_35, w_36⟩ := u_29
    try dsimp only at hw_28
    have hP : va_P D vwCl [(th, .inr (6, G6 ta tsize trule twords w_30 w_32 w_33 w_31)), ((ta 0), .inl (E 0, 120, .inl tf0)), (trule, .inr (4, G4 ua w_36)), ((ua 0), .inl (E 0, 120, .inl w_34)), ((ua 1), .inl (E 0, 120, .inl w_35))] H := hP
    have hD := toW hP hD rfl
    obtain ⟨hw_28_0, hw_28_1, hw_28_2⟩ := hw_28
    have hP9 := hP.sub (ws' := [(th, .inr (6, G6 ta tsize trule twords w_30 w_32 w_33 w_31)), ((ta 0), .inl (E 0, 120, .inl tf0)), (trule, .inr (4, G4 ua w_36)), ((ua 0), .inl (E 0, 120, .inl w_34)), ((ua 1), .inl (E 0, 120, .inl w_35))]) [0, 1, 2, 3, 4] rfl
    have hD9 := hD.sub (ws' := [(th, .inr (6, G6 ta tsize trule twords w_30 w_32 w_33 w_31)), ((ta 0), .inl (E 0, 120, .inl tf0)), (trule, .inr (4, G4 ua w_36)), ((ua 0), .inl (E 0, 120, .inl w_34)), ((ua 1), .inl (E 0, 120, .inl w_35))]) [0, 1, 2, 3, 4] (by decide) rfl
    exact W.zret (v := r_27) hx hb hr (nar_z (by omega) (by omega)) (fun t ht hW => ⟨⟨r_27, (w_30, w_31, w_32, w_33, w_34, w_35, w_36), rfl, ⟨(by (try dsimp only); omega), (by (try dsimp only); omega), (by (try dsimp only); omega)⟩, by rw [ht]; exact hP9, hD9⟩, hS.F ht⟩) hS.2.2 dX6_readNegation_14
set_option maxHeartbeats 4000000 in
set_option maxRecDepth 100000 in
theorem g_X6_readBoth (l : Launch) (b : Nat) (p0 : Int32) (hb8 : 8 ≤ b) (h15 : 0 ≤ p0.toInt ∧ p0.toInt ≤ 15) (hX : M_X6_readNegation l (b) p0) : M_X6_readBoth l (b) p0 := by
  intro D E th ta tsize trule twords tat tword twordAt tvalue tf0 ua usize uf0 uf1 sv sn sf sz hi_t hi_u hsn g0 g1
  refine Met.ofW (cc := cX6_readBoth) (maxL := 4) (ret := (some .boolean)) (by decide) rfl ?_
  intro p e s m args below meth c s₁ B hml hv
  obtain ⟨rfl, hsz, hP, hK, hD0, hG⟩ := hv
  have hx := B.exec; have hb := B.bytes; have hr := B.returns
  have hts := atoms_spec (ws := wl yX6_readBoth cX6_readBoth 4 (some .boolean)) B.pre
  have htb : ∀ w ∈ tb, w.before _ s = true := fun w h => hts w (List.mem_cons_of_mem _ h)
  have hown : s.vm.findClass RX6 = some m.cls := findClass_of_methodNamed B.named
  have hlocks := B.notSynchronized
  subst hsz
  have hD := hD0.self (sz := s.heap.size)
  generalize hAe : va_A [(th, .inr (6, G6 ta tsize trule twords tat tword twordAt tvalue)), ((ta 0), .inl (E 0, 120, .inl tf0)), (trule, .inr (4, G4 ua usize)), ((ua 0), .inl (E 0, 120, .inl uf0)), ((ua 1), .inl (E 0, 120, .inl uf1))] s.heap.size = A at hD hG ⊢
  have hA : ∀ q : Nat, s.heap.size ≤ q → A q := fun q h => by rw [← hAe]; exact Or.inr h
  have hS : va_S A s.heap s.heap [] := va_S.rf
  have hP : va_P D vwCl [(th, .inr (6, G6 ta tsize trule twords tat tword twordAt tvalue)), ((ta 0), .inl (E 0, 120, .inl tf0)), (trule, .inr (4, G4 ua usize)), ((ua 0), .inl (E 0, 120, .inl uf0)), ((ua 1), .inl (E 0, 120, .inl uf1))] s.heap := hP
  have hl := lv_entry ([.ref th, .int p0]) (n := 4) (Nat.le_of_ble_eq_true rfl)
  rw [lg_entry_eq]
  generalize (lg_sl ([.ref th, .int p0]) ++ List.replicate (4 - (lg_sl ([.ref th, .int p0])).length) Slot.unset).toArray = ls at hl ⊢
  have hl : lv_has ls 4 [(0, .ref th), (1, .int p0)] := hl
  have lo_p0 := i_lo p0; have hi_p0 := i_hi p0
  refine lv_aload_n hx hb dX6_readBoth_0 rfl (lv_at hl 0 rfl) ?_
  refine lv_iload_n hx hb dX6_readBoth_1 rfl (lv_at hl 1 rfl) ?_
  have hPc := hP.sub (ws' := [(th, .inr (6, G6 ta tsize trule twords tat tword twordAt tvalue)), ((ta 0), .inl (E 0, 120, .inl tf0)), (trule, .inr (4, G4 ua usize)), ((ua 0), .inl (E 0, 120, .inl uf0)), ((ua 1), .inl (E 0, 120, .inl uf1))]) [0, 1, 2, 3, 4] rfl
  have hDc := hD.sub (ws' := [(th, .inr (6, G6 ta tsize trule twords tat tword twordAt tvalue)), ((ta 0), .inl (E 0, 120, .inl tf0)), (trule, .inr (4, G4 ua usize)), ((ua 0), .inl (E 0, 120, .inl uf0)), ((ua 1), .inl (E 0, 120, .inl uf1))]) [0, 1, 2, 3, 4] (by decide) rfl
  refine aft_i (runMG (rest := []) (As := [.int p0]) hx hb hml hown htb ((hX) D E th ta tsize trule twords tat tword twordAt tvalue tf0 ua usize uf0 uf1 sv sn sf _ (by (try dsimp only); omega) (by (try dsimp only); omega) hsn (by (try dsimp only); omega) g1) ok_X6_readNegation k_676 k_678 ks_18 k_5 k_679 ⟨show b + 5 + 1 ≤ b + 6 from by omega, show 8 + (3 + 11) + 40 * (b + 5) ≤ 40 * (b + 6) from by omega⟩ ⟨(Nat.le_of_ble_eq_true rfl), (Nat.le_of_ble_eq_true rfl)⟩ hl.1 (Nat.le_of_ble_eq_true rfl) rfl rfl dX6_readBoth_2 (pmVS hPc hDc hK rfl rfl 0 rfl hG hS (va_free hD hS hA [0, 1, 2, 3, 4] rfl))) hP hD hS hA [0, 1, 2, 3, 4] [] (wr := ([] : va_W)) rfl rfl (by decide) (by decide) (fun r_1 u_3 H locs hw_2 hP hD hS => ?_)
  clear hPc hDc
  obtain ⟨w_4, w_5, w_6, w_7, w_8, w_9, w_10⟩ := u_3
  try dsimp only at hw_2
  have hP : va_P D vwCl [(th, .inr (6, G6 ta tsize trule twords w_4 w_6 w_7 w_5)), ((ta 0), .inl (E 0, 120, .inl tf0)), (trule, .inr (4, G4 ua w_10)), ((ua 0), .inl (E 0, 120, .inl w_8)), ((ua 1), .inl (E 0, 120, .inl w_9))] H := hP
  have hD := toW hP hD rfl
  obtain ⟨hw_2_0, hw_2_1, hw_2_2⟩ := hw_2
  refine lv_istore_n (lv' := [(2, .int r_1), (0, .ref th), (1, .int p0)]) hx hb dX6_readBoth_5 rfl hl (by decide) rfl (fun ls hl => ?_)
  refine lv_iconst (v := 0) hx hb dX6_readBoth_6 (by decide) ?_
  refine lv_istore_n (lv' := [(3, .int 0), (2, .int r_1), (0, .ref th), (1, .int p0)]) hx hb dX6_readBoth_7 rfl hl (by decide) rfl (fun ls hl => ?_)
  have loop_11 : ∀ (N_13 : Nat) (L3_8 : Int32) (L2_8 : Int32) (tat_8 : Int32) (tword_8 : Int32) (twordAt_8 : Int32) (tvalue_8 : Int32) (usize_8 : Int32) (uf0_8 : Nat → Int32) (uf1_8 : Nat → Int32) (H : Heap) (locs : List Loc) (ls : Array Slot), 120 - L3_8.toInt < (N_13 : Int) → (0 ≤ usize_8.toInt ∧ usize_8.toInt ≤ 120) → (0 ≤ L3_8.toInt ∧ L3_8.toInt ≤ 120 ∧ 0 ≤ L2_8.toInt ∧ L2_8.toInt ≤ 1) → (0 ≤ tat_8.toInt ∧ tat_8.toInt ≤ tsize.toInt ∧ 0 ≤ twordAt_8.toInt ∧ twordAt_8.toInt ≤ tat_8.toInt) → va_P D vwCl [(th, .inr (6, G6 ta tsize trule twords tat_8 tword_8 twordAt_8 tvalue_8)), ((ta 0), .inl (E 0, 120, .inl tf0)), (trule, .inr (4, G4 ua usize_8)), ((ua 0), .inl (E 0, 120, .inl uf0_8)), ((ua 1), .inl (E 0, 120, .inl uf1_8))] H → va_D A [(th, .inr (6, G6 ta tsize trule twords tat_8 tword_8 twordAt_8 tvalue_8)), ((ta 0), .inl (E 0, 120, .inl tf0)), (trule, .inr (4, G4 ua usize_8)), ((ua 0), .inl (E 0, 120, .inl uf0_8)), ((ua 1), .inl (E 0, 120, .inl uf1_8))] → va_S A s.heap H locs → lv_has ls 4 [(3, .int L3_8), (2, .int L2_8), (0, .ref th), (1, .int p0)] → W p l e (headSpec (wl yX6_readBoth cX6_readBoth 4 (some .boolean)) (RM (b + 6) 0 0)).room s m [Value.ref th, .int p0].toArray below meth c H locs 0 0 (MQ below (va_Qi (fun (r : Int32) (u : (Int32) × (Int32) × (Int32) × (Int32) × (Nat → Int32) × (Nat → Int32) × (Int32)) => (0 ≤ u.2.2.2.2.2.2.toInt ∧ u.2.2.2.2.2.2.toInt ≤ 120) ∧ (0 ≤ u.1.toInt ∧ u.1.toInt ≤ tsize.toInt ∧ 0 ≤ u.2.2.2.1.toInt ∧ u.2.2.2.1.toInt ≤ u.1.toInt) ∧ (0 ≤ r.toInt ∧ r.toInt ≤ 1)) (mu_B D A (fun (u : (Int32) × (Int32) × (Int32) × (Int32) × (Nat → Int32) × (Nat → Int32) × (Int32)) => [(th, .inr (6, G6 ta tsize trule twords u.1 u.2.2.1 u.2.2.2.1 u.2.1)), ((ta 0), .inl (E 0, 120, .inl tf0)), (trule, .inr (4, G4 ua u.2.2.2.2.2.2)), ((ua 0), .inl (E 0, 120, .inl u.2.2.2.2.1)), ((ua 1), .inl (E 0, 120, .inl u.2.2.2.2.2.1))])) A) [Value.ref th, .int p0].toArray s 0 0 A) (F0 m 8 ls []) := by
    intro N_13
    induction N_13 with
    | zero => intro L3_8 L2_8 tat_8 tword_8 twordAt_8 tvalue_8 usize_8 uf0_8 uf1_8 H locs ls hm v_usize_8 v0_8 v1_8 _ _ _ _; exfalso; omega
    | succ N_13 ih_12 =>
      intro L3_8 L2_8 tat_8 tword_8 twordAt_8 tvalue_8 usize_8 uf0_8 uf1_8 H locs ls hm v_usize_8 v0_8 v1_8 hP hD hS hl
      have lo_L3_8 := i_lo L3_8; have hi_L3_8 := i_hi L3_8
      have lo_L2_8 := i_lo L2_8; have hi_L2_8 := i_hi L2_8
      have lo_tat_8 := i_lo tat_8; have hi_tat_8 := i_hi tat_8
      have lo_tword_8 := i_lo tword_8; have hi_tword_8 := i_hi tword_8
      have lo_twordAt_8 := i_lo twordAt_8; have hi_twordAt_8 := i_hi twordAt_8
      have lo_tvalue_8 := i_lo tvalue_8; have hi_tvalue_8 := i_hi tvalue_8
      have lo_usize_8 := i_lo usize_8; have hi_usize_8 := i_hi usize_8
      refine lv_iload_n hx hb dX6_readBoth_8 rfl (lv_at hl 0 rfl) ?_
      refine lv_bipush (v := 120) hx hb dX6_readBoth_9 (by decide) ?_
      refine lv_icmp_ge (tgt := 51) hx hb dX6_readBoth_11 (by decide) (fun c_14 => ?_) (fun c_14 => ?_)
      ·
        have ic_14 : 120 ≤ L3_8.toInt := by first | exact (g_le t_120 rfl).mp c_14 | (have h := mt (g_lt rfl t_120).mpr c_14; omega)
        clear c_14
        refine lv_iload_n hx hb dX6_readBoth_51 rfl (lv_at hl 1 rfl) ?_
        have hP9 := hP.sub (ws' := [(th, .inr (6, G6 ta tsize trule twords tat_8 tword_8 twordAt_8 tvalue_8)), ((ta 0), .inl (E 0, 120, .inl tf0)), (trule, .inr (4, G4 ua usize_8)), ((ua 0), .inl (E 0, 120, .inl uf0_8)), ((ua 1), .inl (E 0, 120, .inl uf1_8))]) [0, 1, 2, 3, 4] rfl
        have hD9 := hD.sub (ws' := [(th, .inr (6, G6 ta tsize trule twords tat_8 tword_8 twordAt_8 tvalue_8)), ((ta 0), .inl (E 0, 120, .inl tf0)), (trule, .inr (4, G4 ua usize_8)), ((ua 0), .inl (E 0, 120, .inl uf0_8)), ((ua 1), .inl (E 0, 120, .inl uf1_8))]) [0, 1, 2, 3, 4] (by decide) rfl
        exact W.zret (v := L2_8) hx hb hr (nar_z (by omega) (by omega)) (fun t ht hW => ⟨⟨L2_8, (tat_8, tvalue_8, tword_8, twordAt_8, uf0_8, uf1_8, usize_8), rfl, ⟨(by (try dsimp only); omega), (by (try dsimp only); omega), (by (try dsimp only); omega)⟩, by rw [ht]; exact hP9, hD9⟩, hS.F ht⟩) hS.2.2 dX6_readBoth_52
      ·
        have ic_14 : L3_8.toInt < 120 := by first | exact (g_lt rfl t_120).mp c_14 | (have h := mt (g_le t_120 rfl).mpr c_14; omega)
        clear c_14
        refine lv_iload_n hx hb dX6_readBoth_14 rfl (lv_at hl 1 rfl) ?_
        refine lv_if_eq (tgt := 51) hx hb dX6_readBoth_15 (by decide) (fun c_15 => ?_) (fun c_15 => ?_)
        ·
          have ic_15 : L2_8.toInt = 0 := (g_eq rfl t_0).mp c_15
          clear c_15
          refine lv_iload_n hx hb dX6_readBoth_51 rfl (lv_at hl 1 rfl) ?_
          have hP9 := hP.sub (ws' := [(th, .inr (6, G6 ta tsize trule twords tat_8 tword_8 twordAt_8 tvalue_8)), ((ta 0), .inl (E 0, 120, .inl tf0)), (trule, .inr (4, G4 ua usize_8)), ((ua 0), .inl (E 0, 120, .inl uf0_8)), ((ua 1), .inl (E 0, 120, .inl uf1_8))]) [0, 1, 2, 3, 4] rfl
          have hD9 := hD.sub (ws' := [(th, .inr (6, G6 ta tsize trule twords tat_8 tword_8 twordAt_8 tvalue_8)), ((ta 0), .inl (E 0, 120, .inl tf0)), (trule, .inr (4, G4 ua usize_8)), ((ua 0), .inl (E 0, 120, .inl uf0_8)), ((ua 1), .inl (E 0, 120, .inl uf1_8))]) [0, 1, 2, 3, 4] (by decide) rfl
          exact W.zret (v := L2_8) hx hb hr (nar_z (by omega) (by omega)) (fun t ht hW => ⟨⟨L2_8, (tat_8, tvalue_8, tword_8, twordAt_8, uf0_8, uf1_8, usize_8), rfl, ⟨(by (try dsimp only); omega), (by (try dsimp only); omega), (by (try dsimp only); omega)⟩, by rw [ht]; exact hP9, hD9⟩, hS.F ht⟩) hS.2.2 dX6_readBoth_52
        ·
          have ic_15 : L2_8.toInt ≠ 0 := mt (g_eq rfl t_0).mpr c_15
          clear c_15
          refine lv_aload_n hx hb dX6_readBoth_18 rfl (lv_at hl 2 rfl) ?_
          refine va_get (D := D) (ci := 6) (v := .int tword_8) (C := RX6) (T := TX6) (N := 8) hx hb htb iX6 hown hK.1 hP 0 rfl rfl 5 (by decide) (htb _ k_163) (fun _ h9 => h9) rfl dX6_readBoth_19 ?_
          refine lv_iconst (v := 5) hx hb dX6_readBoth_22 (by decide) ?_
          refine lv_icmp_ne (tgt := 51) hx hb dX6_readBoth_23 (by decide) (fun c_16 => ?_) (fun c_16 => ?_)
          ·
            have ic_16 : tword_8.toInt ≠ 5 := mt (g_eq rfl t_5).mpr c_16
            clear c_16
            refine lv_iload_n hx hb dX6_readBoth_51 rfl (lv_at hl 1 rfl) ?_
            have hP9 := hP.sub (ws' := [(th, .inr (6, G6 ta tsize trule twords tat_8 tword_8 twordAt_8 tvalue_8)), ((ta 0), .inl (E 0, 120, .inl tf0)), (trule, .inr (4, G4 ua usize_8)), ((ua 0), .inl (E 0, 120, .inl uf0_8)), ((ua 1), .inl (E 0, 120, .inl uf1_8))]) [0, 1, 2, 3, 4] rfl
            have hD9 := hD.sub (ws' := [(th, .inr (6, G6 ta tsize trule twords tat_8 tword_8 twordAt_8 tvalue_8)), ((ta 0), .inl (E 0, 120, .inl tf0)), (trule, .inr (4, G4 ua usize_8)), ((ua 0), .inl (E 0, 120, .inl uf0_8)), ((ua 1), .inl (E 0, 120, .inl uf1_8))]) [0, 1, 2, 3, 4] (by decide) rfl
            exact W.zret (v := L2_8) hx hb hr (nar_z (by omega) (by omega)) (fun t ht hW => ⟨⟨L2_8, (tat_8, tvalue_8, tword_8, twordAt_8, uf0_8, uf1_8, usize_8), rfl, ⟨(by (try dsimp only); omega), (by (try dsimp only); omega), (by (try dsimp only); omega)⟩, by rw [ht]; exact hP9, hD9⟩, hS.F ht⟩) hS.2.2 dX6_readBoth_52
          ·
            have ic_16 : tword_8.toInt = 5 := (g_eq rfl t_5).mp c_16
            clear c_16
            refine lv_aload_n hx hb dX6_readBoth_26 rfl (lv_at hl 2 rfl) ?_
            have hPc := hP.sub (ws' := [(th, .inr (6, G6 ta tsize trule twords tat_8 tword_8 twordAt_8 tvalue_8)), ((ta 0), .inl (E 0, 120, .inl tf0))]) [0, 1] rfl
            have hDc := hD.sub (ws' := [(th, .inr (6, G6 ta tsize trule twords tat_8 tword_8 twordAt_8 tvalue_8)), ((ta 0), .inl (E 0, 120, .inl tf0))]) [0, 1] (by decide) rfl
            refine aft_v (runMG (rest := []) (As := []) hx hb hml hown htb (g_X6_goOn l D E th ta tsize trule twords tat_8 tword_8 twordAt_8 tvalue_8 tf0 sv sn sf _ (by (try dsimp only); omega) hsn (by (try dsimp only); omega) g1) ok_X6_goOn k_591 k_593 ks_11 k_5 k_594 ⟨show 7 + 1 ≤ b + 6 from by omega, show 8 + (1 + 11) + 40 * (7) ≤ 40 * (b + 6) from by omega⟩ ⟨(Nat.le_of_ble_eq_true rfl), (Nat.le_of_ble_eq_true rfl)⟩ hl.1 (Nat.le_of_ble_eq_true rfl) rfl rfl dX6_readBoth_27 (pmVS hPc hDc hK rfl rfl 0 rfl hG hS (va_free hD hS hA [0, 1] rfl))) hP hD hS hA [0, 1] [2, 3, 4] (wr := [(trule, .inr (4, G4 ua usize_8)), ((ua 0), .inl (E 0, 120, .inl uf0_8)), ((ua 1), .inl (E 0, 120, .inl uf1_8))]) rfl rfl (by decide) (by decide) (fun u_19 H locs hw_18 hP hD hS => ?_)
            clear hPc hDc
            obtain ⟨w_20, w_21, w_22, w_23⟩ := u_19
            try dsimp only at hw_18
            have hP : va_P D vwCl [(trule, .inr (4, G4 ua usize_8)), ((ua 0), .inl (E 0, 120, .inl uf0_8)), ((ua 1), .inl (E 0, 120, .inl uf1_8)), (th, .inr (6, G6 ta tsize trule twords w_20 w_22 w_23 w_21)), ((ta 0), .inl (E 0, 120, .inl tf0))] H := hP
            have hD := toW hP hD rfl
            refine lv_aload_n hx hb dX6_readBoth_30 rfl (lv_at hl 2 rfl) ?_
            refine lv_iload_n hx hb dX6_readBoth_31 rfl (lv_at hl 3 rfl) ?_
            have hPc := hP.sub (ws' := [(th, .inr (6, G6 ta tsize trule twords w_20 w_22 w_23 w_21)), ((ta 0), .inl (E 0, 120, .inl tf0)), (trule, .inr (4, G4 ua usize_8)), ((ua 0), .inl (E 0, 120, .inl uf0_8)), ((ua 1), .inl (E 0, 120, .inl uf1_8))]) [3, 4, 0, 1, 2] rfl
            have hDc := hD.sub (ws' := [(th, .inr (6, G6 ta tsize trule twords w_20 w_22 w_23 w_21)), ((ta 0), .inl (E 0, 120, .inl tf0)), (trule, .inr (4, G4 ua usize_8)), ((ua 0), .inl (E 0, 120, .inl uf0_8)), ((ua 1), .inl (E 0, 120, .inl uf1_8))]) [3, 4, 0, 1, 2] (by decide) rfl
            refine aft_i (runMG (rest := []) (As := [.int p0]) hx hb hml hown htb ((hX) D E th ta tsize trule twords w_20 w_22 w_23 w_21 tf0 ua usize_8 uf0_8 uf1_8 sv sn sf _ (by (try dsimp only); omega) (by (try dsimp only); omega) hsn (by (try dsimp only); omega) g1) ok_X6_readNegation k_676 k_678 ks_18 k_5 k_679 ⟨show b + 5 + 1 ≤ b + 6 from by omega, show 8 + (3 + 11) + 40 * (b + 5) ≤ 40 * (b + 6) from by omega⟩ ⟨(Nat.le_of_ble_eq_true rfl), (Nat.le_of_ble_eq_true rfl)⟩ hl.1 (Nat.le_of_ble_eq_true rfl) rfl rfl dX6_readBoth_32 (pmVS hPc hDc hK rfl rfl 0 rfl hG hS (va_free hD hS hA [3, 4, 0, 1, 2] rfl))) hP hD hS hA [3, 4, 0, 1, 2] [] (wr := ([] : va_W)) rfl rfl (by decide) (by decide) (fun r_24 u_26 H locs hw_25 hP hD hS => ?_)
            clear hPc hDc
            obtain ⟨w_27, w_28, w_29, w_30, w_31, w_32, w_33⟩ := u_26
            try dsimp only at hw_25
            have hP : va_P D vwCl [(th, .inr (6, G6 ta tsize trule twords w_27 w_29 w_30 w_28)), ((ta 0), .inl (E 0, 120, .inl tf0)), (trule, .inr (4, G4 ua w_33)), ((ua 0), .inl (E 0, 120, .inl w_31)), ((ua 1), .inl (E 0, 120, .inl w_32))] H := hP
            have hD := toW hP hD rfl
            obtain ⟨hw_25_0, hw_25_1, hw_25_2⟩ := hw_25
            refine lv_istore_n (lv' := [(2, .int r_24), (3, .int L3_8), (0, .ref th), (1, .int p0)]) hx hb dX6_readBoth_35 rfl hl (by decide) rfl (fun ls hl => ?_)
            refine lv_aload_n hx hb dX6_readBoth_36 rfl (lv_at hl 2 rfl) ?_
            refine va_get (D := D) (ci := 6) (v := .ref trule) (C := RX6) (T := TX6) (N := 8) hx hb htb iX6 hown hK.1 hP 0 rfl rfl 2 (by decide) (htb _ k_160) (fun _ h9 => h9) rfl dX6_readBoth_37 ?_
            refine lv_iconst (v := 5) hx hb dX6_readBoth_40 (by decide) ?_
            refine lv_iconst (v := 0) hx hb dX6_readBoth_41 (by decide) ?_
            have hPc := hP.sub (ws' := [(trule, .inr (4, G4 ua w_33)), ((ua 0), .inl (E 0, 120, .inl w_31)), ((ua 1), .inl (E 0, 120, .inl w_32))]) [2, 3, 4] rfl
            have hDc := hD.sub (ws' := [(trule, .inr (4, G4 ua w_33)), ((ua 0), .inl (E 0, 120, .inl w_31)), ((ua 1), .inl (E 0, 120, .inl w_32))]) [2, 3, 4] (by decide) rfl
            refine aft_v (runMV (rest := []) (As := [.int 5, .int 0]) hx hb hml hown htb hK (g_X4_add l D E trule ua w_33 w_31 w_32 5 0 _ (by (try dsimp only); omega)) ok_X4_add k_696 k_697 k_698 k_6 k_699 ⟨show 0 + 1 ≤ b + 6 from by omega, show 8 + (3 + 11) + 40 * (0) ≤ 40 * (b + 6) from by omega⟩ ⟨(Nat.le_of_ble_eq_true rfl), (Nat.le_of_ble_eq_true rfl)⟩ hl.1 (Nat.le_of_ble_eq_true rfl) rfl rfl dX6_readBoth_42 hPc hDc rfl rfl 0 rfl) hP hD hS hA [2, 3, 4] [0, 1] (wr := [(th, .inr (6, G6 ta tsize trule twords w_27 w_29 w_30 w_28)), ((ta 0), .inl (E 0, 120, .inl tf0))]) rfl rfl (by decide) (by decide) (fun u_36 H locs hw_35 hP hD hS => ?_)
            clear hPc hDc
            obtain ⟨w_37, w_38, w_39⟩ := u_36
            try dsimp only at hw_35
            have hP : va_P D vwCl [(th, .inr (6, G6 ta tsize trule twords w_27 w_29 w_30 w_28)), ((ta 0), .inl (E 0, 120, .inl tf0)), (trule, .inr (4, G4 ua w_39)), ((ua 0), .inl (E 0, 120, .inl w_37)), ((ua 1), .inl (E 0, 120, .inl w_38))] H := hP
            have hD := toW hP hD rfl
            try simp only [t_0, t_5] at hw_35
            obtain ⟨z_40, ez_40⟩ : ∃ y : Int32, y = L3_8 + 1 := ⟨_, rfl⟩
            have jz_40 : z_40.toInt = L3_8.toInt + 1 := by rw [ez_40]; exact g_add rfl t_1 (by omega) (by omega)
            refine lv_iinc (v := z_40) (lv' := [(3, .int z_40), (2, .int r_24), (0, .ref th), (1, .int p0)]) hx hb dX6_readBoth_45 hl (k := 1) rfl (by rw [ez_40]; rfl) (by decide) rfl (fun ls hl => ?_)
            refine lv_goto (tgt := 8) hx hb dX6_readBoth_48 (by decide) ?_
            exact ih_12 z_40 r_24 w_27 w_29 w_30 w_28 w_39 w_37 w_38 _ _ _ (by (try dsimp only); omega) (by (try dsimp only); omega) (by (try dsimp only); omega) (by (try dsimp only); omega) hP hD hS (lv_sub hl [0, 1, 2, 3] rfl)
  exact loop_11 121 0 r_1 w_4 w_6 w_7 w_5 w_10 w_8 w_9 _ _ _ (by have h0 := t_0; (try dsimp only); omega) (by (try dsimp only); omega) (by have h0 := t_0; (try dsimp only); omega) (by have h0 := t_0; (try dsimp only); omega) hP hD hS (lv_sub hl [0, 1, 2, 3] rfl)
set_option maxHeartbeats 4000000 in
set_option maxRecDepth 100000 in
theorem g_X6_readEither (l : Launch) (b : Nat) (p0 : Int32) (hb8 : 8 ≤ b) (h15 : 0 ≤ p0.toInt ∧ p0.toInt ≤ 15) (hX : M_X6_readBoth l (b) p0) : M_X6_readEither l (b) p0 := by
  intro D E th ta tsize trule twords tat tword twordAt tvalue tf0 ua usize uf0 uf1 sv sn sf sz hi_t hi_u hsn g0 g1
  refine Met.ofW (cc := cX6_readEither) (maxL := 4) (ret := (some .boolean)) (by decide) rfl ?_
  intro p e s m args below meth c s₁ B hml hv
  obtain ⟨rfl, hsz, hP, hK, hD0, hG⟩ := hv
  have hx := B.exec; have hb := B.bytes; have hr := B.returns
  have hts := atoms_spec (ws := wl yX6_readEither cX6_readEither 4 (some .boolean)) B.pre
  have htb : ∀ w ∈ tb, w.before _ s = true := fun w h => hts w (List.mem_cons_of_mem _ h)
  have hown : s.vm.findClass RX6 = some m.cls := findClass_of_methodNamed B.named
  have hlocks := B.notSynchronized
  subst hsz
  have hD := hD0.self (sz := s.heap.size)
  generalize hAe : va_A [(th, .inr (6, G6 ta tsize trule twords tat tword twordAt tvalue)), ((ta 0), .inl (E 0, 120, .inl tf0)), (trule, .inr (4, G4 ua usize)), ((ua 0), .inl (E 0, 120, .inl uf0)), ((ua 1), .inl (E 0, 120, .inl uf1))] s.heap.size = A at hD hG ⊢
  have hA : ∀ q : Nat, s.heap.size ≤ q → A q := fun q h => by rw [← hAe]; exact Or.inr h
  have hS : va_S A s.heap s.heap [] := va_S.rf
  have hP : va_P D vwCl [(th, .inr (6, G6 ta tsize trule twords tat tword twordAt tvalue)), ((ta 0), .inl (E 0, 120, .inl tf0)), (trule, .inr (4, G4 ua usize)), ((ua 0), .inl (E 0, 120, .inl uf0)), ((ua 1), .inl (E 0, 120, .inl uf1))] s.heap := hP
  have hl := lv_entry ([.ref th, .int p0]) (n := 4) (Nat.le_of_ble_eq_true rfl)
  rw [lg_entry_eq]
  generalize (lg_sl ([.ref th, .int p0]) ++ List.replicate (4 - (lg_sl ([.ref th, .int p0])).length) Slot.unset).toArray = ls at hl ⊢
  have hl : lv_has ls 4 [(0, .ref th), (1, .int p0)] := hl
  have lo_p0 := i_lo p0; have hi_p0 := i_hi p0
  refine lv_aload_n hx hb dX6_readEither_0 rfl (lv_at hl 0 rfl) ?_
  refine lv_iload_n hx hb dX6_readEither_1 rfl (lv_at hl 1 rfl) ?_
  have hPc := hP.sub (ws' := [(th, .inr (6, G6 ta tsize trule twords tat tword twordAt tvalue)), ((ta 0), .inl (E 0, 120, .inl tf0)), (trule, .inr (4, G4 ua usize)), ((ua 0), .inl (E 0, 120, .inl uf0)), ((ua 1), .inl (E 0, 120, .inl uf1))]) [0, 1, 2, 3, 4] rfl
  have hDc := hD.sub (ws' := [(th, .inr (6, G6 ta tsize trule twords tat tword twordAt tvalue)), ((ta 0), .inl (E 0, 120, .inl tf0)), (trule, .inr (4, G4 ua usize)), ((ua 0), .inl (E 0, 120, .inl uf0)), ((ua 1), .inl (E 0, 120, .inl uf1))]) [0, 1, 2, 3, 4] (by decide) rfl
  refine aft_i (runMG (rest := []) (As := [.int p0]) hx hb hml hown htb ((hX) D E th ta tsize trule twords tat tword twordAt tvalue tf0 ua usize uf0 uf1 sv sn sf _ (by (try dsimp only); omega) (by (try dsimp only); omega) hsn (by (try dsimp only); omega) g1) ok_X6_readBoth k_672 k_674 ks_17 k_5 k_675 ⟨show b + 6 + 1 ≤ b + 7 from by omega, show 8 + (4 + 11) + 40 * (b + 6) ≤ 40 * (b + 7) from by omega⟩ ⟨(Nat.le_of_ble_eq_true rfl), (Nat.le_of_ble_eq_true rfl)⟩ hl.1 (Nat.le_of_ble_eq_true rfl) rfl rfl dX6_readEither_2 (pmVS hPc hDc hK rfl rfl 0 rfl hG hS (va_free hD hS hA [0, 1, 2, 3, 4] rfl))) hP hD hS hA [0, 1, 2, 3, 4] [] (wr := ([] : va_W)) rfl rfl (by decide) (by decide) (fun r_1 u_3 H locs hw_2 hP hD hS => ?_)
  clear hPc hDc
  obtain ⟨w_4, w_5, w_6, w_7, w_8, w_9, w_10⟩ := u_3
  try dsimp only at hw_2
  have hP : va_P D vwCl [(th, .inr (6, G6 ta tsize trule twords w_4 w_6 w_7 w_5)), ((ta 0), .inl (E 0, 120, .inl tf0)), (trule, .inr (4, G4 ua w_10)), ((ua 0), .inl (E 0, 120, .inl w_8)), ((ua 1), .inl (E 0, 120, .inl w_9))] H := hP
  have hD := toW hP hD rfl
  obtain ⟨hw_2_0, hw_2_1, hw_2_2⟩ := hw_2
  refine lv_istore_n (lv' := [(2, .int r_1), (0, .ref th), (1, .int p0)]) hx hb dX6_readEither_5 rfl hl (by decide) rfl (fun ls hl => ?_)
  refine lv_iconst (v := 0) hx hb dX6_readEither_6 (by decide) ?_
  refine lv_istore_n (lv' := [(3, .int 0), (2, .int r_1), (0, .ref th), (1, .int p0)]) hx hb dX6_readEither_7 rfl hl (by decide) rfl (fun ls hl => ?_)
  have loop_11 : ∀ (N_13 : Nat) (L3_8 : Int32) (L2_8 : Int32) (tat_8 : Int32) (tword_8 : Int32) (twordAt_8 : Int32) (tvalue_8 : Int32) (usize_8 : Int32) (uf0_8 : Nat → Int32) (uf1_8 : Nat → Int32) (H : Heap) (locs : List Loc) (ls : Array Slot), 120 - L3_8.toInt < (N_13 : Int) → (0 ≤ usize_8.toInt ∧ usize_8.toInt ≤ 120) → (0 ≤ L3_8.toInt ∧ L3_8.toInt ≤ 120 ∧ 0 ≤ L2_8.toInt ∧ L2_8.toInt ≤ 1) → (0 ≤ tat_8.toInt ∧ tat_8.toInt ≤ tsize.toInt ∧ 0 ≤ twordAt_8.toInt ∧ twordAt_8.toInt ≤ tat_8.toInt) → va_P D vwCl [(th, .inr (6, G6 ta tsize trule twords tat_8 tword_8 twordAt_8 tvalue_8)), ((ta 0), .inl (E 0, 120, .inl tf0)), (trule, .inr (4, G4 ua usize_8)), ((ua 0), .inl (E 0, 120, .inl uf0_8)), ((ua 1), .inl (E 0, 120, .inl uf1_8))] H → va_D A [(th, .inr (6, G6 ta tsize trule twords tat_8 tword_8 twordAt_8 tvalue_8)), ((ta 0), .inl (E 0, 120, .inl tf0)), (trule, .inr (4, G4 ua usize_8)), ((ua 0), .inl (E 0, 120, .inl uf0_8)), ((ua 1), .inl (E 0, 120, .inl uf1_8))] → va_S A s.heap H locs → lv_has ls 4 [(3, .int L3_8), (2, .int L2_8), (0, .ref th), (1, .int p0)] → W p l e (headSpec (wl yX6_readEither cX6_readEither 4 (some .boolean)) (RM (b + 7) 0 0)).room s m [Value.ref th, .int p0].toArray below meth c H locs 0 0 (MQ below (va_Qi (fun (r : Int32) (u : (Int32) × (Int32) × (Int32) × (Int32) × (Nat → Int32) × (Nat → Int32) × (Int32)) => (0 ≤ u.2.2.2.2.2.2.toInt ∧ u.2.2.2.2.2.2.toInt ≤ 120) ∧ (0 ≤ u.1.toInt ∧ u.1.toInt ≤ tsize.toInt ∧ 0 ≤ u.2.2.2.1.toInt ∧ u.2.2.2.1.toInt ≤ u.1.toInt) ∧ (0 ≤ r.toInt ∧ r.toInt ≤ 1)) (mu_B D A (fun (u : (Int32) × (Int32) × (Int32) × (Int32) × (Nat → Int32) × (Nat → Int32) × (Int32)) => [(th, .inr (6, G6 ta tsize trule twords u.1 u.2.2.1 u.2.2.2.1 u.2.1)), ((ta 0), .inl (E 0, 120, .inl tf0)), (trule, .inr (4, G4 ua u.2.2.2.2.2.2)), ((ua 0), .inl (E 0, 120, .inl u.2.2.2.2.1)), ((ua 1), .inl (E 0, 120, .inl u.2.2.2.2.2.1))])) A) [Value.ref th, .int p0].toArray s 0 0 A) (F0 m 8 ls []) := by
    intro N_13
    induction N_13 with
    | zero => intro L3_8 L2_8 tat_8 tword_8 twordAt_8 tvalue_8 usize_8 uf0_8 uf1_8 H locs ls hm v_usize_8 v0_8 v1_8 _ _ _ _; exfalso; omega
    | succ N_13 ih_12 =>
      intro L3_8 L2_8 tat_8 tword_8 twordAt_8 tvalue_8 usize_8 uf0_8 uf1_8 H locs ls hm v_usize_8 v0_8 v1_8 hP hD hS hl
      have lo_L3_8 := i_lo L3_8; have hi_L3_8 := i_hi L3_8
      have lo_L2_8 := i_lo L2_8; have hi_L2_8 := i_hi L2_8
      have lo_tat_8 := i_lo tat_8; have hi_tat_8 := i_hi tat_8
      have lo_tword_8 := i_lo tword_8; have hi_tword_8 := i_hi tword_8
      have lo_twordAt_8 := i_lo twordAt_8; have hi_twordAt_8 := i_hi twordAt_8
      have lo_tvalue_8 := i_lo tvalue_8; have hi_tvalue_8 := i_hi tvalue_8
      have lo_usize_8 := i_lo usize_8; have hi_usize_8 := i_hi usize_8
      refine lv_iload_n hx hb dX6_readEither_8 rfl (lv_at hl 0 rfl) ?_
      refine lv_bipush (v := 120) hx hb dX6_readEither_9 (by decide) ?_
      refine lv_icmp_ge (tgt := 51) hx hb dX6_readEither_11 (by decide) (fun c_14 => ?_) (fun c_14 => ?_)
      ·
        have ic_14 : 120 ≤ L3_8.toInt := by first | exact (g_le t_120 rfl).mp c_14 | (have h := mt (g_lt rfl t_120).mpr c_14; omega)
        clear c_14
        refine lv_iload_n hx hb dX6_readEither_51 rfl (lv_at hl 1 rfl) ?_
        have hP9 := hP.sub (ws' := [(th, .inr (6, G6 ta tsize trule twords tat_8 tword_8 twordAt_8 tvalue_8)), ((ta 0), .inl (E 0, 120, .inl tf0)), (trule, .inr (4, G4 ua usize_8)), ((ua 0), .inl (E 0, 120, .inl uf0_8)), ((ua 1), .inl (E 0, 120, .inl uf1_8))]) [0, 1, 2, 3, 4] rfl
        have hD9 := hD.sub (ws' := [(th, .inr (6, G6 ta tsize trule twords tat_8 tword_8 twordAt_8 tvalue_8)), ((ta 0), .inl (E 0, 120, .inl tf0)), (trule, .inr (4, G4 ua usize_8)), ((ua 0), .inl (E 0, 120, .inl uf0_8)), ((ua 1), .inl (E 0, 120, .inl uf1_8))]) [0, 1, 2, 3, 4] (by decide) rfl
        exact W.zret (v := L2_8) hx hb hr (nar_z (by omega) (by omega)) (fun t ht hW => ⟨⟨L2_8, (tat_8, tvalue_8, tword_8, twordAt_8, uf0_8, uf1_8, usize_8), rfl, ⟨(by (try dsimp only); omega), (by (try dsimp only); omega), (by (try dsimp only); omega)⟩, by rw [ht]; exact hP9, hD9⟩, hS.F ht⟩) hS.2.2 dX6_readEither_52
      ·
        have ic_14 : L3_8.toInt < 120 := by first | exact (g_lt rfl t_120).mp c_14 | (have h := mt (g_le t_120 rfl).mpr c_14; omega)
        clear c_14
        refine lv_iload_n hx hb dX6_readEither_14 rfl (lv_at hl 1 rfl) ?_
        refine lv_if_eq (tgt := 51) hx hb dX6_readEither_15 (by decide) (fun c_15 => ?_) (fun c_15 => ?_)
        ·
          have ic_15 : L2_8.toInt = 0 := (g_eq rfl t_0).mp c_15
          clear c_15
          refine lv_iload_n hx hb dX6_readEither_51 rfl (lv_at hl 1 rfl) ?_
          have hP9 := hP.sub (ws' := [(th, .inr (6, G6 ta tsize trule twords tat_8 tword_8 twordAt_8 tvalue_8)), ((ta 0), .inl (E 0, 120, .inl tf0)), (trule, .inr (4, G4 ua usize_8)), ((ua 0), .inl (E 0, 120, .inl uf0_8)), ((ua 1), .inl (E 0, 120, .inl uf1_8))]) [0, 1, 2, 3, 4] rfl
          have hD9 := hD.sub (ws' := [(th, .inr (6, G6 ta tsize trule twords tat_8 tword_8 twordAt_8 tvalue_8)), ((ta 0), .inl (E 0, 120, .inl tf0)), (trule, .inr (4, G4 ua usize_8)), ((ua 0), .inl (E 0, 120, .inl uf0_8)), ((ua 1), .inl (E 0, 120, .inl uf1_8))]) [0, 1, 2, 3, 4] (by decide) rfl
          exact W.zret (v := L2_8) hx hb hr (nar_z (by omega) (by omega)) (fun t ht hW => ⟨⟨L2_8, (tat_8, tvalue_8, tword_8, twordAt_8, uf0_8, uf1_8, usize_8), rfl, ⟨(by (try dsimp only); omega), (by (try dsimp only); omega), (by (try dsimp only); omega)⟩, by rw [ht]; exact hP9, hD9⟩, hS.F ht⟩) hS.2.2 dX6_readEither_52
        ·
          have ic_15 : L2_8.toInt ≠ 0 := mt (g_eq rfl t_0).mpr c_15
          clear c_15
          refine lv_aload_n hx hb dX6_readEither_18 rfl (lv_at hl 2 rfl) ?_
          refine va_get (D := D) (ci := 6) (v := .int tword_8) (C := RX6) (T := TX6) (N := 8) hx hb htb iX6 hown hK.1 hP 0 rfl rfl 5 (by decide) (htb _ k_163) (fun _ h9 => h9) rfl dX6_readEither_19 ?_
          refine lv_iconst (v := 4) hx hb dX6_readEither_22 (by decide) ?_
          refine lv_icmp_ne (tgt := 51) hx hb dX6_readEither_23 (by decide) (fun c_16 => ?_) (fun c_16 => ?_)
          ·
            have ic_16 : tword_8.toInt ≠ 4 := mt (g_eq rfl t_4).mpr c_16
            clear c_16
            refine lv_iload_n hx hb dX6_readEither_51 rfl (lv_at hl 1 rfl) ?_
            have hP9 := hP.sub (ws' := [(th, .inr (6, G6 ta tsize trule twords tat_8 tword_8 twordAt_8 tvalue_8)), ((ta 0), .inl (E 0, 120, .inl tf0)), (trule, .inr (4, G4 ua usize_8)), ((ua 0), .inl (E 0, 120, .inl uf0_8)), ((ua 1), .inl (E 0, 120, .inl uf1_8))]) [0, 1, 2, 3, 4] rfl
            have hD9 := hD.sub (ws' := [(th, .inr (6, G6 ta tsize trule twords tat_8 tword_8 twordAt_8 tvalue_8)), ((ta 0), .inl (E 0, 120, .inl tf0)), (trule, .inr (4, G4 ua usize_8)), ((ua 0), .inl (E 0, 120, .inl uf0_8)), ((ua 1), .inl (E 0, 120, .inl uf1_8))]) [0, 1, 2, 3, 4] (by decide) rfl
            exact W.zret (v := L2_8) hx hb hr (nar_z (by omega) (by omega)) (fun t ht hW => ⟨⟨L2_8, (tat_8, tvalue_8, tword_8, twordAt_8, uf0_8, uf1_8, usize_8), rfl, ⟨(by (try dsimp only); omega), (by (try dsimp only); omega), (by (try dsimp only); omega)⟩, by rw [ht]; exact hP9, hD9⟩, hS.F ht⟩) hS.2.2 dX6_readEither_52
          ·
            have ic_16 : tword_8.toInt = 4 := (g_eq rfl t_4).mp c_16
            clear c_16
            refine lv_aload_n hx hb dX6_readEither_26 rfl (lv_at hl 2 rfl) ?_
            have hPc := hP.sub (ws' := [(th, .inr (6, G6 ta tsize trule twords tat_8 tword_8 twordAt_8 tvalue_8)), ((ta 0), .inl (E 0, 120, .inl tf0))]) [0, 1] rfl
            have hDc := hD.sub (ws' := [(th, .inr (6, G6 ta tsize trule twords tat_8 tword_8 twordAt_8 tvalue_8)), ((ta 0), .inl (E 0, 120, .inl tf0))]) [0, 1] (by decide) rfl
            refine aft_v (runMG (rest := []) (As := []) hx hb hml hown htb (g_X6_goOn l D E th ta tsize trule twords tat_8 tword_8 twordAt_8 tvalue_8 tf0 sv sn sf _ (by (try dsimp only); omega) hsn (by (try dsimp only); omega) g1) ok_X6_goOn k_591 k_593 ks_11 k_5 k_594 ⟨show 7 + 1 ≤ b + 7 from by omega, show 8 + (1 + 11) + 40 * (7) ≤ 40 * (b + 7) from by omega⟩ ⟨(Nat.le_of_ble_eq_true rfl), (Nat.le_of_ble_eq_true rfl)⟩ hl.1 (Nat.le_of_ble_eq_true rfl) rfl rfl dX6_readEither_27 (pmVS hPc hDc hK rfl rfl 0 rfl hG hS (va_free hD hS hA [0, 1] rfl))) hP hD hS hA [0, 1] [2, 3, 4] (wr := [(trule, .inr (4, G4 ua usize_8)), ((ua 0), .inl (E 0, 120, .inl uf0_8)), ((ua 1), .inl (E 0, 120, .inl uf1_8))]) rfl rfl (by decide) (by decide) (fun u_19 H locs hw_18 hP hD hS => ?_)
            clear hPc hDc
            obtain ⟨w_20, w_21, w_22, w_23⟩ := u_19
            try dsimp only at hw_18
            have hP : va_P D vwCl [(trule, .inr (4, G4 ua usize_8)), ((ua 0), .inl (E 0, 120, .inl uf0_8)), ((ua 1), .inl (E 0, 120, .inl uf1_8)), (th, .inr (6, G6 ta tsize trule twords w_20 w_22 w_23 w_21)), ((ta 0), .inl (E 0, 120, .inl tf0))] H := hP
            have hD := toW hP hD rfl
            refine lv_aload_n hx hb dX6_readEither_30 rfl (lv_at hl 2 rfl) ?_
            refine lv_iload_n hx hb dX6_readEither_31 rfl (lv_at hl 3 rfl) ?_
            have hPc := hP.sub (ws' := [(th, .inr (6, G6 ta tsize trule twords w_20 w_22 w_23 w_21)), ((ta 0), .inl (E 0, 120, .inl tf0)), (trule, .inr (4, G4 ua usize_8)), ((ua 0), .inl (E 0, 120, .inl uf0_8)), ((ua 1), .inl (E 0, 120, .inl uf1_8))]) [3, 4, 0, 1, 2] rfl
            have hDc := hD.sub (ws' := [(th, .inr (6, G6 ta tsize trule twords w_20 w_22 w_23 w_21)), ((ta 0), .inl (E 0, 120, .inl tf0)), (trule, .inr (4, G4 ua usize_8)), ((ua 0), .inl (E 0, 120, .inl uf0_8)), ((ua 1), .inl (E 0, 120, .inl uf1_8))]) [3, 4, 0, 1, 2] (by decide) rfl
            refine aft_i (runMG (rest := []) (As := [.int p0]) hx hb hml hown htb ((hX) D E th ta tsize trule twords w_20 w_22 w_23 w_21 tf0 ua usize_8 uf0_8 uf1_8 sv sn sf _ (by (try dsimp only); omega) (by (try dsimp only); omega) hsn (by (try dsimp only); omega) g1) ok_X6_readBoth k_672 k_674 ks_17 k_5 k_675 ⟨show b + 6 + 1 ≤ b + 7 from by omega, show 8 + (4 + 11) + 40 * (b + 6) ≤ 40 * (b + 7) from by omega⟩ ⟨(Nat.le_of_ble_eq_true rfl), (Nat.le_of_ble_eq_true rfl)⟩ hl.1 (Nat.le_of_ble_eq_true rfl) rfl rfl dX6_readEither_32 (pmVS hPc hDc hK rfl rfl 0 rfl hG hS (va_free hD hS hA [3, 4, 0, 1, 2] rfl))) hP hD hS hA [3, 4, 0, 1, 2] [] (wr := ([] : va_W)) rfl rfl (by decide) (by decide) (fun r_24 u_26 H locs hw_25 hP hD hS => ?_)
            clear hPc hDc
            obtain ⟨w_27, w_28, w_29, w_30, w_31, w_32, w_33⟩ := u_26
            try dsimp only at hw_25
            have hP : va_P D vwCl [(th, .inr (6, G6 ta tsize trule twords w_27 w_29 w_30 w_28)), ((ta 0), .inl (E 0, 120, .inl tf0)), (trule, .inr (4, G4 ua w_33)), ((ua 0), .inl (E 0, 120, .inl w_31)), ((ua 1), .inl (E 0, 120, .inl w_32))] H := hP
            have hD := toW hP hD rfl
            obtain ⟨hw_25_0, hw_25_1, hw_25_2⟩ := hw_25
            refine lv_istore_n (lv' := [(2, .int r_24), (3, .int L3_8), (0, .ref th), (1, .int p0)]) hx hb dX6_readEither_35 rfl hl (by decide) rfl (fun ls hl => ?_)
            refine lv_aload_n hx hb dX6_readEither_36 rfl (lv_at hl 2 rfl) ?_
            refine va_get (D := D) (ci := 6) (v := .ref trule) (C := RX6) (T := TX6) (N := 8) hx hb htb iX6 hown hK.1 hP 0 rfl rfl 2 (by decide) (htb _ k_160) (fun _ h9 => h9) rfl dX6_readEither_37 ?_
            refine lv_iconst (v := 4) hx hb dX6_readEither_40 (by decide) ?_
            refine lv_iconst (v := 0) hx hb dX6_readEither_41 (by decide) ?_
            have hPc := hP.sub (ws' := [(trule, .inr (4, G4 ua w_33)), ((ua 0), .inl (E 0, 120, .inl w_31)), ((ua 1), .inl (E 0, 120, .inl w_32))]) [2, 3, 4] rfl
            have hDc := hD.sub (ws' := [(trule, .inr (4, G4 ua w_33)), ((ua 0), .inl (E 0, 120, .inl w_31)), ((ua 1), .inl (E 0, 120, .inl w_32))]) [2, 3, 4] (by decide) rfl
            refine aft_v (runMV (rest := []) (As := [.int 4, .int 0]) hx hb hml hown htb hK (g_X4_add l D E trule ua w_33 w_31 w_32 4 0 _ (by (try dsimp only); omega)) ok_X4_add k_696 k_697 k_698 k_6 k_699 ⟨show 0 + 1 ≤ b + 7 from by omega, show 8 + (3 + 11) + 40 * (0) ≤ 40 * (b + 7) from by omega⟩ ⟨(Nat.le_of_ble_eq_true rfl), (Nat.le_of_ble_eq_true rfl)⟩ hl.1 (Nat.le_of_ble_eq_true rfl) rfl rfl dX6_readEither_42 hPc hDc rfl rfl 0 rfl) hP hD hS hA [2, 3, 4] [0, 1] (wr := [(th, .inr (6, G6 ta tsize trule twords w_27 w_29 w_30 w_28)), ((ta 0), .inl (E 0, 120, .inl tf0))]) rfl rfl (by decide) (by decide) (fun u_36 H locs hw_35 hP hD hS => ?_)
            clear hPc hDc
            obtain ⟨w_37, w_38, w_39⟩ := u_36
            try dsimp only at hw_35
            have hP : va_P D vwCl [(th, .inr (6, G6 ta tsize trule twords w_27 w_29 w_30 w_28)), ((ta 0), .inl (E 0, 120, .inl tf0)), (trule, .inr (4, G4 ua w_39)), ((ua 0), .inl (E 0, 120, .inl w_37)), ((ua 1), .inl (E 0, 120, .inl w_38))] H := hP
            have hD := toW hP hD rfl
            try simp only [t_0, t_4] at hw_35
            obtain ⟨z_40, ez_40⟩ : ∃ y : Int32, y = L3_8 + 1 := ⟨_, rfl⟩
            have jz_40 : z_40.toInt = L3_8.toInt + 1 := by rw [ez_40]; exact g_add rfl t_1 (by omega) (by omega)
            refine lv_iinc (v := z_40) (lv' := [(3, .int z_40), (2, .int r_24), (0, .ref th), (1, .int p0)]) hx hb dX6_readEither_45 hl (k := 1) rfl (by rw [ez_40]; rfl) (by decide) rfl (fun ls hl => ?_)
            refine lv_goto (tgt := 8) hx hb dX6_readEither_48 (by decide) ?_
            exact ih_12 z_40 r_24 w_27 w_29 w_30 w_28 w_39 w_37 w_38 _ _ _ (by (try dsimp only); omega) (by (try dsimp only); omega) (by (try dsimp only); omega) (by (try dsimp only); omega) hP hD hS (lv_sub hl [0, 1, 2, 3] rfl)
  exact loop_11 121 0 r_1 w_4 w_6 w_7 w_5 w_10 w_8 w_9 _ _ _ (by have h0 := t_0; (try dsimp only); omega) (by (try dsimp only); omega) (by have h0 := t_0; (try dsimp only); omega) (by have h0 := t_0; (try dsimp only); omega) hP hD hS (lv_sub hl [0, 1, 2, 3] rfl)
set_option maxHeartbeats 4000000 in
set_option maxRecDepth 100000 in
theorem g_X6_readInBrackets (l : Launch) (b : Nat) (p0 : Int32) (hb8 : 8 ≤ b) (h15 : 0 ≤ p0.toInt ∧ p0.toInt ≤ 15) (hX : M_X6_readEither l (b) p0) : M_X6_readInBrackets l (b) p0 := by
  intro D E th ta tsize trule twords tat tword twordAt tvalue tf0 ua usize uf0 uf1 sv sn sf sz hi_t hi_u hsn g0 g1
  refine Met.ofW (cc := cX6_readInBrackets) (maxL := 2) (ret := (some .boolean)) (by decide) rfl ?_
  intro p e s m args below meth c s₁ B hml hv
  obtain ⟨rfl, hsz, hP, hK, hD0, hG⟩ := hv
  have hx := B.exec; have hb := B.bytes; have hr := B.returns
  have hts := atoms_spec (ws := wl yX6_readInBrackets cX6_readInBrackets 2 (some .boolean)) B.pre
  have htb : ∀ w ∈ tb, w.before _ s = true := fun w h => hts w (List.mem_cons_of_mem _ h)
  have hown : s.vm.findClass RX6 = some m.cls := findClass_of_methodNamed B.named
  have hlocks := B.notSynchronized
  subst hsz
  have hD := hD0.self (sz := s.heap.size)
  generalize hAe : va_A [(th, .inr (6, G6 ta tsize trule twords tat tword twordAt tvalue)), ((ta 0), .inl (E 0, 120, .inl tf0)), (trule, .inr (4, G4 ua usize)), ((ua 0), .inl (E 0, 120, .inl uf0)), ((ua 1), .inl (E 0, 120, .inl uf1))] s.heap.size = A at hD hG ⊢
  have hA : ∀ q : Nat, s.heap.size ≤ q → A q := fun q h => by rw [← hAe]; exact Or.inr h
  have hS : va_S A s.heap s.heap [] := va_S.rf
  have hP : va_P D vwCl [(th, .inr (6, G6 ta tsize trule twords tat tword twordAt tvalue)), ((ta 0), .inl (E 0, 120, .inl tf0)), (trule, .inr (4, G4 ua usize)), ((ua 0), .inl (E 0, 120, .inl uf0)), ((ua 1), .inl (E 0, 120, .inl uf1))] s.heap := hP
  have hl := lv_entry ([.ref th, .int p0]) (n := 2) (Nat.le_of_ble_eq_true rfl)
  rw [lg_entry_eq]
  generalize (lg_sl ([.ref th, .int p0]) ++ List.replicate (2 - (lg_sl ([.ref th, .int p0])).length) Slot.unset).toArray = ls at hl ⊢
  have hl : lv_has ls 2 [(0, .ref th), (1, .int p0)] := hl
  have lo_p0 := i_lo p0; have hi_p0 := i_hi p0
  refine lv_aload_n hx hb dX6_readInBrackets_0 rfl (lv_at hl 0 rfl) ?_
  refine lv_iload_n hx hb dX6_readInBrackets_1 rfl (lv_at hl 1 rfl) ?_
  have hPc := hP.sub (ws' := [(th, .inr (6, G6 ta tsize trule twords tat tword twordAt tvalue)), ((ta 0), .inl (E 0, 120, .inl tf0)), (trule, .inr (4, G4 ua usize)), ((ua 0), .inl (E 0, 120, .inl uf0)), ((ua 1), .inl (E 0, 120, .inl uf1))]) [0, 1, 2, 3, 4] rfl
  have hDc := hD.sub (ws' := [(th, .inr (6, G6 ta tsize trule twords tat tword twordAt tvalue)), ((ta 0), .inl (E 0, 120, .inl tf0)), (trule, .inr (4, G4 ua usize)), ((ua 0), .inl (E 0, 120, .inl uf0)), ((ua 1), .inl (E 0, 120, .inl uf1))]) [0, 1, 2, 3, 4] (by decide) rfl
  refine aft_i (runMG (rest := []) (As := [.int p0]) hx hb hml hown htb ((hX) D E th ta tsize trule twords tat tword twordAt tvalue tf0 ua usize uf0 uf1 sv sn sf _ (by (try dsimp only); omega) (by (try dsimp only); omega) hsn (by (try dsimp only); omega) g1) ok_X6_readEither k_668 k_670 ks_16 k_5 k_671 ⟨show b + 7 + 1 ≤ b + 8 from by omega, show 8 + (4 + 11) + 40 * (b + 7) ≤ 40 * (b + 8) from by omega⟩ ⟨(Nat.le_of_ble_eq_true rfl), (Nat.le_of_ble_eq_true rfl)⟩ hl.1 (Nat.le_of_ble_eq_true rfl) rfl rfl dX6_readInBrackets_2 (pmVS hPc hDc hK rfl rfl 0 rfl hG hS (va_free hD hS hA [0, 1, 2, 3, 4] rfl))) hP hD hS hA [0, 1, 2, 3, 4] [] (wr := ([] : va_W)) rfl rfl (by decide) (by decide) (fun r_1 u_3 H locs hw_2 hP hD hS => ?_)
  clear hPc hDc
  obtain ⟨w_4, w_5, w_6, w_7, w_8, w_9, w_10⟩ := u_3
  try dsimp only at hw_2
  have hP : va_P D vwCl [(th, .inr (6, G6 ta tsize trule twords w_4 w_6 w_7 w_5)), ((ta 0), .inl (E 0, 120, .inl tf0)), (trule, .inr (4, G4 ua w_10)), ((ua 0), .inl (E 0, 120, .inl w_8)), ((ua 1), .inl (E 0, 120, .inl w_9))] H := hP
  have hD := toW hP hD rfl
  obtain ⟨hw_2_0, hw_2_1, hw_2_2⟩ := hw_2
  refine lv_if_eq (tgt := 17) hx hb dX6_readInBrackets_5 (by decide) (fun c_11 => ?_) (fun c_11 => ?_)
  ·
    have ic_11 : r_1.toInt = 0 := (g_eq rfl t_0).mp c_11
    clear c_11
    refine lv_iconst (v := 0) hx hb dX6_readInBrackets_17 (by decide) ?_
    have hP9 := hP.sub (ws' := [(th, .inr (6, G6 ta tsize trule twords w_4 w_6 w_7 w_5)), ((ta 0), .inl (E 0, 120, .inl tf0)), (trule, .inr (4, G4 ua w_10)), ((ua 0), .inl (E 0, 120, .inl w_8)), ((ua 1), .inl (E 0, 120, .inl w_9))]) [0, 1, 2, 3, 4] rfl
    have hD9 := hD.sub (ws' := [(th, .inr (6, G6 ta tsize trule twords w_4 w_6 w_7 w_5)), ((ta 0), .inl (E 0, 120, .inl tf0)), (trule, .inr (4, G4 ua w_10)), ((ua 0), .inl (E 0, 120, .inl w_8)), ((ua 1), .inl (E 0, 120, .inl w_9))]) [0, 1, 2, 3, 4] (by decide) rfl
    exact W.zret (v := 0) hx hb hr rfl (fun t ht hW => ⟨⟨0, (w_4, w_5, w_6, w_7, w_8, w_9, w_10), rfl, ⟨(by (try dsimp only); omega), (by (try dsimp only); omega), (by have h0 := t_0; (try dsimp only); omega)⟩, by rw [ht]; exact hP9, hD9⟩, hS.F ht⟩) hS.2.2 dX6_readInBrackets_18
  ·
    have ic_11 : r_1.toInt ≠ 0 := mt (g_eq rfl t_0).mpr c_11
    clear c_11
    refine lv_aload_n hx hb dX6_readInBrackets_8 rfl (lv_at hl 0 rfl) ?_
    refine va_get (D := D) (ci := 6) (v := .int w_6) (C := RX6) (T := TX6) (N := 8) hx hb htb iX6 hown hK.1 hP 0 rfl rfl 5 (by decide) (htb _ k_163) (fun _ h9 => h9) rfl dX6_readInBrackets_9 ?_
    refine lv_bipush (v := 41) hx hb dX6_readInBrackets_12 (by decide) ?_
    refine lv_icmp_eq (tgt := 19) hx hb dX6_readInBrackets_14 (by decide) (fun c_12 => ?_) (fun c_12 => ?_)
    ·
      have ic_12 : w_6.toInt = 41 := (g_eq rfl t_41).mp c_12
      clear c_12
      refine lv_aload_n hx hb dX6_readInBrackets_19 rfl (lv_at hl 0 rfl) ?_
      have hPc := hP.sub (ws' := [(th, .inr (6, G6 ta tsize trule twords w_4 w_6 w_7 w_5)), ((ta 0), .inl (E 0, 120, .inl tf0))]) [0, 1] rfl
      have hDc := hD.sub (ws' := [(th, .inr (6, G6 ta tsize trule twords w_4 w_6 w_7 w_5)), ((ta 0), .inl (E 0, 120, .inl tf0))]) [0, 1] (by decide) rfl
      refine aft_v (runMG (rest := []) (As := []) hx hb hml hown htb (g_X6_goOn l D E th ta tsize trule twords w_4 w_6 w_7 w_5 tf0 sv sn sf _ (by (try dsimp only); omega) hsn (by (try dsimp only); omega) g1) ok_X6_goOn k_591 k_593 ks_11 k_5 k_594 ⟨show 7 + 1 ≤ b + 8 from by omega, show 8 + (1 + 11) + 40 * (7) ≤ 40 * (b + 8) from by omega⟩ ⟨(Nat.le_of_ble_eq_true rfl), (Nat.le_of_ble_eq_true rfl)⟩ hl.1 (Nat.le_of_ble_eq_true rfl) rfl rfl dX6_readInBrackets_20 (pmVS hPc hDc hK rfl rfl 0 rfl hG hS (va_free hD hS hA [0, 1] rfl))) hP hD hS hA [0, 1] [2, 3, 4] (wr := [(trule, .inr (4, G4 ua w_10)), ((ua 0), .inl (E 0, 120, .inl w_8)), ((ua 1), .inl (E 0, 120, .inl w_9))]) rfl rfl (by decide) (by decide) (fun u_15 H locs hw_14 hP hD hS => ?_)
      clear hPc hDc
      obtain ⟨w_16, w_17, w_18, w_19⟩ := u_15
      try dsimp only at hw_14
      have hP : va_P D vwCl [(trule, .inr (4, G4 ua w_10)), ((ua 0), .inl (E 0, 120, .inl w_8)), ((ua 1), .inl (E 0, 120, .inl w_9)), (th, .inr (6, G6 ta tsize trule twords w_16 w_18 w_19 w_17)), ((ta 0), .inl (E 0, 120, .inl tf0))] H := hP
      have hD := toW hP hD rfl
      refine lv_iconst (v := 1) hx hb dX6_readInBrackets_23 (by decide) ?_
      have hP9 := hP.sub (ws' := [(th, .inr (6, G6 ta tsize trule twords w_16 w_18 w_19 w_17)), ((ta 0), .inl (E 0, 120, .inl tf0)), (trule, .inr (4, G4 ua w_10)), ((ua 0), .inl (E 0, 120, .inl w_8)), ((ua 1), .inl (E 0, 120, .inl w_9))]) [3, 4, 0, 1, 2] rfl
      have hD9 := hD.sub (ws' := [(th, .inr (6, G6 ta tsize trule twords w_16 w_18 w_19 w_17)), ((ta 0), .inl (E 0, 120, .inl tf0)), (trule, .inr (4, G4 ua w_10)), ((ua 0), .inl (E 0, 120, .inl w_8)), ((ua 1), .inl (E 0, 120, .inl w_9))]) [3, 4, 0, 1, 2] (by decide) rfl
      exact W.zret (v := 1) hx hb hr rfl (fun t ht hW => ⟨⟨1, (w_16, w_17, w_18, w_19, w_8, w_9, w_10), rfl, ⟨(by (try dsimp only); omega), (by (try dsimp only); omega), (by have h0 := t_1; (try dsimp only); omega)⟩, by rw [ht]; exact hP9, hD9⟩, hS.F ht⟩) hS.2.2 dX6_readInBrackets_24
    ·
      have ic_12 : w_6.toInt ≠ 41 := mt (g_eq rfl t_41).mpr c_12
      clear c_12
      refine lv_iconst (v := 0) hx hb dX6_readInBrackets_17 (by decide) ?_
      have hP9 := hP.sub (ws' := [(th, .inr (6, G6 ta tsize trule twords w_4 w_6 w_7 w_5)), ((ta 0), .inl (E 0, 120, .inl tf0)), (trule, .inr (4, G4 ua w_10)), ((ua 0), .inl (E 0, 120, .inl w_8)), ((ua 1), .inl (E 0, 120, .inl w_9))]) [0, 1, 2, 3, 4] rfl
      have hD9 := hD.sub (ws' := [(th, .inr (6, G6 ta tsize trule twords w_4 w_6 w_7 w_5)), ((ta 0), .inl (E 0, 120, .inl tf0)), (trule, .inr (4, G4 ua w_10)), ((ua 0), .inl (E 0, 120, .inl w_8)), ((ua 1), .inl (E 0, 120, .inl w_9))]) [0, 1, 2, 3, 4] (by decide) rfl
      exact W.zret (v := 0) hx hb hr rfl (fun t ht hW => ⟨⟨0, (w_4, w_5, w_6, w_7, w_8, w_9, w_10), rfl, ⟨(by (try dsimp only); omega), (by (try dsimp only); omega), (by have h0 := t_0; (try dsimp only); omega)⟩, by rw [ht]; exact hP9, hD9⟩, hS.F ht⟩) hS.2.2 dX6_readInBrackets_18
theorem rd_all (l : Launch) : ∀ (k : Nat), k ≤ 15 → ∀ p0 : Int32, p0.toInt = 15 - (k : Int) → M_X6_readOperand l (8 * k + 16) p0 ∧ M_X6_readNegation l (8 * k + 16) p0 ∧ M_X6_readEither l (8 * k + 16) p0 ∧ M_X6_readInBrackets l (8 * k + 16) p0
  | 0, _, p0, h => by
    have hO := g_X6_readOperand l 8 p0 (Nat.le_refl _) (by omega) (fun h2 => absurd h2 (by omega)) (fun h2 => absurd h2 (by omega))
    have hN := g_X6_readNegation l 8 p0 (Nat.le_refl _) (by omega) (g_X6_readComparison l 16 p0 (by omega) (by omega) (g_X6_readSum l 16 p0 (by omega) (by omega) (g_X6_readProduct l 16 p0 (by omega) (by omega) hO))) (fun h2 => absurd h2 (by omega))
    have hE := g_X6_readEither l 16 p0 (by omega) (by omega) (g_X6_readBoth l 16 p0 (by omega) (by omega) hN)
    exact ⟨hO, hN, hE, g_X6_readInBrackets l 16 p0 (by omega) (by omega) hE⟩
  | k + 1, hk, p0, h => by
    have ih := fun (q : Int32) (hq : q.toInt = p0.toInt + 1) => rd_all l k (by omega) q (by omega)
    rw [show 8 * (k + 1) + 16 = 8 * k + 16 + 8 by omega]
    have hO := g_X6_readOperand l (8 * k + 16) p0 (by omega) (by omega) (fun _ q hq => (ih q hq).1) (fun _ q hq => (ih q hq).2.2.2)
    have hN := g_X6_readNegation l (8 * k + 16) p0 (by omega) (by omega) (g_X6_readComparison l (8 * k + 16 + 8) p0 (by omega) (by omega) (g_X6_readSum l (8 * k + 16 + 8) p0 (by omega) (by omega) (g_X6_readProduct l (8 * k + 16 + 8) p0 (by omega) (by omega) hO))) (fun _ q hq => (ih q hq).2.1)
    have hE := g_X6_readEither l (8 * k + 16 + 8) p0 (by omega) (by omega) (g_X6_readBoth l (8 * k + 16 + 8) p0 (by omega) (by omega) hN)
    exact ⟨hO, hN, hE, g_X6_readInBrackets l (8 * k + 16 + 8) p0 (by omega) (by omega) hE⟩
theorem rd_top (l : Launch) : M_X6_readEither l 136 0 := (rd_all l 15 (by omega) 0 (by decide)).2.2.1
end
section
set_option maxHeartbeats 4000000 in
set_option maxRecDepth 100000 in
theorem g_X6_readAsRule (l : Launch) (D : va_G) (E : Nat → Nat) (th : Nat) (ta : Nat → Nat) (tsize : Int32) (trule : Nat) (twords : Nat) (tat : Int32) (tword : Int32) (twordAt : Int32) (tvalue : Int32) (tf0 : Nat → Int32) (ua : Nat → Nat) (usize : Int32) (uf0 : Nat → Int32) (uf1 : Nat → Int32) (sh : Nat) (sv : Nat) (sn : Nat) (sf : Nat → Int32) (sz : Nat) (hi_t : (0 ≤ tsize.toInt ∧ tsize.toInt ≤ 120)) (hi_u : (0 ≤ usize.toInt ∧ usize.toInt ≤ 120)) (hsn : sn < 2147483647) (g1 : sn ≤ 900) : Met l yX6_readAsRule (wl yX6_readAsRule cX6_readAsRule 3 (some .int)) (RM 144 0 0) (muS_P D E [.ref th, .ref sh] [(th, .inr (6, G6 ta tsize trule twords tat tword twordAt tvalue)), ((ta 0), .inl (E 0, 120, .inl tf0)), (trule, .inr (4, G4 ua usize)), ((ua 0), .inl (E 0, 120, .inl uf0)), ((ua 1), .inl (E 0, 120, .inl uf1))] sz [(sh, sv, sn, sf)]) (va_Qi (fun (r : Int32) (u : (Int32) × (Int32) × (Int32) × (Int32) × (Nat) × (Nat → Int32) × (Nat → Int32) × (Int32)) => (0 ≤ u.2.2.2.2.2.2.2.toInt ∧ u.2.2.2.2.2.2.2.toInt ≤ 120) ∧ (-1 ≤ r.toInt ∧ r.toInt ≤ 120)) (mu_B D (va_A [(th, .inr (6, G6 ta tsize trule twords tat tword twordAt tvalue)), ((ta 0), .inl (E 0, 120, .inl tf0)), (trule, .inr (4, G4 ua usize)), ((ua 0), .inl (E 0, 120, .inl uf0)), ((ua 1), .inl (E 0, 120, .inl uf1))] sz) (fun (u : (Int32) × (Int32) × (Int32) × (Int32) × (Nat) × (Nat → Int32) × (Nat → Int32) × (Int32)) => [(th, .inr (6, G6 ta tsize trule u.2.2.2.2.1 u.1 u.2.2.1 u.2.2.2.1 u.2.1)), ((ta 0), .inl (E 0, 120, .inl tf0)), (trule, .inr (4, G4 ua u.2.2.2.2.2.2.2)), ((ua 0), .inl (E 0, 120, .inl u.2.2.2.2.2.1)), ((ua 1), .inl (E 0, 120, .inl u.2.2.2.2.2.2.1))])) (va_A [(th, .inr (6, G6 ta tsize trule twords tat tword twordAt tvalue)), ((ta 0), .inl (E 0, 120, .inl tf0)), (trule, .inr (4, G4 ua usize)), ((ua 0), .inl (E 0, 120, .inl uf0)), ((ua 1), .inl (E 0, 120, .inl uf1))] sz)) 0 0 (va_A [(th, .inr (6, G6 ta tsize trule twords tat tword twordAt tvalue)), ((ta 0), .inl (E 0, 120, .inl tf0)), (trule, .inr (4, G4 ua usize)), ((ua 0), .inl (E 0, 120, .inl uf0)), ((ua 1), .inl (E 0, 120, .inl uf1))] sz) := by
  refine Met.ofW (cc := cX6_readAsRule) (maxL := 3) (ret := (some .int)) (by decide) rfl ?_
  intro p e s m args below meth c s₁ B hml hv
  obtain ⟨rfl, hsz, hP, hK, hD0, hG⟩ := hv
  have hx := B.exec; have hb := B.bytes; have hr := B.returns
  have hts := atoms_spec (ws := wl yX6_readAsRule cX6_readAsRule 3 (some .int)) B.pre
  have htb : ∀ w ∈ tb, w.before _ s = true := fun w h => hts w (List.mem_cons_of_mem _ h)
  have hown : s.vm.findClass RX6 = some m.cls := findClass_of_methodNamed B.named
  have hlocks := B.notSynchronized
  subst hsz
  have hD := hD0.self (sz := s.heap.size)
  generalize hAe : va_A [(th, .inr (6, G6 ta tsize trule twords tat tword twordAt tvalue)), ((ta 0), .inl (E 0, 120, .inl tf0)), (trule, .inr (4, G4 ua usize)), ((ua 0), .inl (E 0, 120, .inl uf0)), ((ua 1), .inl (E 0, 120, .inl uf1))] s.heap.size = A at hD hG ⊢
  have hA : ∀ q : Nat, s.heap.size ≤ q → A q := fun q h => by rw [← hAe]; exact Or.inr h
  have hS : va_S A s.heap s.heap [] := va_S.rf
  have hP : va_P D vwCl [(th, .inr (6, G6 ta tsize trule twords tat tword twordAt tvalue)), ((ta 0), .inl (E 0, 120, .inl tf0)), (trule, .inr (4, G4 ua usize)), ((ua 0), .inl (E 0, 120, .inl uf0)), ((ua 1), .inl (E 0, 120, .inl uf1))] s.heap := hP
  have hl := lv_entry ([.ref th, .ref sh]) (n := 3) (Nat.le_of_ble_eq_true rfl)
  rw [lg_entry_eq]
  generalize (lg_sl ([.ref th, .ref sh]) ++ List.replicate (3 - (lg_sl ([.ref th, .ref sh])).length) Slot.unset).toArray = ls at hl ⊢
  have hl : lv_has ls 3 [(0, .ref th), (1, .ref sh)] := hl
  refine lv_aload_n hx hb dX6_readAsRule_0 rfl (lv_at hl 0 rfl) ?_
  refine lv_aload_n hx hb dX6_readAsRule_1 rfl (lv_at hl 1 rfl) ?_
  refine va_put (D := D) (ci := 6) (v := .ref sh) (ty := .object "java/lang/String") (C := RX6) (T := TX6) (N := 8) hx hb htb iX6 tyX6 tyX6_ok nmX6 hown hK.1 hP hD hS 0 rfl rfl 3 (by decide) (htb _ k_161) (fun _ h9 => h9) rfl (by decide +kernel) rfl rfl (Nat.le_of_ble_eq_true rfl) dX6_readAsRule_2 (fun H locs hP hD hS => ?_)
  have hP : va_P D vwCl [(th, .inr (6, G6 ta tsize trule sh tat tword twordAt tvalue)), ((ta 0), .inl (E 0, 120, .inl tf0)), (trule, .inr (4, G4 ua usize)), ((ua 0), .inl (E 0, 120, .inl uf0)), ((ua 1), .inl (E 0, 120, .inl uf1))] H := hP
  have hD := toW hP hD rfl
  refine lv_aload_n hx hb dX6_readAsRule_5 rfl (lv_at hl 0 rfl) ?_
  refine va_get (D := D) (ci := 6) (v := .ref trule) (C := RX6) (T := TX6) (N := 8) hx hb htb iX6 hown hK.1 hP 0 rfl rfl 2 (by decide) (htb _ k_160) (fun _ h9 => h9) rfl dX6_readAsRule_6 ?_
  refine lv_iconst (v := 0) hx hb dX6_readAsRule_9 (by decide) ?_
  refine va_putN (D := D) (ci := 4) (v := .int 0) (ty := .int) (C := RX4) (T := TX4) (N := 4) hx hb htb iX4 tyX4 tyX4_ok nmX4 hown hK.1 hP hD hS 2 rfl rfl 3 (by decide) (va_Nw.use rfl (hK.2.1 (Cond.fieldLinkNest RX6 44 "SeaWatches$Rule" "size" "I" "SeaWatches") (by decide +kernel))) (fun _ h9 => h9) rfl (by decide +kernel) rfl rfl (Nat.le_of_ble_eq_true rfl) dX6_readAsRule_10 (fun H locs hP hD hS => ?_)
  have hP : va_P D vwCl [(th, .inr (6, G6 ta tsize trule sh tat tword twordAt tvalue)), ((ta 0), .inl (E 0, 120, .inl tf0)), (trule, .inr (4, G4 ua 0)), ((ua 0), .inl (E 0, 120, .inl uf0)), ((ua 1), .inl (E 0, 120, .inl uf1))] H := hP
  have hD := toW hP hD rfl
  refine lv_aload_n hx hb dX6_readAsRule_13 rfl (lv_at hl 0 rfl) ?_
  refine lv_iconst (v := 0) hx hb dX6_readAsRule_14 (by decide) ?_
  refine va_put (D := D) (ci := 6) (v := .int 0) (ty := .int) (C := RX6) (T := TX6) (N := 8) hx hb htb iX6 tyX6 tyX6_ok nmX6 hown hK.1 hP hD hS 0 rfl rfl 4 (by decide) (htb _ k_162) (fun _ h9 => h9) rfl (by decide +kernel) rfl rfl (Nat.le_of_ble_eq_true rfl) dX6_readAsRule_15 (fun H locs hP hD hS => ?_)
  have hP : va_P D vwCl [(th, .inr (6, G6 ta tsize trule sh 0 tword twordAt tvalue)), ((ta 0), .inl (E 0, 120, .inl tf0)), (trule, .inr (4, G4 ua 0)), ((ua 0), .inl (E 0, 120, .inl uf0)), ((ua 1), .inl (E 0, 120, .inl uf1))] H := hP
  have hD := toW hP hD rfl
  refine lv_aload_n hx hb dX6_readAsRule_18 rfl (lv_at hl 0 rfl) ?_
  have hPc := hP.sub (ws' := [(th, .inr (6, G6 ta tsize trule sh 0 tword twordAt tvalue)), ((ta 0), .inl (E 0, 120, .inl tf0))]) [0, 1] rfl
  have hDc := hD.sub (ws' := [(th, .inr (6, G6 ta tsize trule sh 0 tword twordAt tvalue)), ((ta 0), .inl (E 0, 120, .inl tf0))]) [0, 1] (by decide) rfl
  refine aft_v (runMG (rest := []) (As := []) hx hb hml hown htb (g_X6_goOn l D E th ta tsize trule sh 0 tword twordAt tvalue tf0 sv sn sf _ (by (try dsimp only); omega) hsn (by have h0 := t_0; (try dsimp only); omega) g1) ok_X6_goOn k_591 k_593 ks_11 k_5 k_594 ⟨(Nat.le_of_ble_eq_true rfl), (Nat.le_of_ble_eq_true rfl)⟩ ⟨(Nat.le_of_ble_eq_true rfl), (Nat.le_of_ble_eq_true rfl)⟩ hl.1 (Nat.le_of_ble_eq_true rfl) rfl rfl dX6_readAsRule_19 (pmVS hPc hDc hK rfl rfl 0 rfl hG hS (va_free hD hS hA [0, 1] rfl))) hP hD hS hA [0, 1] [2, 3, 4] (wr := [(trule, .inr (4, G4 ua 0)), ((ua 0), .inl (E 0, 120, .inl uf0)), ((ua 1), .inl (E 0, 120, .inl uf1))]) rfl rfl (by decide) (by decide) (fun u_3 H locs hw_2 hP hD hS => ?_)
  clear hPc hDc
  obtain ⟨w_4, w_5, w_6, w_7⟩ := u_3
  try dsimp only at hw_2
  have hP : va_P D vwCl [(trule, .inr (4, G4 ua 0)), ((ua 0), .inl (E 0, 120, .inl uf0)), ((ua 1), .inl (E 0, 120, .inl uf1)), (th, .inr (6, G6 ta tsize trule sh w_4 w_6 w_7 w_5)), ((ta 0), .inl (E 0, 120, .inl tf0))] H := hP
  have hD := toW hP hD rfl
  try simp only [t_0] at hw_2
  refine lv_aload_n hx hb dX6_readAsRule_22 rfl (lv_at hl 0 rfl) ?_
  refine lv_iconst (v := 0) hx hb dX6_readAsRule_23 (by decide) ?_
  have hPc := hP.sub (ws' := [(th, .inr (6, G6 ta tsize trule sh w_4 w_6 w_7 w_5)), ((ta 0), .inl (E 0, 120, .inl tf0)), (trule, .inr (4, G4 ua 0)), ((ua 0), .inl (E 0, 120, .inl uf0)), ((ua 1), .inl (E 0, 120, .inl uf1))]) [3, 4, 0, 1, 2] rfl
  have hDc := hD.sub (ws' := [(th, .inr (6, G6 ta tsize trule sh w_4 w_6 w_7 w_5)), ((ta 0), .inl (E 0, 120, .inl tf0)), (trule, .inr (4, G4 ua 0)), ((ua 0), .inl (E 0, 120, .inl uf0)), ((ua 1), .inl (E 0, 120, .inl uf1))]) [3, 4, 0, 1, 2] (by decide) rfl
  refine aft_i (runMG (rest := []) (As := [.int 0]) hx hb hml hown htb (rd_top l D E th ta tsize trule sh w_4 w_6 w_7 w_5 tf0 ua 0 uf0 uf1 sv sn sf _ (by (try dsimp only); omega) (by have h0 := t_0; (try dsimp only); omega) hsn (by (try dsimp only); omega) g1) ok_X6_readEither k_668 k_670 ks_16 k_5 k_671 ⟨(Nat.le_of_ble_eq_true rfl), (Nat.le_of_ble_eq_true rfl)⟩ ⟨(Nat.le_of_ble_eq_true rfl), (Nat.le_of_ble_eq_true rfl)⟩ hl.1 (Nat.le_of_ble_eq_true rfl) rfl rfl dX6_readAsRule_24 (pmVS hPc hDc hK rfl rfl 0 rfl hG hS (va_free hD hS hA [3, 4, 0, 1, 2] rfl))) hP hD hS hA [3, 4, 0, 1, 2] [] (wr := ([] : va_W)) rfl rfl (by decide) (by decide) (fun r_8 u_10 H locs hw_9 hP hD hS => ?_)
  clear hPc hDc
  obtain ⟨w_11, w_12, w_13, w_14, w_15, w_16, w_17⟩ := u_10
  try dsimp only at hw_9
  have hP : va_P D vwCl [(th, .inr (6, G6 ta tsize trule sh w_11 w_13 w_14 w_12)), ((ta 0), .inl (E 0, 120, .inl tf0)), (trule, .inr (4, G4 ua w_17)), ((ua 0), .inl (E 0, 120, .inl w_15)), ((ua 1), .inl (E 0, 120, .inl w_16))] H := hP
  have hD := toW hP hD rfl
  obtain ⟨hw_9_0, hw_9_1, hw_9_2⟩ := hw_9
  try simp only [t_0] at hw_9_0
  try simp only [t_0] at hw_9_1
  try simp only [t_0] at hw_9_2
  refine lv_istore_n (lv' := [(2, .int r_8), (0, .ref th), (1, .ref sh)]) hx hb dX6_readAsRule_27 rfl hl (by decide) rfl (fun ls hl => ?_)
  refine lv_iload_n hx hb dX6_readAsRule_28 rfl (lv_at hl 0 rfl) ?_
  refine lv_if_eq (tgt := 43) hx hb dX6_readAsRule_29 (by decide) (fun c_18 => ?_) (fun c_18 => ?_)
  ·
    have ic_18 : r_8.toInt = 0 := (g_eq rfl t_0).mp c_18
    clear c_18
    refine lv_aload_n hx hb dX6_readAsRule_43 rfl (lv_at hl 1 rfl) ?_
    refine va_get (D := D) (ci := 6) (v := .int w_14) (C := RX6) (T := TX6) (N := 8) hx hb htb iX6 hown hK.1 hP 0 rfl rfl 6 (by decide) (htb _ k_164) (fun _ h9 => h9) rfl dX6_readAsRule_44 ?_
    have hP9 := hP.sub (ws' := [(th, .inr (6, G6 ta tsize trule sh w_11 w_13 w_14 w_12)), ((ta 0), .inl (E 0, 120, .inl tf0)), (trule, .inr (4, G4 ua w_17)), ((ua 0), .inl (E 0, 120, .inl w_15)), ((ua 1), .inl (E 0, 120, .inl w_16))]) [0, 1, 2, 3, 4] rfl
    have hD9 := hD.sub (ws' := [(th, .inr (6, G6 ta tsize trule sh w_11 w_13 w_14 w_12)), ((ta 0), .inl (E 0, 120, .inl tf0)), (trule, .inr (4, G4 ua w_17)), ((ua 0), .inl (E 0, 120, .inl w_15)), ((ua 1), .inl (E 0, 120, .inl w_16))]) [0, 1, 2, 3, 4] (by decide) rfl
    exact W.iret (v := w_14) hx hb hr (fun t ht hW => ⟨⟨w_14, (w_11, w_12, w_13, w_14, sh, w_15, w_16, w_17), rfl, ⟨(by (try dsimp only); omega), (by (try dsimp only); omega)⟩, by rw [ht]; exact hP9, hD9⟩, hS.F ht⟩) hS.2.2 dX6_readAsRule_47
  ·
    have ic_18 : r_8.toInt ≠ 0 := mt (g_eq rfl t_0).mpr c_18
    clear c_18
    refine lv_aload_n hx hb dX6_readAsRule_32 rfl (lv_at hl 1 rfl) ?_
    refine va_get (D := D) (ci := 6) (v := .int w_13) (C := RX6) (T := TX6) (N := 8) hx hb htb iX6 hown hK.1 hP 0 rfl rfl 5 (by decide) (htb _ k_163) (fun _ h9 => h9) rfl dX6_readAsRule_33 ?_
    refine lv_if_ne (tgt := 43) hx hb dX6_readAsRule_36 (by decide) (fun c_19 => ?_) (fun c_19 => ?_)
    ·
      have ic_19 : w_13.toInt ≠ 0 := mt (g_eq rfl t_0).mpr c_19
      clear c_19
      refine lv_aload_n hx hb dX6_readAsRule_43 rfl (lv_at hl 1 rfl) ?_
      refine va_get (D := D) (ci := 6) (v := .int w_14) (C := RX6) (T := TX6) (N := 8) hx hb htb iX6 hown hK.1 hP 0 rfl rfl 6 (by decide) (htb _ k_164) (fun _ h9 => h9) rfl dX6_readAsRule_44 ?_
      have hP9 := hP.sub (ws' := [(th, .inr (6, G6 ta tsize trule sh w_11 w_13 w_14 w_12)), ((ta 0), .inl (E 0, 120, .inl tf0)), (trule, .inr (4, G4 ua w_17)), ((ua 0), .inl (E 0, 120, .inl w_15)), ((ua 1), .inl (E 0, 120, .inl w_16))]) [0, 1, 2, 3, 4] rfl
      have hD9 := hD.sub (ws' := [(th, .inr (6, G6 ta tsize trule sh w_11 w_13 w_14 w_12)), ((ta 0), .inl (E 0, 120, .inl tf0)), (trule, .inr (4, G4 ua w_17)), ((ua 0), .inl (E 0, 120, .inl w_15)), ((ua 1), .inl (E 0, 120, .inl w_16))]) [0, 1, 2, 3, 4] (by decide) rfl
      exact W.iret (v := w_14) hx hb hr (fun t ht hW => ⟨⟨w_14, (w_11, w_12, w_13, w_14, sh, w_15, w_16, w_17), rfl, ⟨(by (try dsimp only); omega), (by (try dsimp only); omega)⟩, by rw [ht]; exact hP9, hD9⟩, hS.F ht⟩) hS.2.2 dX6_readAsRule_47
    ·
      have ic_19 : w_13.toInt = 0 := (g_eq rfl t_0).mp c_19
      clear c_19
      refine lv_iconst (v := (-1)) hx hb dX6_readAsRule_39 (by decide) ?_
      refine lv_goto (tgt := 47) hx hb dX6_readAsRule_40 (by decide) ?_
      have hP9 := hP.sub (ws' := [(th, .inr (6, G6 ta tsize trule sh w_11 w_13 w_14 w_12)), ((ta 0), .inl (E 0, 120, .inl tf0)), (trule, .inr (4, G4 ua w_17)), ((ua 0), .inl (E 0, 120, .inl w_15)), ((ua 1), .inl (E 0, 120, .inl w_16))]) [0, 1, 2, 3, 4] rfl
      have hD9 := hD.sub (ws' := [(th, .inr (6, G6 ta tsize trule sh w_11 w_13 w_14 w_12)), ((ta 0), .inl (E 0, 120, .inl tf0)), (trule, .inr (4, G4 ua w_17)), ((ua 0), .inl (E 0, 120, .inl w_15)), ((ua 1), .inl (E 0, 120, .inl w_16))]) [0, 1, 2, 3, 4] (by decide) rfl
      exact W.iret (v := (-1)) hx hb hr (fun t ht hW => ⟨⟨(-1), (w_11, w_12, w_13, w_14, sh, w_15, w_16, w_17), rfl, ⟨(by (try dsimp only); omega), (by have h0 := t_m1; (try dsimp only); omega)⟩, by rw [ht]; exact hP9, hD9⟩, hS.F ht⟩) hS.2.2 dX6_readAsRule_47
set_option maxHeartbeats 4000000 in
set_option maxRecDepth 100000 in
theorem g_X6_exchangeRule (l : Launch) (D : va_G) (E : Nat → Nat) (th : Nat) (ta : Nat → Nat) (tsize : Int32) (trule : Nat) (twords : Nat) (tat : Int32) (tword : Int32) (twordAt : Int32) (tvalue : Int32) (pr : Nat) (sz : Nat) (hi_t : (0 ≤ tsize.toInt ∧ tsize.toInt ≤ 120)) : Met l yX6_exchangeRule (wl yX6_exchangeRule cX6_exchangeRule 3 (some (.object "SeaWatches$Rule"))) (RM 0 0 0) (mu_P D E [.ref th, .ref pr] [(th, .inr (6, G6 ta tsize trule twords tat tword twordAt tvalue))] sz) (va_Qr (fun (u : (Nat)) => (u = pr)) (fun u x t => x = trule ∧ mu_B D (va_A [(th, .inr (6, G6 ta tsize trule twords tat tword twordAt tvalue))] sz) (fun (u : (Nat)) => [(th, .inr (6, G6 ta tsize u twords tat tword twordAt tvalue))]) u t) (va_A [(th, .inr (6, G6 ta tsize trule twords tat tword twordAt tvalue))] sz)) 0 0 (va_A [(th, .inr (6, G6 ta tsize trule twords tat tword twordAt tvalue))] sz) := by
  refine Met.ofW (cc := cX6_exchangeRule) (maxL := 3) (ret := (some (.object "SeaWatches$Rule"))) (by decide) rfl ?_
  intro p e s m args below meth c s₁ B hml hv
  obtain ⟨rfl, hsz, hP, hK, hD0⟩ := hv
  have hx := B.exec; have hb := B.bytes; have hr := B.returns
  have hts := atoms_spec (ws := wl yX6_exchangeRule cX6_exchangeRule 3 (some (.object "SeaWatches$Rule"))) B.pre
  have htb : ∀ w ∈ tb, w.before _ s = true := fun w h => hts w (List.mem_cons_of_mem _ h)
  have hown : s.vm.findClass RX6 = some m.cls := findClass_of_methodNamed B.named
  have hlocks := B.notSynchronized
  subst hsz
  have hD := hD0.self (sz := s.heap.size)
  generalize hAe : va_A [(th, .inr (6, G6 ta tsize trule twords tat tword twordAt tvalue))] s.heap.size = A at hD ⊢
  have hA : ∀ q : Nat, s.heap.size ≤ q → A q := fun q h => by rw [← hAe]; exact Or.inr h
  have hS : va_S A s.heap s.heap [] := va_S.rf
  have hP : va_P D vwCl [(th, .inr (6, G6 ta tsize trule twords tat tword twordAt tvalue))] s.heap := hP
  have hl := lv_entry ([.ref th, .ref pr]) (n := 3) (Nat.le_of_ble_eq_true rfl)
  rw [lg_entry_eq]
  generalize (lg_sl ([.ref th, .ref pr]) ++ List.replicate (3 - (lg_sl ([.ref th, .ref pr])).length) Slot.unset).toArray = ls at hl ⊢
  have hl : lv_has ls 3 [(0, .ref th), (1, .ref pr)] := hl
  refine lv_aload_n hx hb dX6_exchangeRule_0 rfl (lv_at hl 0 rfl) ?_
  refine va_get (D := D) (ci := 6) (v := .ref trule) (C := RX6) (T := TX6) (N := 8) hx hb htb iX6 hown hK.1 hP 0 rfl rfl 2 (by decide) (htb _ k_160) (fun _ h9 => h9) rfl dX6_exchangeRule_1 ?_
  refine lv_astore_n (lv' := [(2, .ref trule), (0, .ref th), (1, .ref pr)]) hx hb dX6_exchangeRule_4 rfl hl (by decide) rfl (fun ls hl => ?_)
  refine lv_aload_n hx hb dX6_exchangeRule_5 rfl (lv_at hl 1 rfl) ?_
  refine lv_aload_n hx hb dX6_exchangeRule_6 rfl (lv_at hl 2 rfl) ?_
  refine va_put (D := D) (ci := 6) (v := .ref pr) (ty := .object "SeaWatches$Rule") (C := RX6) (T := TX6) (N := 8) hx hb htb iX6 tyX6 tyX6_ok nmX6 hown hK.1 hP hD hS 0 rfl rfl 2 (by decide) (htb _ k_160) (fun _ h9 => h9) rfl (by decide +kernel) rfl rfl (Nat.le_of_ble_eq_true rfl) dX6_exchangeRule_7 (fun H locs hP hD hS => ?_)
  have hP : va_P D vwCl [(th, .inr (6, G6 ta tsize pr twords tat tword twordAt tvalue))] H := hP
  have hD := toW hP hD rfl
  refine lv_aload_n hx hb dX6_exchangeRule_10 rfl (lv_at hl 0 rfl) ?_
  have hP9 := hP.sub (ws' := [(th, .inr (6, G6 ta tsize pr twords tat tword twordAt tvalue))]) [0] rfl
  have hD9 := hD.sub (ws' := [(th, .inr (6, G6 ta tsize pr twords tat tword twordAt tvalue))]) [0] (by decide) rfl
  exact W.aret (v := .ref trule) hx hb hr (Or.inl ⟨_, rfl⟩) (Or.inr ⟨_, rfl⟩) (fun t ht hW => ⟨⟨pr, trule, rfl, rfl, rfl, by rw [ht]; exact hP9, hD9⟩, hS.F ht⟩) hS.2.2 dX6_exchangeRule_11
end
section
set_option maxHeartbeats 4000000 in
set_option maxRecDepth 100000 in
theorem g_X8_isPast (l : Launch) (D : va_G) (E : Nat → Nat) (xh : Nat) (xa : Nat → Nat) (xtrialRule : Nat) (xdropRule : Nat) (xtoday : Int32) (p0 : Int32) (hi_x : (0 ≤ xtoday.toInt ∧ xtoday.toInt ≤ 399)) : Met l yX8_isPast (wl yX8_isPast cX8_isPast 2 (some .boolean)) (RM 0 0 0) (rd_P D E [.ref xh, .int p0] [(xh, .inr (8, G8 xa xtrialRule xdropRule xtoday))]) (rd_Q (fun r => ((r = 1 ∧ (0 ≤ p0.toInt ∧ p0.toInt ≤ xtoday.toInt)) ∨ (r = 0 ∧ ¬ (0 ≤ p0.toInt ∧ p0.toInt ≤ xtoday.toInt))))) 0 0 (fun _ => False) := by
  refine Met.ofW (cc := cX8_isPast) (maxL := 2) (ret := (some .boolean)) (by decide) rfl ?_
  intro p e s m args below meth c s₁ B hml hv
  obtain ⟨rfl, hP, hK⟩ := hv
  have hx := B.exec; have hb := B.bytes; have hr := B.returns
  have hts := atoms_spec (ws := wl yX8_isPast cX8_isPast 2 (some .boolean)) B.pre
  have htb : ∀ w ∈ tb, w.before _ s = true := fun w h => hts w (List.mem_cons_of_mem _ h)
  have hown : s.vm.findClass RX8 = some m.cls := findClass_of_methodNamed B.named
  have hlocks := B.notSynchronized
  have hP : va_P D vwCl [(xh, .inr (8, G8 xa xtrialRule xdropRule xtoday))] s.heap := hP
  have hl := lv_entry ([.ref xh, .int p0]) (n := 2) (Nat.le_of_ble_eq_true rfl)
  rw [lg_entry_eq]
  generalize (lg_sl ([.ref xh, .int p0]) ++ List.replicate (2 - (lg_sl ([.ref xh, .int p0])).length) Slot.unset).toArray = ls at hl ⊢
  have hl : lv_has ls 2 [(0, .ref xh), (1, .int p0)] := hl
  have lo_p0 := i_lo p0; have hi_p0 := i_hi p0
  refine lv_iload_n hx hb dX8_isPast_0 rfl (lv_at hl 1 rfl) ?_
  refine lv_if_lt (tgt := 16) hx hb dX8_isPast_1 (by decide) (fun c_1 => ?_) (fun c_1 => ?_)
  ·
    have ic_1 : p0.toInt < 0 := by first | exact (g_lt rfl t_0).mp c_1 | (have h := mt (g_le t_0 rfl).mpr c_1; omega)
    clear c_1
    refine lv_iconst (v := 0) hx hb dX8_isPast_16 (by decide) ?_
    exact W.zret (v := 0) hx hb hr rfl (fun t ht hW => ⟨0, rfl, by first | exact Or.inr ⟨rfl, by omega⟩ | (exfalso; omega), ht⟩) (fun q h => by cases h) dX8_isPast_17
  ·
    have ic_1 : 0 ≤ p0.toInt := by first | exact (g_le t_0 rfl).mp c_1 | (have h := mt (g_lt rfl t_0).mpr c_1; omega)
    clear c_1
    refine lv_iload_n hx hb dX8_isPast_4 rfl (lv_at hl 1 rfl) ?_
    refine lv_aload_n hx hb dX8_isPast_5 rfl (lv_at hl 0 rfl) ?_
    refine va_get (D := D) (ci := 8) (v := .int xtoday) (C := RX8) (T := TX8) (N := 14) hx hb htb iX8 hown hK.1 hP 0 rfl rfl 13 (by decide) (htb _ k_285) (fun _ h9 => h9) rfl dX8_isPast_6 ?_
    refine lv_icmp_gt (tgt := 16) hx hb dX8_isPast_9 (by decide) (fun c_2 => ?_) (fun c_2 => ?_)
    ·
      have ic_2 : xtoday.toInt < p0.toInt := by first | exact (g_lt rfl rfl).mp c_2 | (have h := mt (g_le rfl rfl).mpr c_2; omega)
      clear c_2
      refine lv_iconst (v := 0) hx hb dX8_isPast_16 (by decide) ?_
      exact W.zret (v := 0) hx hb hr rfl (fun t ht hW => ⟨0, rfl, by first | exact Or.inr ⟨rfl, by omega⟩ | (exfalso; omega), ht⟩) (fun q h => by cases h) dX8_isPast_17
    ·
      have ic_2 : p0.toInt ≤ xtoday.toInt := by first | exact (g_le rfl rfl).mp c_2 | (have h := mt (g_lt rfl rfl).mpr c_2; omega)
      clear c_2
      refine lv_iconst (v := 1) hx hb dX8_isPast_12 (by decide) ?_
      refine lv_goto (tgt := 17) hx hb dX8_isPast_13 (by decide) ?_
      exact W.zret (v := 1) hx hb hr rfl (fun t ht hW => ⟨1, rfl, by first | exact Or.inl ⟨rfl, by omega⟩ | (exfalso; omega), ht⟩) (fun q h => by cases h) dX8_isPast_17
set_option maxHeartbeats 4000000 in
set_option maxRecDepth 100000 in
theorem g_X8_watchAt_N (l : Launch) (D : va_G) (E : Nat → Nat) (xh : Nat) (xa : Nat → Nat) (xtrialRule : Nat) (xdropRule : Nat) (xtoday : Int32) (xf1 : Nat → Int32) (xf3 : Nat → Option Nat) (p0 : Int32) (hi_x : (0 ≤ xtoday.toInt ∧ xtoday.toInt ≤ 399)) (hn0 : ¬ (0 ≤ p0.toInt ∧ p0.toInt ≤ 15 ∧ ((xf1 (p0).toNatClampNeg).toInt = 0 ∨ (xf1 (p0).toNatClampNeg).toInt = 1))) : Met l yX8_watchAt (wl yX8_watchAt cX8_watchAt 2 (some (.object "SeaWatches$Watch"))) (RM 1 0 0) (rd_P D E [.ref xh, .int p0] [(xh, .inr (8, G8 xa xtrialRule xdropRule xtoday)), ((xa 1), .inl (E 0, 16, .inl xf1)), ((xa 3), .inl (E 3, 16, .inr (.inr (.inr (.inr xf3)))))]) rn_Q 0 0 (fun _ => False) := by
  refine Met.ofW (cc := cX8_watchAt) (maxL := 2) (ret := (some (.object "SeaWatches$Watch"))) (by decide) rfl ?_
  intro p e s m args below meth c s₁ B hml hv
  obtain ⟨rfl, hP, hK⟩ := hv
  have hx := B.exec; have hb := B.bytes; have hr := B.returns
  have hts := atoms_spec (ws := wl yX8_watchAt cX8_watchAt 2 (some (.object "SeaWatches$Watch"))) B.pre
  have htb : ∀ w ∈ tb, w.before _ s = true := fun w h => hts w (List.mem_cons_of_mem _ h)
  have hown : s.vm.findClass RX8 = some m.cls := findClass_of_methodNamed B.named
  have hlocks := B.notSynchronized
  have hP : va_P D vwCl [(xh, .inr (8, G8 xa xtrialRule xdropRule xtoday)), ((xa 1), .inl (E 0, 16, .inl xf1)), ((xa 3), .inl (E 3, 16, .inr (.inr (.inr (.inr xf3)))))] s.heap := hP
  have hl := lv_entry ([.ref xh, .int p0]) (n := 2) (Nat.le_of_ble_eq_true rfl)
  rw [lg_entry_eq]
  generalize (lg_sl ([.ref xh, .int p0]) ++ List.replicate (2 - (lg_sl ([.ref xh, .int p0])).length) Slot.unset).toArray = ls at hl ⊢
  have hl : lv_has ls 2 [(0, .ref xh), (1, .int p0)] := hl
  have lo_p0 := i_lo p0; have hi_p0 := i_hi p0
  refine lv_iload_n hx hb dX8_watchAt_0 rfl (lv_at hl 1 rfl) ?_
  refine callRS (rest := []) (As := [.int p0]) hx hb hml hown htb hK (g_X8_isPlace l D E p0 ) ok_X8_isPlace k_333 k_334 k_1 k_335 ⟨(Nat.le_of_ble_eq_true rfl), (Nat.le_of_ble_eq_true rfl)⟩ ⟨(Nat.le_of_ble_eq_true rfl), (Nat.le_of_ble_eq_true rfl)⟩ hl.1 (Nat.le_of_ble_eq_true rfl) rfl rfl dX8_watchAt_1 (hP.sub (ws' := ([] : va_W)) [] rfl) (fun r_1 hw_2 => ?_)
  rcases hw_2 with ⟨hr_1, hw_2⟩ | ⟨hr_1, hw_2⟩
  ·
    refine W_top (y := .int 1) (by rw [hr_1]) ?_
    refine lv_if_eq (tgt := 26) hx hb dX8_watchAt_4 (by decide) (fun c_4 => absurd c_4 (by decide)) (fun c_4 => ?_)
    refine lv_aload_n hx hb dX8_watchAt_7 rfl (lv_at hl 0 rfl) ?_
    refine va_get (D := D) (ci := 8) (v := .ref (xa 1)) (C := RX8) (T := TX8) (N := 14) hx hb htb iX8 hown hK.1 hP 0 rfl rfl 1 (by decide) (htb _ k_273) (fun _ h9 => h9) rfl dX8_watchAt_8 ?_
    refine lv_iload_n hx hb dX8_watchAt_11 rfl (lv_at hl 1 rfl) ?_
    refine va_iald hx hb hK.1 hP 1 0 rfl rfl (g_in rfl (by omega) (by omega)) dX8_watchAt_12 ?_
    refine lv_topi (fun z_5 ez_5 => ?_)
    have kz_5 := congrArg Int32.toInt ez_5
    refine lv_if_eq (tgt := 28) hx hb dX8_watchAt_13 (by decide) (fun c_6 => ?_) (fun c_6 => ?_)
    ·
      have ic_6 : z_5.toInt = 0 := (g_eq rfl t_0).mp c_6
      clear c_6
      refine lv_aload_n hx hb dX8_watchAt_28 rfl (lv_at hl 0 rfl) ?_
      refine va_get (D := D) (ci := 8) (v := .ref (xa 3)) (C := RX8) (T := TX8) (N := 14) hx hb htb iX8 hown hK.1 hP 0 rfl rfl 3 (by decide) (htb _ k_275) (fun _ h9 => h9) rfl dX8_watchAt_29 ?_
      refine lv_iload_n hx hb dX8_watchAt_32 rfl (lv_at hl 1 rfl) ?_
      refine va_aldq hx hb hK.1 hP 2 3 rfl rfl (g_in rfl (by omega) (by omega)) dX8_watchAt_33 ?_
      exfalso; omega
    ·
      have ic_6 : z_5.toInt ≠ 0 := mt (g_eq rfl t_0).mpr c_6
      clear c_6
      refine lv_aload_n hx hb dX8_watchAt_16 rfl (lv_at hl 0 rfl) ?_
      refine va_get (D := D) (ci := 8) (v := .ref (xa 1)) (C := RX8) (T := TX8) (N := 14) hx hb htb iX8 hown hK.1 hP 0 rfl rfl 1 (by decide) (htb _ k_273) (fun _ h9 => h9) rfl dX8_watchAt_17 ?_
      refine lv_iload_n hx hb dX8_watchAt_20 rfl (lv_at hl 1 rfl) ?_
      refine va_iald hx hb hK.1 hP 1 0 rfl rfl (g_in rfl (by omega) (by omega)) dX8_watchAt_21 ?_
      refine lv_topi (fun z_7 ez_7 => ?_)
      have kz_7 := congrArg Int32.toInt ez_7
      refine lv_iconst (v := 1) hx hb dX8_watchAt_22 (by decide) ?_
      refine lv_icmp_eq (tgt := 28) hx hb dX8_watchAt_23 (by decide) (fun c_8 => ?_) (fun c_8 => ?_)
      ·
        have ic_8 : z_7.toInt = 1 := (g_eq rfl t_1).mp c_8
        clear c_8
        refine lv_aload_n hx hb dX8_watchAt_28 rfl (lv_at hl 0 rfl) ?_
        refine va_get (D := D) (ci := 8) (v := .ref (xa 3)) (C := RX8) (T := TX8) (N := 14) hx hb htb iX8 hown hK.1 hP 0 rfl rfl 3 (by decide) (htb _ k_275) (fun _ h9 => h9) rfl dX8_watchAt_29 ?_
        refine lv_iload_n hx hb dX8_watchAt_32 rfl (lv_at hl 1 rfl) ?_
        refine va_aldq hx hb hK.1 hP 2 3 rfl rfl (g_in rfl (by omega) (by omega)) dX8_watchAt_33 ?_
        exfalso; omega
      ·
        have ic_8 : z_7.toInt ≠ 1 := mt (g_eq rfl t_1).mpr c_8
        clear c_8
        refine lv_null hx hb dX8_watchAt_26 ?_
        exact W.aret hx hb hr (Or.inl ⟨_, rfl⟩) (Or.inl rfl) (fun t ht hW => ⟨rfl, ht⟩) (fun q h => by cases h) dX8_watchAt_27
  ·
    refine W_top (y := .int 0) (by rw [hr_1]) ?_
    refine lv_if_eq (tgt := 26) hx hb dX8_watchAt_4 (by decide) (fun c_9 => ?_) (fun c_9 => absurd (by decide) c_9)
    refine lv_null hx hb dX8_watchAt_26 ?_
    exact W.aret hx hb hr (Or.inl ⟨_, rfl⟩) (Or.inl rfl) (fun t ht hW => ⟨rfl, ht⟩) (fun q h => by cases h) dX8_watchAt_27
set_option maxHeartbeats 4000000 in
set_option maxRecDepth 100000 in
theorem g_X8_watchAt_W (l : Launch) (D : va_G) (E : Nat → Nat) (xh : Nat) (xa : Nat → Nat) (xtrialRule : Nat) (xdropRule : Nat) (xtoday : Int32) (xf1 : Nat → Int32) (xf3 : Nat → Option Nat) (wh : Nat) (wa : Nat → Nat) (p0 : Int32) (hi_x : (0 ≤ xtoday.toInt ∧ xtoday.toInt ≤ 399)) (hk0 : (0 ≤ p0.toInt ∧ p0.toInt ≤ 15 ∧ ((xf1 (p0).toNatClampNeg).toInt = 0 ∨ (xf1 (p0).toNatClampNeg).toInt = 1))) (hw0 : xf3 (p0).toNatClampNeg = some wh) : Met l yX8_watchAt (wl yX8_watchAt cX8_watchAt 2 (some (.object "SeaWatches$Watch"))) (RM 1 0 0) (rd_P D E [.ref xh, .int p0] [(xh, .inr (8, G8 xa xtrialRule xdropRule xtoday)), ((xa 1), .inl (E 0, 16, .inl xf1)), ((xa 3), .inl (E 3, 16, .inr (.inr (.inr (.inr xf3))))), (wh, .inr (7, G7 wa))]) (rr_Q wh) 0 0 (fun _ => False) := by
  refine Met.ofW (cc := cX8_watchAt) (maxL := 2) (ret := (some (.object "SeaWatches$Watch"))) (by decide) rfl ?_
  intro p e s m args below meth c s₁ B hml hv
  obtain ⟨rfl, hP, hK⟩ := hv
  have hx := B.exec; have hb := B.bytes; have hr := B.returns
  have hts := atoms_spec (ws := wl yX8_watchAt cX8_watchAt 2 (some (.object "SeaWatches$Watch"))) B.pre
  have htb : ∀ w ∈ tb, w.before _ s = true := fun w h => hts w (List.mem_cons_of_mem _ h)
  have hown : s.vm.findClass RX8 = some m.cls := findClass_of_methodNamed B.named
  have hlocks := B.notSynchronized
  have hP : va_P D vwCl [(xh, .inr (8, G8 xa xtrialRule xdropRule xtoday)), ((xa 1), .inl (E 0, 16, .inl xf1)), ((xa 3), .inl (E 3, 16, .inr (.inr (.inr (.inr xf3))))), (wh, .inr (7, G7 wa))] s.heap := hP
  have hl := lv_entry ([.ref xh, .int p0]) (n := 2) (Nat.le_of_ble_eq_true rfl)
  rw [lg_entry_eq]
  generalize (lg_sl ([.ref xh, .int p0]) ++ List.replicate (2 - (lg_sl ([.ref xh, .int p0])).length) Slot.unset).toArray = ls at hl ⊢
  have hl : lv_has ls 2 [(0, .ref xh), (1, .int p0)] := hl
  have lo_p0 := i_lo p0; have hi_p0 := i_hi p0
  refine lv_iload_n hx hb dX8_watchAt_0 rfl (lv_at hl 1 rfl) ?_
  refine callRS (rest := []) (As := [.int p0]) hx hb hml hown htb hK (g_X8_isPlace l D E p0 ) ok_X8_isPlace k_333 k_334 k_1 k_335 ⟨(Nat.le_of_ble_eq_true rfl), (Nat.le_of_ble_eq_true rfl)⟩ ⟨(Nat.le_of_ble_eq_true rfl), (Nat.le_of_ble_eq_true rfl)⟩ hl.1 (Nat.le_of_ble_eq_true rfl) rfl rfl dX8_watchAt_1 (hP.sub (ws' := ([] : va_W)) [] rfl) (fun r_1 hw_2 => ?_)
  rcases hw_2 with ⟨hr_1, hw_2⟩ | ⟨hr_1, hw_2⟩
  ·
    refine W_top (y := .int 1) (by rw [hr_1]) ?_
    refine lv_if_eq (tgt := 26) hx hb dX8_watchAt_4 (by decide) (fun c_4 => absurd c_4 (by decide)) (fun c_4 => ?_)
    refine lv_aload_n hx hb dX8_watchAt_7 rfl (lv_at hl 0 rfl) ?_
    refine va_get (D := D) (ci := 8) (v := .ref (xa 1)) (C := RX8) (T := TX8) (N := 14) hx hb htb iX8 hown hK.1 hP 0 rfl rfl 1 (by decide) (htb _ k_273) (fun _ h9 => h9) rfl dX8_watchAt_8 ?_
    refine lv_iload_n hx hb dX8_watchAt_11 rfl (lv_at hl 1 rfl) ?_
    refine va_iald hx hb hK.1 hP 1 0 rfl rfl (g_in rfl (by omega) (by omega)) dX8_watchAt_12 ?_
    refine lv_topi (fun z_5 ez_5 => ?_)
    have kz_5 := congrArg Int32.toInt ez_5
    refine lv_if_eq (tgt := 28) hx hb dX8_watchAt_13 (by decide) (fun c_6 => ?_) (fun c_6 => ?_)
    ·
      have ic_6 : z_5.toInt = 0 := (g_eq rfl t_0).mp c_6
      clear c_6
      refine lv_aload_n hx hb dX8_watchAt_28 rfl (lv_at hl 0 rfl) ?_
      refine va_get (D := D) (ci := 8) (v := .ref (xa 3)) (C := RX8) (T := TX8) (N := 14) hx hb htb iX8 hown hK.1 hP 0 rfl rfl 3 (by decide) (htb _ k_275) (fun _ h9 => h9) rfl dX8_watchAt_29 ?_
      refine lv_iload_n hx hb dX8_watchAt_32 rfl (lv_at hl 1 rfl) ?_
      refine va_aldq hx hb hK.1 hP 2 3 rfl rfl (g_in rfl (by omega) (by omega)) dX8_watchAt_33 ?_
      refine W_top (y := .ref wh) (congrArg va_rf hw0) ?_
      exact W.aret hx hb hr (Or.inl ⟨_, rfl⟩) (Or.inr ⟨_, rfl⟩) (fun t ht hW => ⟨rfl, ht⟩) (fun q h => by cases h) dX8_watchAt_34
    ·
      have ic_6 : z_5.toInt ≠ 0 := mt (g_eq rfl t_0).mpr c_6
      clear c_6
      refine lv_aload_n hx hb dX8_watchAt_16 rfl (lv_at hl 0 rfl) ?_
      refine va_get (D := D) (ci := 8) (v := .ref (xa 1)) (C := RX8) (T := TX8) (N := 14) hx hb htb iX8 hown hK.1 hP 0 rfl rfl 1 (by decide) (htb _ k_273) (fun _ h9 => h9) rfl dX8_watchAt_17 ?_
      refine lv_iload_n hx hb dX8_watchAt_20 rfl (lv_at hl 1 rfl) ?_
      refine va_iald hx hb hK.1 hP 1 0 rfl rfl (g_in rfl (by omega) (by omega)) dX8_watchAt_21 ?_
      refine lv_topi (fun z_7 ez_7 => ?_)
      have kz_7 := congrArg Int32.toInt ez_7
      refine lv_iconst (v := 1) hx hb dX8_watchAt_22 (by decide) ?_
      refine lv_icmp_eq (tgt := 28) hx hb dX8_watchAt_23 (by decide) (fun c_8 => ?_) (fun c_8 => ?_)
      ·
        have ic_8 : z_7.toInt = 1 := (g_eq rfl t_1).mp c_8
        clear c_8
        refine lv_aload_n hx hb dX8_watchAt_28 rfl (lv_at hl 0 rfl) ?_
        refine va_get (D := D) (ci := 8) (v := .ref (xa 3)) (C := RX8) (T := TX8) (N := 14) hx hb htb iX8 hown hK.1 hP 0 rfl rfl 3 (by decide) (htb _ k_275) (fun _ h9 => h9) rfl dX8_watchAt_29 ?_
        refine lv_iload_n hx hb dX8_watchAt_32 rfl (lv_at hl 1 rfl) ?_
        refine va_aldq hx hb hK.1 hP 2 3 rfl rfl (g_in rfl (by omega) (by omega)) dX8_watchAt_33 ?_
        refine W_top (y := .ref wh) (congrArg va_rf hw0) ?_
        exact W.aret hx hb hr (Or.inl ⟨_, rfl⟩) (Or.inr ⟨_, rfl⟩) (fun t ht hW => ⟨rfl, ht⟩) (fun q h => by cases h) dX8_watchAt_34
      ·
        have ic_8 : z_7.toInt ≠ 1 := mt (g_eq rfl t_1).mpr c_8
        clear c_8
        refine lv_null hx hb dX8_watchAt_26 ?_
        exfalso; omega
  ·
    refine W_top (y := .int 0) (by rw [hr_1]) ?_
    refine lv_if_eq (tgt := 26) hx hb dX8_watchAt_4 (by decide) (fun c_9 => ?_) (fun c_9 => absurd (by decide) c_9)
    refine lv_null hx hb dX8_watchAt_26 ?_
    exfalso; omega
set_option maxHeartbeats 4000000 in
set_option maxRecDepth 100000 in
theorem g_X8_lackAt (l : Launch) (D : va_G) (E : Nat → Nat) (xh : Nat) (xa : Nat → Nat) (xtrialRule : Nat) (xdropRule : Nat) (xtoday : Int32) (xf1 : Nat → Int32) (p0 : Int32) (hi_x : (0 ≤ xtoday.toInt ∧ xtoday.toInt ≤ 399)) : Met l yX8_lackAt (wl yX8_lackAt cX8_lackAt 2 (some .int)) (RM 1 0 0) (rd_P D E [.ref xh, .int p0] [(xh, .inr (8, G8 xa xtrialRule xdropRule xtoday)), ((xa 1), .inl (E 0, 16, .inl xf1))]) (rd_Q (fun r => ((r.toInt = -1 ∧ ¬ (0 ≤ p0.toInt ∧ p0.toInt ≤ 15)) ∨ (r.toInt = -2 ∧ (0 ≤ p0.toInt ∧ p0.toInt ≤ 15) ∧ (xf1 (p0).toNatClampNeg).toInt = -5) ∨ (r.toInt = -3 ∧ (0 ≤ p0.toInt ∧ p0.toInt ≤ 15) ∧ (xf1 (p0).toNatClampNeg).toInt ≠ -5)))) 0 0 (fun _ => False) := by
  refine Met.ofW (cc := cX8_lackAt) (maxL := 2) (ret := (some .int)) (by decide) rfl ?_
  intro p e s m args below meth c s₁ B hml hv
  obtain ⟨rfl, hP, hK⟩ := hv
  have hx := B.exec; have hb := B.bytes; have hr := B.returns
  have hts := atoms_spec (ws := wl yX8_lackAt cX8_lackAt 2 (some .int)) B.pre
  have htb : ∀ w ∈ tb, w.before _ s = true := fun w h => hts w (List.mem_cons_of_mem _ h)
  have hown : s.vm.findClass RX8 = some m.cls := findClass_of_methodNamed B.named
  have hlocks := B.notSynchronized
  have hP : va_P D vwCl [(xh, .inr (8, G8 xa xtrialRule xdropRule xtoday)), ((xa 1), .inl (E 0, 16, .inl xf1))] s.heap := hP
  have hl := lv_entry ([.ref xh, .int p0]) (n := 2) (Nat.le_of_ble_eq_true rfl)
  rw [lg_entry_eq]
  generalize (lg_sl ([.ref xh, .int p0]) ++ List.replicate (2 - (lg_sl ([.ref xh, .int p0])).length) Slot.unset).toArray = ls at hl ⊢
  have hl : lv_has ls 2 [(0, .ref xh), (1, .int p0)] := hl
  have lo_p0 := i_lo p0; have hi_p0 := i_hi p0
  refine lv_iload_n hx hb dX8_lackAt_0 rfl (lv_at hl 1 rfl) ?_
  refine callRS (rest := []) (As := [.int p0]) hx hb hml hown htb hK (g_X8_isPlace l D E p0 ) ok_X8_isPlace k_333 k_334 k_1 k_335 ⟨(Nat.le_of_ble_eq_true rfl), (Nat.le_of_ble_eq_true rfl)⟩ ⟨(Nat.le_of_ble_eq_true rfl), (Nat.le_of_ble_eq_true rfl)⟩ hl.1 (Nat.le_of_ble_eq_true rfl) rfl rfl dX8_lackAt_1 (hP.sub (ws' := ([] : va_W)) [] rfl) (fun r_1 hw_2 => ?_)
  rcases hw_2 with ⟨hr_1, hw_2⟩ | ⟨hr_1, hw_2⟩
  ·
    refine W_top (y := .int 1) (by rw [hr_1]) ?_
    refine lv_if_ne (tgt := 9) hx hb dX8_lackAt_4 (by decide) (fun c_4 => ?_) (fun c_4 => absurd c_4 (by decide))
    refine lv_aload_n hx hb dX8_lackAt_9 rfl (lv_at hl 0 rfl) ?_
    refine va_get (D := D) (ci := 8) (v := .ref (xa 1)) (C := RX8) (T := TX8) (N := 14) hx hb htb iX8 hown hK.1 hP 0 rfl rfl 1 (by decide) (htb _ k_273) (fun _ h9 => h9) rfl dX8_lackAt_10 ?_
    refine lv_iload_n hx hb dX8_lackAt_13 rfl (lv_at hl 1 rfl) ?_
    refine va_iald hx hb hK.1 hP 1 0 rfl rfl (g_in rfl (by omega) (by omega)) dX8_lackAt_14 ?_
    refine lv_topi (fun z_5 ez_5 => ?_)
    have kz_5 := congrArg Int32.toInt ez_5
    refine lv_bipush (v := (-5)) hx hb dX8_lackAt_15 (by decide) ?_
    refine lv_icmp_ne (tgt := 25) hx hb dX8_lackAt_17 (by decide) (fun c_6 => ?_) (fun c_6 => ?_)
    ·
      have ic_6 : z_5.toInt ≠ -5 := mt (g_eq rfl t_m5).mpr c_6
      clear c_6
      refine lv_bipush (v := (-3)) hx hb dX8_lackAt_25 (by decide) ?_
      exact W.iret (v := (-3)) hx hb hr (fun t ht hW => ⟨(-3), rfl, (by have h0 := t_m3; (try dsimp only); omega), ht⟩) (fun q h => by cases h) dX8_lackAt_27
    ·
      have ic_6 : z_5.toInt = -5 := (g_eq rfl t_m5).mp c_6
      clear c_6
      refine lv_bipush (v := (-2)) hx hb dX8_lackAt_20 (by decide) ?_
      refine lv_goto (tgt := 27) hx hb dX8_lackAt_22 (by decide) ?_
      exact W.iret (v := (-2)) hx hb hr (fun t ht hW => ⟨(-2), rfl, (by have h0 := t_m2; (try dsimp only); omega), ht⟩) (fun q h => by cases h) dX8_lackAt_27
  ·
    refine W_top (y := .int 0) (by rw [hr_1]) ?_
    refine lv_if_ne (tgt := 9) hx hb dX8_lackAt_4 (by decide) (fun c_7 => absurd (by decide) c_7) (fun c_7 => ?_)
    refine lv_iconst (v := (-1)) hx hb dX8_lackAt_7 (by decide) ?_
    exact W.iret (v := (-1)) hx hb hr (fun t ht hW => ⟨(-1), rfl, (by have h0 := t_m1; (try dsimp only); omega), ht⟩) (fun q h => by cases h) dX8_lackAt_8
set_option maxHeartbeats 4000000 in
set_option maxRecDepth 100000 in
theorem g_X8_refusalOfStretch_N (l : Launch) (D : va_G) (E : Nat → Nat) (xh : Nat) (xa : Nat → Nat) (xtrialRule : Nat) (xdropRule : Nat) (xtoday : Int32) (xf1 : Nat → Int32) (xf3 : Nat → Option Nat) (p0 : Int32) (p1 : Int32) (p2 : Int32) (hi_x : (0 ≤ xtoday.toInt ∧ xtoday.toInt ≤ 399)) (hn0 : ¬ (0 ≤ p0.toInt ∧ p0.toInt ≤ 15 ∧ ((xf1 (p0).toNatClampNeg).toInt = 0 ∨ (xf1 (p0).toNatClampNeg).toInt = 1))) : Met l yX8_refusalOfStretch (wl yX8_refusalOfStretch cX8_refusalOfStretch 4 (some .int)) (RM 2 0 0) (rd_P D E [.ref xh, .int p0, .int p1, .int p2] [(xh, .inr (8, G8 xa xtrialRule xdropRule xtoday)), ((xa 1), .inl (E 0, 16, .inl xf1)), ((xa 3), .inl (E 3, 16, .inr (.inr (.inr (.inr xf3)))))]) (rd_Q (fun r => ((r.toInt = -1 ∧ ¬ ((0 ≤ p0.toInt ∧ p0.toInt ≤ 15) ∧ (0 ≤ p1.toInt ∧ p2.toInt ≤ 399 ∧ p1.toInt < p2.toInt ∧ p2.toInt - p1.toInt ≤ 60))) ∨ (((0 ≤ p0.toInt ∧ p0.toInt ≤ 15) ∧ (0 ≤ p1.toInt ∧ p2.toInt ≤ 399 ∧ p1.toInt < p2.toInt ∧ p2.toInt - p1.toInt ≤ 60)) ∧ (((xf1 (p0).toNatClampNeg).toInt = -5 ∧ r.toInt = -2) ∨ ((xf1 (p0).toNatClampNeg).toInt ≠ -5 ∧ r.toInt = -3)))))) 0 0 (fun _ => False) := by
  refine Met.ofW (cc := cX8_refusalOfStretch) (maxL := 4) (ret := (some .int)) (by decide) rfl ?_
  intro p e s m args below meth c s₁ B hml hv
  obtain ⟨rfl, hP, hK⟩ := hv
  have hx := B.exec; have hb := B.bytes; have hr := B.returns
  have hts := atoms_spec (ws := wl yX8_refusalOfStretch cX8_refusalOfStretch 4 (some .int)) B.pre
  have htb : ∀ w ∈ tb, w.before _ s = true := fun w h => hts w (List.mem_cons_of_mem _ h)
  have hown : s.vm.findClass RX8 = some m.cls := findClass_of_methodNamed B.named
  have hlocks := B.notSynchronized
  have hP : va_P D vwCl [(xh, .inr (8, G8 xa xtrialRule xdropRule xtoday)), ((xa 1), .inl (E 0, 16, .inl xf1)), ((xa 3), .inl (E 3, 16, .inr (.inr (.inr (.inr xf3)))))] s.heap := hP
  have hl := lv_entry ([.ref xh, .int p0, .int p1, .int p2]) (n := 4) (Nat.le_of_ble_eq_true rfl)
  rw [lg_entry_eq]
  generalize (lg_sl ([.ref xh, .int p0, .int p1, .int p2]) ++ List.replicate (4 - (lg_sl ([.ref xh, .int p0, .int p1, .int p2])).length) Slot.unset).toArray = ls at hl ⊢
  have hl : lv_has ls 4 [(0, .ref xh), (1, .int p0), (2, .int p1), (3, .int p2)] := hl
  have lo_p0 := i_lo p0; have hi_p0 := i_hi p0
  have lo_p1 := i_lo p1; have hi_p1 := i_hi p1
  have lo_p2 := i_lo p2; have hi_p2 := i_hi p2
  refine lv_iload_n hx hb dX8_refusalOfStretch_0 rfl (lv_at hl 1 rfl) ?_
  refine callRS (rest := []) (As := [.int p0]) hx hb hml hown htb hK (g_X8_isPlace l D E p0 ) ok_X8_isPlace k_333 k_334 k_1 k_335 ⟨(Nat.le_of_ble_eq_true rfl), (Nat.le_of_ble_eq_true rfl)⟩ ⟨(Nat.le_of_ble_eq_true rfl), (Nat.le_of_ble_eq_true rfl)⟩ hl.1 (Nat.le_of_ble_eq_true rfl) rfl rfl dX8_refusalOfStretch_1 (hP.sub (ws' := ([] : va_W)) [] rfl) (fun r_1 hw_2 => ?_)
  rcases hw_2 with ⟨hr_1, hw_2⟩ | ⟨hr_1, hw_2⟩
  ·
    refine W_top (y := .int 1) (by rw [hr_1]) ?_
    refine lv_if_eq (tgt := 15) hx hb dX8_refusalOfStretch_4 (by decide) (fun c_4 => absurd c_4 (by decide)) (fun c_4 => ?_)
    refine lv_iload_n hx hb dX8_refusalOfStretch_7 rfl (lv_at hl 2 rfl) ?_
    refine lv_iload_n hx hb dX8_refusalOfStretch_8 rfl (lv_at hl 3 rfl) ?_
    refine callRS (rest := []) (As := [.int p1, .int p2]) hx hb hml hown htb hK (g_X8_isStretch l D E p1 p2 ) ok_X8_isStretch k_479 k_480 k_1 k_481 ⟨(Nat.le_of_ble_eq_true rfl), (Nat.le_of_ble_eq_true rfl)⟩ ⟨(Nat.le_of_ble_eq_true rfl), (Nat.le_of_ble_eq_true rfl)⟩ hl.1 (Nat.le_of_ble_eq_true rfl) rfl rfl dX8_refusalOfStretch_9 (hP.sub (ws' := ([] : va_W)) [] rfl) (fun r_5 hw_6 => ?_)
    rcases hw_6 with ⟨hr_5, hw_6⟩ | ⟨hr_5, hw_6⟩
    ·
      refine W_top (y := .int 1) (by rw [hr_5]) ?_
      refine lv_if_ne (tgt := 17) hx hb dX8_refusalOfStretch_12 (by decide) (fun c_8 => ?_) (fun c_8 => absurd c_8 (by decide))
      refine lv_aload_n hx hb dX8_refusalOfStretch_17 rfl (lv_at hl 0 rfl) ?_
      refine lv_iload_n hx hb dX8_refusalOfStretch_18 rfl (lv_at hl 1 rfl) ?_
      refine rn_call (runRV (rest := []) (As := [.int p0]) hx hb hml hown htb (g_X8_watchAt_N l D E xh xa xtrialRule xdropRule xtoday xf1 xf3 p0 (by (try dsimp only); omega) hn0) ok_X8_watchAt k_369 k_371 ks_1 k_1 k_372 ⟨(Nat.le_of_ble_eq_true rfl), (Nat.le_of_ble_eq_true rfl)⟩ ⟨(Nat.le_of_ble_eq_true rfl), (Nat.le_of_ble_eq_true rfl)⟩ hl.1 (Nat.le_of_ble_eq_true rfl) rfl rfl dX8_refusalOfStretch_19 (prV (hP.sub (ws' := [(xh, .inr (8, G8 xa xtrialRule xdropRule xtoday)), ((xa 1), .inl (E 0, 16, .inl xf1)), ((xa 3), .inl (E 3, 16, .inr (.inr (.inr (.inr xf3)))))]) [0, 1, 2] rfl) hK rfl rfl 0 rfl)) ?_
      refine lv_ifnonnullN hx hb dX8_refusalOfStretch_22 ?_
      refine lv_aload_n hx hb dX8_refusalOfStretch_25 rfl (lv_at hl 0 rfl) ?_
      refine lv_iload_n hx hb dX8_refusalOfStretch_26 rfl (lv_at hl 1 rfl) ?_
      refine callRV (rest := []) (As := [.int p0]) hx hb hml hown htb hK (g_X8_lackAt l D E xh xa xtrialRule xdropRule xtoday xf1 p0 (by (try dsimp only); omega)) ok_X8_lackAt k_396 k_398 ks_3 k_1 k_399 ⟨(Nat.le_of_ble_eq_true rfl), (Nat.le_of_ble_eq_true rfl)⟩ ⟨(Nat.le_of_ble_eq_true rfl), (Nat.le_of_ble_eq_true rfl)⟩ hl.1 (Nat.le_of_ble_eq_true rfl) rfl rfl dX8_refusalOfStretch_27 (hP.sub (ws' := [(xh, .inr (8, G8 xa xtrialRule xdropRule xtoday)), ((xa 1), .inl (E 0, 16, .inl xf1))]) [0, 1] rfl) rfl rfl 0 rfl (fun r_12 hw_13 => ?_)
      refine lv_goto (tgt := 34) hx hb dX8_refusalOfStretch_30 (by decide) ?_
      exact W.iret (v := r_12) hx hb hr (fun t ht hW => ⟨r_12, rfl, (by rcases hw_13 with h9 | h9 | h9 <;> first | (exfalso; omega) | exact Or.inl ⟨by omega, by omega⟩ | exact Or.inr ⟨by omega, by omega⟩), ht⟩) (fun q h => by cases h) dX8_refusalOfStretch_34
    ·
      refine W_top (y := .int 0) (by rw [hr_5]) ?_
      refine lv_if_ne (tgt := 17) hx hb dX8_refusalOfStretch_12 (by decide) (fun c_15 => absurd (by decide) c_15) (fun c_15 => ?_)
      refine lv_iconst (v := (-1)) hx hb dX8_refusalOfStretch_15 (by decide) ?_
      exact W.iret (v := (-1)) hx hb hr (fun t ht hW => ⟨(-1), rfl, (Or.inl ⟨by have hl0 := t_m1; omega, by omega⟩), ht⟩) (fun q h => by cases h) dX8_refusalOfStretch_16
  ·
    refine W_top (y := .int 0) (by rw [hr_1]) ?_
    refine lv_if_eq (tgt := 15) hx hb dX8_refusalOfStretch_4 (by decide) (fun c_16 => ?_) (fun c_16 => absurd (by decide) c_16)
    refine lv_iconst (v := (-1)) hx hb dX8_refusalOfStretch_15 (by decide) ?_
    exact W.iret (v := (-1)) hx hb hr (fun t ht hW => ⟨(-1), rfl, (Or.inl ⟨by have hl0 := t_m1; omega, by omega⟩), ht⟩) (fun q h => by cases h) dX8_refusalOfStretch_16
set_option maxHeartbeats 4000000 in
set_option maxRecDepth 100000 in
theorem g_X8_refusalOfStretch_W (l : Launch) (D : va_G) (E : Nat → Nat) (xh : Nat) (xa : Nat → Nat) (xtrialRule : Nat) (xdropRule : Nat) (xtoday : Int32) (xf1 : Nat → Int32) (xf3 : Nat → Option Nat) (wh : Nat) (wa : Nat → Nat) (p0 : Int32) (p1 : Int32) (p2 : Int32) (hi_x : (0 ≤ xtoday.toInt ∧ xtoday.toInt ≤ 399)) (hk0 : (0 ≤ p0.toInt ∧ p0.toInt ≤ 15 ∧ ((xf1 (p0).toNatClampNeg).toInt = 0 ∨ (xf1 (p0).toNatClampNeg).toInt = 1))) (hw0 : xf3 (p0).toNatClampNeg = some wh) : Met l yX8_refusalOfStretch (wl yX8_refusalOfStretch cX8_refusalOfStretch 4 (some .int)) (RM 2 0 0) (rd_P D E [.ref xh, .int p0, .int p1, .int p2] [(xh, .inr (8, G8 xa xtrialRule xdropRule xtoday)), ((xa 1), .inl (E 0, 16, .inl xf1)), ((xa 3), .inl (E 3, 16, .inr (.inr (.inr (.inr xf3))))), (wh, .inr (7, G7 wa))]) (rd_Q (fun r => ((r.toInt = 0 ∧ (0 ≤ p1.toInt ∧ p2.toInt ≤ 399 ∧ p1.toInt < p2.toInt ∧ p2.toInt - p1.toInt ≤ 60)) ∨ (r.toInt = -1 ∧ ¬ (0 ≤ p1.toInt ∧ p2.toInt ≤ 399 ∧ p1.toInt < p2.toInt ∧ p2.toInt - p1.toInt ≤ 60))))) 0 0 (fun _ => False) := by
  refine Met.ofW (cc := cX8_refusalOfStretch) (maxL := 4) (ret := (some .int)) (by decide) rfl ?_
  intro p e s m args below meth c s₁ B hml hv
  obtain ⟨rfl, hP, hK⟩ := hv
  have hx := B.exec; have hb := B.bytes; have hr := B.returns
  have hts := atoms_spec (ws := wl yX8_refusalOfStretch cX8_refusalOfStretch 4 (some .int)) B.pre
  have htb : ∀ w ∈ tb, w.before _ s = true := fun w h => hts w (List.mem_cons_of_mem _ h)
  have hown : s.vm.findClass RX8 = some m.cls := findClass_of_methodNamed B.named
  have hlocks := B.notSynchronized
  have hP : va_P D vwCl [(xh, .inr (8, G8 xa xtrialRule xdropRule xtoday)), ((xa 1), .inl (E 0, 16, .inl xf1)), ((xa 3), .inl (E 3, 16, .inr (.inr (.inr (.inr xf3))))), (wh, .inr (7, G7 wa))] s.heap := hP
  have hl := lv_entry ([.ref xh, .int p0, .int p1, .int p2]) (n := 4) (Nat.le_of_ble_eq_true rfl)
  rw [lg_entry_eq]
  generalize (lg_sl ([.ref xh, .int p0, .int p1, .int p2]) ++ List.replicate (4 - (lg_sl ([.ref xh, .int p0, .int p1, .int p2])).length) Slot.unset).toArray = ls at hl ⊢
  have hl : lv_has ls 4 [(0, .ref xh), (1, .int p0), (2, .int p1), (3, .int p2)] := hl
  have lo_p0 := i_lo p0; have hi_p0 := i_hi p0
  have lo_p1 := i_lo p1; have hi_p1 := i_hi p1
  have lo_p2 := i_lo p2; have hi_p2 := i_hi p2
  refine lv_iload_n hx hb dX8_refusalOfStretch_0 rfl (lv_at hl 1 rfl) ?_
  refine callRS (rest := []) (As := [.int p0]) hx hb hml hown htb hK (g_X8_isPlace l D E p0 ) ok_X8_isPlace k_333 k_334 k_1 k_335 ⟨(Nat.le_of_ble_eq_true rfl), (Nat.le_of_ble_eq_true rfl)⟩ ⟨(Nat.le_of_ble_eq_true rfl), (Nat.le_of_ble_eq_true rfl)⟩ hl.1 (Nat.le_of_ble_eq_true rfl) rfl rfl dX8_refusalOfStretch_1 (hP.sub (ws' := ([] : va_W)) [] rfl) (fun r_1 hw_2 => ?_)
  rcases hw_2 with ⟨hr_1, hw_2⟩ | ⟨hr_1, hw_2⟩
  ·
    refine W_top (y := .int 1) (by rw [hr_1]) ?_
    refine lv_if_eq (tgt := 15) hx hb dX8_refusalOfStretch_4 (by decide) (fun c_4 => absurd c_4 (by decide)) (fun c_4 => ?_)
    refine lv_iload_n hx hb dX8_refusalOfStretch_7 rfl (lv_at hl 2 rfl) ?_
    refine lv_iload_n hx hb dX8_refusalOfStretch_8 rfl (lv_at hl 3 rfl) ?_
    refine callRS (rest := []) (As := [.int p1, .int p2]) hx hb hml hown htb hK (g_X8_isStretch l D E p1 p2 ) ok_X8_isStretch k_479 k_480 k_1 k_481 ⟨(Nat.le_of_ble_eq_true rfl), (Nat.le_of_ble_eq_true rfl)⟩ ⟨(Nat.le_of_ble_eq_true rfl), (Nat.le_of_ble_eq_true rfl)⟩ hl.1 (Nat.le_of_ble_eq_true rfl) rfl rfl dX8_refusalOfStretch_9 (hP.sub (ws' := ([] : va_W)) [] rfl) (fun r_5 hw_6 => ?_)
    rcases hw_6 with ⟨hr_5, hw_6⟩ | ⟨hr_5, hw_6⟩
    ·
      refine W_top (y := .int 1) (by rw [hr_5]) ?_
      refine lv_if_ne (tgt := 17) hx hb dX8_refusalOfStretch_12 (by decide) (fun c_8 => ?_) (fun c_8 => absurd c_8 (by decide))
      refine lv_aload_n hx hb dX8_refusalOfStretch_17 rfl (lv_at hl 0 rfl) ?_
      refine lv_iload_n hx hb dX8_refusalOfStretch_18 rfl (lv_at hl 1 rfl) ?_
      refine rr_call (runRV (rest := []) (As := [.int p0]) hx hb hml hown htb (g_X8_watchAt_W l D E xh xa xtrialRule xdropRule xtoday xf1 xf3 wh wa p0 (by (try dsimp only); omega) hk0 hw0) ok_X8_watchAt k_369 k_371 ks_1 k_1 k_372 ⟨(Nat.le_of_ble_eq_true rfl), (Nat.le_of_ble_eq_true rfl)⟩ ⟨(Nat.le_of_ble_eq_true rfl), (Nat.le_of_ble_eq_true rfl)⟩ hl.1 (Nat.le_of_ble_eq_true rfl) rfl rfl dX8_refusalOfStretch_19 (prV (hP.sub (ws' := [(xh, .inr (8, G8 xa xtrialRule xdropRule xtoday)), ((xa 1), .inl (E 0, 16, .inl xf1)), ((xa 3), .inl (E 3, 16, .inr (.inr (.inr (.inr xf3))))), (wh, .inr (7, G7 wa))]) [0, 1, 2, 3] rfl) hK rfl rfl 0 rfl)) ?_
      refine lv_ifnonnull (tgt := 33) hx hb dX8_refusalOfStretch_22 (by decide) ?_
      refine lv_iconst (v := 0) hx hb dX8_refusalOfStretch_33 (by decide) ?_
      exact W.iret (v := 0) hx hb hr (fun t ht hW => ⟨0, rfl, (by have h0 := t_0; (try dsimp only); omega), ht⟩) (fun q h => by cases h) dX8_refusalOfStretch_34
    ·
      refine W_top (y := .int 0) (by rw [hr_5]) ?_
      refine lv_if_ne (tgt := 17) hx hb dX8_refusalOfStretch_12 (by decide) (fun c_12 => absurd (by decide) c_12) (fun c_12 => ?_)
      refine lv_iconst (v := (-1)) hx hb dX8_refusalOfStretch_15 (by decide) ?_
      exact W.iret (v := (-1)) hx hb hr (fun t ht hW => ⟨(-1), rfl, (by have h0 := t_m1; (try dsimp only); omega), ht⟩) (fun q h => by cases h) dX8_refusalOfStretch_16
  ·
    refine W_top (y := .int 0) (by rw [hr_1]) ?_
    refine lv_if_eq (tgt := 15) hx hb dX8_refusalOfStretch_4 (by decide) (fun c_13 => ?_) (fun c_13 => absurd (by decide) c_13)
    refine lv_iconst (v := (-1)) hx hb dX8_refusalOfStretch_15 (by decide) ?_
    exact W.iret (v := (-1)) hx hb hr (fun t ht hW => ⟨(-1), rfl, (by have h0 := t_m1; (try dsimp only); omega), ht⟩) (fun q h => by cases h) dX8_refusalOfStretch_16
set_option maxHeartbeats 4000000 in
set_option maxRecDepth 100000 in
theorem g_X8_warmthFor (l : Launch) (D : va_G) (E : Nat → Nat) (xh : Nat) (xa : Nat → Nat) (xtrialRule : Nat) (xdropRule : Nat) (xtoday : Int32) (xf0 : Nat → Int32) (xf1 : Nat → Int32) (xf2 : Nat → Int32) (p0 : Int32) (p1 : Int32) (hi_x : (0 ≤ xtoday.toInt ∧ xtoday.toInt ≤ 399)) : Met l yX8_warmthFor (wl yX8_warmthFor cX8_warmthFor 3 (some .int)) (RM 1 0 0) (rd_P D E [.ref xh, .int p0, .int p1] [(xh, .inr (8, G8 xa xtrialRule xdropRule xtoday)), ((xa 0), .inl (E 0, 400, .inl xf0)), ((xa 1), .inl (E 0, 16, .inl xf1)), ((xa 2), .inl (E 0, 16, .inl xf2))]) (rd_Q (fun r => ((¬ ((0 ≤ p0.toInt ∧ p0.toInt ≤ 15) ∧ (0 ≤ p1.toInt ∧ p1.toInt ≤ 399)) ∧ r.toInt = -100) ∨ (((0 ≤ p0.toInt ∧ p0.toInt ≤ 15) ∧ (0 ≤ p1.toInt ∧ p1.toInt ≤ 399)) ∧ r = wmF xf1 xf2 xf0 p0 p1)))) 0 0 (fun _ => False) := by
  refine Met.ofW (cc := cX8_warmthFor) (maxL := 3) (ret := (some .int)) (by decide) rfl ?_
  intro p e s m args below meth c s₁ B hml hv
  obtain ⟨rfl, hP, hK⟩ := hv
  have hx := B.exec; have hb := B.bytes; have hr := B.returns
  have hts := atoms_spec (ws := wl yX8_warmthFor cX8_warmthFor 3 (some .int)) B.pre
  have htb : ∀ w ∈ tb, w.before _ s = true := fun w h => hts w (List.mem_cons_of_mem _ h)
  have hown : s.vm.findClass RX8 = some m.cls := findClass_of_methodNamed B.named
  have hlocks := B.notSynchronized
  have hP : va_P D vwCl [(xh, .inr (8, G8 xa xtrialRule xdropRule xtoday)), ((xa 0), .inl (E 0, 400, .inl xf0)), ((xa 1), .inl (E 0, 16, .inl xf1)), ((xa 2), .inl (E 0, 16, .inl xf2))] s.heap := hP
  have hl := lv_entry ([.ref xh, .int p0, .int p1]) (n := 3) (Nat.le_of_ble_eq_true rfl)
  rw [lg_entry_eq]
  generalize (lg_sl ([.ref xh, .int p0, .int p1]) ++ List.replicate (3 - (lg_sl ([.ref xh, .int p0, .int p1])).length) Slot.unset).toArray = ls at hl ⊢
  have hl : lv_has ls 3 [(0, .ref xh), (1, .int p0), (2, .int p1)] := hl
  have lo_p0 := i_lo p0; have hi_p0 := i_hi p0
  have lo_p1 := i_lo p1; have hi_p1 := i_hi p1
  refine lv_iload_n hx hb dX8_warmthFor_0 rfl (lv_at hl 1 rfl) ?_
  refine callRS (rest := []) (As := [.int p0]) hx hb hml hown htb hK (g_X8_isPlace l D E p0 ) ok_X8_isPlace k_333 k_334 k_1 k_335 ⟨(Nat.le_of_ble_eq_true rfl), (Nat.le_of_ble_eq_true rfl)⟩ ⟨(Nat.le_of_ble_eq_true rfl), (Nat.le_of_ble_eq_true rfl)⟩ hl.1 (Nat.le_of_ble_eq_true rfl) rfl rfl dX8_warmthFor_1 (hP.sub (ws' := ([] : va_W)) [] rfl) (fun r_1 hw_2 => ?_)
  rcases hw_2 with ⟨hr_1, hw_2⟩ | ⟨hr_1, hw_2⟩
  ·
    refine W_top (y := .int 1) (by rw [hr_1]) ?_
    refine lv_if_eq (tgt := 14) hx hb dX8_warmthFor_4 (by decide) (fun c_4 => absurd c_4 (by decide)) (fun c_4 => ?_)
    refine lv_iload_n hx hb dX8_warmthFor_7 rfl (lv_at hl 2 rfl) ?_
    refine callRS (rest := []) (As := [.int p1]) hx hb hml hown htb hK (g_X8_isDay l D E p1 ) ok_X8_isDay k_323 k_324 k_1 k_325 ⟨(Nat.le_of_ble_eq_true rfl), (Nat.le_of_ble_eq_true rfl)⟩ ⟨(Nat.le_of_ble_eq_true rfl), (Nat.le_of_ble_eq_true rfl)⟩ hl.1 (Nat.le_of_ble_eq_true rfl) rfl rfl dX8_warmthFor_8 (hP.sub (ws' := ([] : va_W)) [] rfl) (fun r_5 hw_6 => ?_)
    rcases hw_6 with ⟨hr_5, hw_6⟩ | ⟨hr_5, hw_6⟩
    ·
      refine W_top (y := .int 1) (by rw [hr_5]) ?_
      refine lv_if_ne (tgt := 17) hx hb dX8_warmthFor_11 (by decide) (fun c_8 => ?_) (fun c_8 => absurd c_8 (by decide))
      refine lv_aload_n hx hb dX8_warmthFor_17 rfl (lv_at hl 0 rfl) ?_
      refine va_get (D := D) (ci := 8) (v := .ref (xa 1)) (C := RX8) (T := TX8) (N := 14) hx hb htb iX8 hown hK.1 hP 0 rfl rfl 1 (by decide) (htb _ k_273) (fun _ h9 => h9) rfl dX8_warmthFor_18 ?_
      refine lv_iload_n hx hb dX8_warmthFor_21 rfl (lv_at hl 1 rfl) ?_
      refine va_iald hx hb hK.1 hP 2 0 rfl rfl (g_in rfl (by omega) (by omega)) dX8_warmthFor_22 ?_
      refine lv_topi (fun z_9 ez_9 => ?_)
      have kz_9 := congrArg Int32.toInt ez_9
      refine lv_iconst (v := 1) hx hb dX8_warmthFor_23 (by decide) ?_
      refine lv_icmp_ne (tgt := 36) hx hb dX8_warmthFor_24 (by decide) (fun c_10 => ?_) (fun c_10 => ?_)
      ·
        have ic_10 : z_9.toInt ≠ 1 := mt (g_eq rfl t_1).mpr c_10
        clear c_10
        refine lv_aload_n hx hb dX8_warmthFor_36 rfl (lv_at hl 0 rfl) ?_
        refine va_get (D := D) (ci := 8) (v := .ref (xa 0)) (C := RX8) (T := TX8) (N := 14) hx hb htb iX8 hown hK.1 hP 0 rfl rfl 0 (by decide) (htb _ k_272) (fun _ h9 => h9) rfl dX8_warmthFor_37 ?_
        refine lv_iload_n hx hb dX8_warmthFor_40 rfl (lv_at hl 2 rfl) ?_
        refine va_iald hx hb hK.1 hP 1 0 rfl rfl (g_in rfl (by omega) (by omega)) dX8_warmthFor_41 ?_
        refine lv_topi (fun z_11 ez_11 => ?_)
        have kz_11 := congrArg Int32.toInt ez_11
        exact W.iret (v := z_11) hx hb hr (fun t ht hW => ⟨z_11, rfl, (Or.inr ⟨by omega, by unfold wmF; first | (rw [if_pos (by omega)]; assumption) | (rw [if_neg (by omega)]; assumption)⟩), ht⟩) (fun q h => by cases h) dX8_warmthFor_42
      ·
        have ic_10 : z_9.toInt = 1 := (g_eq rfl t_1).mp c_10
        clear c_10
        refine lv_aload_n hx hb dX8_warmthFor_27 rfl (lv_at hl 0 rfl) ?_
        refine va_get (D := D) (ci := 8) (v := .ref (xa 2)) (C := RX8) (T := TX8) (N := 14) hx hb htb iX8 hown hK.1 hP 0 rfl rfl 2 (by decide) (htb _ k_274) (fun _ h9 => h9) rfl dX8_warmthFor_28 ?_
        refine lv_iload_n hx hb dX8_warmthFor_31 rfl (lv_at hl 1 rfl) ?_
        refine va_iald hx hb hK.1 hP 3 0 rfl rfl (g_in rfl (by omega) (by omega)) dX8_warmthFor_32 ?_
        refine lv_topi (fun z_12 ez_12 => ?_)
        have kz_12 := congrArg Int32.toInt ez_12
        refine lv_goto (tgt := 42) hx hb dX8_warmthFor_33 (by decide) ?_
        exact W.iret (v := z_12) hx hb hr (fun t ht hW => ⟨z_12, rfl, (Or.inr ⟨by omega, by unfold wmF; first | (rw [if_pos (by omega)]; assumption) | (rw [if_neg (by omega)]; assumption)⟩), ht⟩) (fun q h => by cases h) dX8_warmthFor_42
    ·
      refine W_top (y := .int 0) (by rw [hr_5]) ?_
      refine lv_if_ne (tgt := 17) hx hb dX8_warmthFor_11 (by decide) (fun c_13 => absurd (by decide) c_13) (fun c_13 => ?_)
      refine lv_bipush (v := (-100)) hx hb dX8_warmthFor_14 (by decide) ?_
      exact W.iret (v := (-100)) hx hb hr (fun t ht hW => ⟨(-100), rfl, (Or.inl ⟨by omega, by have hl0 := t_m100; omega⟩), ht⟩) (fun q h => by cases h) dX8_warmthFor_16
  ·
    refine W_top (y := .int 0) (by rw [hr_1]) ?_
    refine lv_if_eq (tgt := 14) hx hb dX8_warmthFor_4 (by decide) (fun c_14 => ?_) (fun c_14 => absurd (by decide) c_14)
    refine lv_bipush (v := (-100)) hx hb dX8_warmthFor_14 (by decide) ?_
    exact W.iret (v := (-100)) hx hb hr (fun t ht hW => ⟨(-100), rfl, (Or.inl ⟨by omega, by have hl0 := t_m100; omega⟩), ht⟩) (fun q h => by cases h) dX8_warmthFor_16
set_option maxHeartbeats 4000000 in
set_option maxRecDepth 100000 in
theorem g_X8_placesWith (l : Launch) (D : va_G) (E : Nat → Nat) (xh : Nat) (xa : Nat → Nat) (xtrialRule : Nat) (xdropRule : Nat) (xtoday : Int32) (xf1 : Nat → Int32) (p0 : Int32) (hi_x : (0 ≤ xtoday.toInt ∧ xtoday.toInt ≤ 399)) : Met l yX8_placesWith (wl yX8_placesWith cX8_placesWith 4 (some .int)) (RM 0 0 0) (rd_P D E [.ref xh, .int p0] [(xh, .inr (8, G8 xa xtrialRule xdropRule xtoday)), ((xa 1), .inl (E 0, 16, .inl xf1))]) (rd_Q (fun r => (0 ≤ r.toInt ∧ r.toInt ≤ 16 ∧ r.toInt = cnK xf1 p0.toInt 16))) 0 0 (fun _ => False) := by
  refine Met.ofW (cc := cX8_placesWith) (maxL := 4) (ret := (some .int)) (by decide) rfl ?_
  intro p e s m args below meth c s₁ B hml hv
  obtain ⟨rfl, hP, hK⟩ := hv
  have hx := B.exec; have hb := B.bytes; have hr := B.returns
  have hts := atoms_spec (ws := wl yX8_placesWith cX8_placesWith 4 (some .int)) B.pre
  have htb : ∀ w ∈ tb, w.before _ s = true := fun w h => hts w (List.mem_cons_of_mem _ h)
  have hown : s.vm.findClass RX8 = some m.cls := findClass_of_methodNamed B.named
  have hlocks := B.notSynchronized
  have hP : va_P D vwCl [(xh, .inr (8, G8 xa xtrialRule xdropRule xtoday)), ((xa 1), .inl (E 0, 16, .inl xf1))] s.heap := hP
  have hl := lv_entry ([.ref xh, .int p0]) (n := 4) (Nat.le_of_ble_eq_true rfl)
  rw [lg_entry_eq]
  generalize (lg_sl ([.ref xh, .int p0]) ++ List.replicate (4 - (lg_sl ([.ref xh, .int p0])).length) Slot.unset).toArray = ls at hl ⊢
  have hl : lv_has ls 4 [(0, .ref xh), (1, .int p0)] := hl
  have lo_p0 := i_lo p0; have hi_p0 := i_hi p0
  refine lv_iconst (v := 0) hx hb dX8_placesWith_0 (by decide) ?_
  refine lv_istore_n (lv' := [(2, .int 0), (0, .ref xh), (1, .int p0)]) hx hb dX8_placesWith_1 rfl hl (by decide) rfl (fun ls hl => ?_)
  refine lv_iconst (v := 0) hx hb dX8_placesWith_2 (by decide) ?_
  refine lv_istore_n (lv' := [(3, .int 0), (2, .int 0), (0, .ref xh), (1, .int p0)]) hx hb dX8_placesWith_3 rfl hl (by decide) rfl (fun ls hl => ?_)
  have loop_1 : ∀ (N_3 : Nat) (L3_4 : Int32) (L2_4 : Int32)  (ls : Array Slot), 16 - L3_4.toInt < (N_3 : Int) → (0 ≤ L3_4.toInt ∧ L3_4.toInt ≤ 16 ∧ 0 ≤ L2_4.toInt ∧ L2_4.toInt ≤ L3_4.toInt) → (L2_4.toInt = cnK xf1 p0.toInt (L3_4).toNatClampNeg) → lv_has ls 4 [(3, .int L3_4), (2, .int L2_4), (0, .ref xh), (1, .int p0)] → W p l e (headSpec (wl yX8_placesWith cX8_placesWith 4 (some .int)) (RM 0 0 0)).room s m [Value.ref xh, .int p0].toArray below meth c s.heap [] 0 0 (MQ below (rd_Q (fun r => (0 ≤ r.toInt ∧ r.toInt ≤ 16 ∧ r.toInt = cnK xf1 p0.toInt 16))) [Value.ref xh, .int p0].toArray s 0 0 (fun _ => False)) (F0 m 4 ls []) := by
    intro N_3
    induction N_3 with
    | zero => intro L3_4 L2_4  ls hm v0_4 v1_4 _; exfalso; omega
    | succ N_3 ih_2 =>
      intro L3_4 L2_4 ls hm v0_4 v1_4 hl
      have lo_L3_4 := i_lo L3_4; have hi_L3_4 := i_hi L3_4
      have lo_L2_4 := i_lo L2_4; have hi_L2_4 := i_hi L2_4
      refine lv_iload_n hx hb dX8_placesWith_4 rfl (lv_at hl 0 rfl) ?_
      refine lv_bipush (v := 16) hx hb dX8_placesWith_5 (by decide) ?_
      refine lv_icmp_ge (tgt := 29) hx hb dX8_placesWith_7 (by decide) (fun c_4 => ?_) (fun c_4 => ?_)
      ·
        have ic_4 : 16 ≤ L3_4.toInt := by first | exact (g_le t_16 rfl).mp c_4 | (have h := mt (g_lt rfl t_16).mpr c_4; omega)
        clear c_4
        refine lv_iload_n hx hb dX8_placesWith_29 rfl (lv_at hl 1 rfl) ?_
        exact W.iret (v := L2_4) hx hb hr (fun t ht hW => ⟨L2_4, rfl, (by have c9 := i_clamp0 (x := L3_4) (by omega); refine ⟨by omega, by omega, ?_⟩; rw [show (16 : Nat) = (L3_4).toNatClampNeg by omega]; assumption), ht⟩) (fun q h => by cases h) dX8_placesWith_30
      ·
        have ic_4 : L3_4.toInt < 16 := by first | exact (g_lt rfl t_16).mp c_4 | (have h := mt (g_le t_16 rfl).mpr c_4; omega)
        clear c_4
        refine lv_aload_n hx hb dX8_placesWith_10 rfl (lv_at hl 2 rfl) ?_
        refine va_get (D := D) (ci := 8) (v := .ref (xa 1)) (C := RX8) (T := TX8) (N := 14) hx hb htb iX8 hown hK.1 hP 0 rfl rfl 1 (by decide) (htb _ k_273) (fun _ h9 => h9) rfl dX8_placesWith_11 ?_
        refine lv_iload_n hx hb dX8_placesWith_14 rfl (lv_at hl 0 rfl) ?_
        refine va_iald hx hb hK.1 hP 1 0 rfl rfl (g_in rfl (by omega) (by omega)) dX8_placesWith_15 ?_
        refine lv_topi (fun z_5 ez_5 => ?_)
        have kz_5 := congrArg Int32.toInt ez_5
        refine lv_iload_n hx hb dX8_placesWith_16 rfl (lv_at hl 3 rfl) ?_
        refine lv_icmp_ne (tgt := 23) hx hb dX8_placesWith_17 (by decide) (fun c_6 => ?_) (fun c_6 => ?_)
        ·
          have ic_6 : z_5.toInt ≠ p0.toInt := mt (g_eq rfl rfl).mpr c_6
          clear c_6
          obtain ⟨z_7, ez_7⟩ : ∃ y : Int32, y = L3_4 + 1 := ⟨_, rfl⟩
          have jz_7 : z_7.toInt = L3_4.toInt + 1 := by rw [ez_7]; exact g_add rfl t_1 (by omega) (by omega)
          refine lv_iinc (v := z_7) (lv' := [(3, .int z_7), (2, .int L2_4), (0, .ref xh), (1, .int p0)]) hx hb dX8_placesWith_23 hl (k := 0) rfl (by rw [ez_7]; rfl) (by decide) rfl (fun ls hl => ?_)
          refine lv_goto (tgt := 4) hx hb dX8_placesWith_26 (by decide) ?_
          exact ih_2 z_7 L2_4 _ (by (try dsimp only); omega) (by (try dsimp only); omega) (by have hcl := clampS (by omega) jz_7; rw [hcl, cnK_succ]; split <;> omega) (lv_sub hl [0, 1, 2, 3] rfl)
        ·
          have ic_6 : z_5.toInt = p0.toInt := (g_eq rfl rfl).mp c_6
          clear c_6
          obtain ⟨z_8, ez_8⟩ : ∃ y : Int32, y = L2_4 + 1 := ⟨_, rfl⟩
          have jz_8 : z_8.toInt = L2_4.toInt + 1 := by rw [ez_8]; exact g_add rfl t_1 (by omega) (by omega)
          refine lv_iinc (v := z_8) (lv' := [(2, .int z_8), (3, .int L3_4), (0, .ref xh), (1, .int p0)]) hx hb dX8_placesWith_20 hl (k := 1) rfl (by rw [ez_8]; rfl) (by decide) rfl (fun ls hl => ?_)
          obtain ⟨z_9, ez_9⟩ : ∃ y : Int32, y = L3_4 + 1 := ⟨_, rfl⟩
          have jz_9 : z_9.toInt = L3_4.toInt + 1 := by rw [ez_9]; exact g_add rfl t_1 (by omega) (by omega)
          refine lv_iinc (v := z_9) (lv' := [(3, .int z_9), (2, .int z_8), (0, .ref xh), (1, .int p0)]) hx hb dX8_placesWith_23 hl (k := 1) rfl (by rw [ez_9]; rfl) (by decide) rfl (fun ls hl => ?_)
          refine lv_goto (tgt := 4) hx hb dX8_placesWith_26 (by decide) ?_
          exact ih_2 z_9 z_8 _ (by (try dsimp only); omega) (by (try dsimp only); omega) (by have hcl := clampS (by omega) jz_9; rw [hcl, cnK_succ]; split <;> omega) (lv_sub hl [0, 1, 2, 3] rfl)
  exact loop_1 17 0 0 _ (by have h0 := t_0; (try dsimp only); omega) (by have h0 := t_0; (try dsimp only); omega) (by rfl)  (lv_sub hl [0, 1, 2, 3] rfl)
set_option maxHeartbeats 4000000 in
set_option maxRecDepth 100000 in
theorem g_X8_shipsAtSea (l : Launch) (D : va_G) (E : Nat → Nat) (xh : Nat) (xa : Nat → Nat) (xtrialRule : Nat) (xdropRule : Nat) (xtoday : Int32) (xf4 : Nat → Option Nat) (y0h : Nat) (y0a : Nat → Nat) (y0sights : Int32) (y0stage : Int32) (y0sailed : Int32) (y0voyage : Int32) (y1h : Nat) (y1a : Nat → Nat) (y1sights : Int32) (y1stage : Int32) (y1sailed : Int32) (y1voyage : Int32) (y2h : Nat) (y2a : Nat → Nat) (y2sights : Int32) (y2stage : Int32) (y2sailed : Int32) (y2voyage : Int32) (y3h : Nat) (y3a : Nat → Nat) (y3sights : Int32) (y3stage : Int32) (y3sailed : Int32) (y3voyage : Int32) (y4h : Nat) (y4a : Nat → Nat) (y4sights : Int32) (y4stage : Int32) (y4sailed : Int32) (y4voyage : Int32) (hi_x : (0 ≤ xtoday.toInt ∧ xtoday.toInt ≤ 399)) (hi_y0 : (0 ≤ y0sights.toInt ∧ y0sights.toInt ≤ 40)) (hi_y1 : (0 ≤ y1sights.toInt ∧ y1sights.toInt ≤ 40)) (hi_y2 : (0 ≤ y2sights.toInt ∧ y2sights.toInt ≤ 40)) (hi_y3 : (0 ≤ y3sights.toInt ∧ y3sights.toInt ≤ 40)) (hi_y4 : (0 ≤ y4sights.toInt ∧ y4sights.toInt ≤ 40)) (hq0 : xf4 (0 : Int32).toNatClampNeg = some y0h) (hq1 : xf4 (1 : Int32).toNatClampNeg = some y1h) (hq2 : xf4 (2 : Int32).toNatClampNeg = some y2h) (hq3 : xf4 (3 : Int32).toNatClampNeg = some y3h) (hq4 : xf4 (4 : Int32).toNatClampNeg = some y4h) : Met l yX8_shipsAtSea (wl yX8_shipsAtSea cX8_shipsAtSea 3 (some .int)) (RM 0 0 0) (rd_P D E [.ref xh] [(xh, .inr (8, G8 xa xtrialRule xdropRule xtoday)), ((xa 4), .inl (E 4, 5, .inr (.inr (.inr (.inr xf4))))), (y0h, .inr (5, G5 y0a y0sights y0stage y0sailed y0voyage)), (y1h, .inr (5, G5 y1a y1sights y1stage y1sailed y1voyage)), (y2h, .inr (5, G5 y2a y2sights y2stage y2sailed y2voyage)), (y3h, .inr (5, G5 y3a y3sights y3stage y3sailed y3voyage)), (y4h, .inr (5, G5 y4a y4sights y4stage y4sailed y4voyage))]) (rd_Q (fun r => (r.toInt = (if y0stage.toInt = 1 then 1 else 0) + (if y1stage.toInt = 1 then 1 else 0) + (if y2stage.toInt = 1 then 1 else 0) + (if y3stage.toInt = 1 then 1 else 0) + (if y4stage.toInt = 1 then 1 else 0)))) 0 0 (fun _ => False) := by
  refine Met.ofW (cc := cX8_shipsAtSea) (maxL := 3) (ret := (some .int)) (by decide) rfl ?_
  intro p e s m args below meth c s₁ B hml hv
  obtain ⟨rfl, hP, hK⟩ := hv
  have hx := B.exec; have hb := B.bytes; have hr := B.returns
  have hts := atoms_spec (ws := wl yX8_shipsAtSea cX8_shipsAtSea 3 (some .int)) B.pre
  have htb : ∀ w ∈ tb, w.before _ s = true := fun w h => hts w (List.mem_cons_of_mem _ h)
  have hown : s.vm.findClass RX8 = some m.cls := findClass_of_methodNamed B.named
  have hlocks := B.notSynchronized
  have hP : va_P D vwCl [(xh, .inr (8, G8 xa xtrialRule xdropRule xtoday)), ((xa 4), .inl (E 4, 5, .inr (.inr (.inr (.inr xf4))))), (y0h, .inr (5, G5 y0a y0sights y0stage y0sailed y0voyage)), (y1h, .inr (5, G5 y1a y1sights y1stage y1sailed y1voyage)), (y2h, .inr (5, G5 y2a y2sights y2stage y2sailed y2voyage)), (y3h, .inr (5, G5 y3a y3sights y3stage y3sailed y3voyage)), (y4h, .inr (5, G5 y4a y4sights y4stage y4sailed y4voyage))] s.heap := hP
  have hl := lv_entry ([.ref xh]) (n := 3) (Nat.le_of_ble_eq_true rfl)
  rw [lg_entry_eq]
  generalize (lg_sl ([.ref xh]) ++ List.replicate (3 - (lg_sl ([.ref xh])).length) Slot.unset).toArray = ls at hl ⊢
  have hl : lv_has ls 3 [(0, .ref xh)] := hl
  refine lv_iconst (v := 0) hx hb dX8_shipsAtSea_0 (by decide) ?_
  refine lv_istore_n (lv' := [(1, .int 0), (0, .ref xh)]) hx hb dX8_shipsAtSea_1 rfl hl (by decide) rfl (fun ls hl => ?_)
  refine lv_iconst (v := 0) hx hb dX8_shipsAtSea_2 (by decide) ?_
  refine lv_istore_n (lv' := [(2, .int 0), (1, .int 0), (0, .ref xh)]) hx hb dX8_shipsAtSea_3 rfl hl (by decide) rfl (fun ls hl => ?_)
  refine lv_iload_n hx hb dX8_shipsAtSea_4 rfl (lv_at hl 0 rfl) ?_
  refine lv_iconst (v := 5) hx hb dX8_shipsAtSea_5 (by decide) ?_
  refine lv_icmp_ge (tgt := 31) hx hb dX8_shipsAtSea_6 (by decide) (fun c_1 => absurd c_1 (by decide)) (fun c_1 => ?_)
  refine lv_aload_n hx hb dX8_shipsAtSea_9 rfl (lv_at hl 2 rfl) ?_
  refine va_get (D := D) (ci := 8) (v := .ref (xa 4)) (C := RX8) (T := TX8) (N := 14) hx hb htb iX8 hown hK.1 hP 0 rfl rfl 4 (by decide) (htb _ k_276) (fun _ h9 => h9) rfl dX8_shipsAtSea_10 ?_
  refine lv_iload_n hx hb dX8_shipsAtSea_13 rfl (lv_at hl 0 rfl) ?_
  refine va_aldq hx hb hK.1 hP 1 4 rfl rfl (g_in t_0 (by decide) (by decide)) dX8_shipsAtSea_14 ?_
  refine W_top (y := .ref y0h) (congrArg va_rf hq0) ?_
  refine va_getN (D := D) (ci := 5) (v := .int y0stage) (C := RX5) (T := TX5) (N := 11) hx hb htb iX5 hown hK.1 hP 2 rfl rfl 8 (by decide) (va_Nw.use rfl (hK.2.1 (Cond.fieldLinkNest RX8 208 "SeaWatches$Ship" "stage" "I" "SeaWatches") (by decide +kernel))) (fun _ h9 => h9) rfl dX8_shipsAtSea_15 ?_
  refine lv_iconst (v := 1) hx hb dX8_shipsAtSea_18 (by decide) ?_
  refine lv_icmp_ne (tgt := 25) hx hb dX8_shipsAtSea_19 (by decide) (fun c_2 => ?_) (fun c_2 => ?_)
  ·
    have ic_2 : y0stage.toInt ≠ 1 := mt (g_eq rfl t_1).mpr c_2
    clear c_2
    refine lv_iinc (v := 1) (lv' := [(2, .int 1), (1, .int 0), (0, .ref xh)]) hx hb dX8_shipsAtSea_25 hl (k := 0) rfl (by decide) (by decide) rfl (fun ls hl => ?_)
    refine lv_goto (tgt := 4) hx hb dX8_shipsAtSea_28 (by decide) ?_
    refine lv_iload_n hx hb dX8_shipsAtSea_4 rfl (lv_at hl 0 rfl) ?_
    refine lv_iconst (v := 5) hx hb dX8_shipsAtSea_5 (by decide) ?_
    refine lv_icmp_ge (tgt := 31) hx hb dX8_shipsAtSea_6 (by decide) (fun c_3 => absurd c_3 (by decide)) (fun c_3 => ?_)
    refine lv_aload_n hx hb dX8_shipsAtSea_9 rfl (lv_at hl 2 rfl) ?_
    refine va_get (D := D) (ci := 8) (v := .ref (xa 4)) (C := RX8) (T := TX8) (N := 14) hx hb htb iX8 hown hK.1 hP 0 rfl rfl 4 (by decide) (htb _ k_276) (fun _ h9 => h9) rfl dX8_shipsAtSea_10 ?_
    refine lv_iload_n hx hb dX8_shipsAtSea_13 rfl (lv_at hl 0 rfl) ?_
    refine va_aldq hx hb hK.1 hP 1 4 rfl rfl (g_in t_1 (by decide) (by decide)) dX8_shipsAtSea_14 ?_
    refine W_top (y := .ref y1h) (congrArg va_rf hq1) ?_
    refine va_getN (D := D) (ci := 5) (v := .int y1stage) (C := RX5) (T := TX5) (N := 11) hx hb htb iX5 hown hK.1 hP 3 rfl rfl 8 (by decide) (va_Nw.use rfl (hK.2.1 (Cond.fieldLinkNest RX8 208 "SeaWatches$Ship" "stage" "I" "SeaWatches") (by decide +kernel))) (fun _ h9 => h9) rfl dX8_shipsAtSea_15 ?_
    refine lv_iconst (v := 1) hx hb dX8_shipsAtSea_18 (by decide) ?_
    refine lv_icmp_ne (tgt := 25) hx hb dX8_shipsAtSea_19 (by decide) (fun c_4 => ?_) (fun c_4 => ?_)
    ·
      have ic_4 : y1stage.toInt ≠ 1 := mt (g_eq rfl t_1).mpr c_4
      clear c_4
      refine lv_iinc (v := 2) (lv' := [(2, .int 2), (1, .int 0), (0, .ref xh)]) hx hb dX8_shipsAtSea_25 hl (k := 0) rfl (by decide) (by decide) rfl (fun ls hl => ?_)
      refine lv_goto (tgt := 4) hx hb dX8_shipsAtSea_28 (by decide) ?_
      refine lv_iload_n hx hb dX8_shipsAtSea_4 rfl (lv_at hl 0 rfl) ?_
      refine lv_iconst (v := 5) hx hb dX8_shipsAtSea_5 (by decide) ?_
      refine lv_icmp_ge (tgt := 31) hx hb dX8_shipsAtSea_6 (by decide) (fun c_5 => absurd c_5 (by decide)) (fun c_5 => ?_)
      refine lv_aload_n hx hb dX8_shipsAtSea_9 rfl (lv_at hl 2 rfl) ?_
      refine va_get (D := D) (ci := 8) (v := .ref (xa 4)) (C := RX8) (T := TX8) (N := 14) hx hb htb iX8 hown hK.1 hP 0 rfl rfl 4 (by decide) (htb _ k_276) (fun _ h9 => h9) rfl dX8_shipsAtSea_10 ?_
      refine lv_iload_n hx hb dX8_shipsAtSea_13 rfl (lv_at hl 0 rfl) ?_
      refine va_aldq hx hb hK.1 hP 1 4 rfl rfl (g_in t_2 (by decide) (by decide)) dX8_shipsAtSea_14 ?_
      refine W_top (y := .ref y2h) (congrArg va_rf hq2) ?_
      refine va_getN (D := D) (ci := 5) (v := .int y2stage) (C := RX5) (T := TX5) (N := 11) hx hb htb iX5 hown hK.1 hP 4 rfl rfl 8 (by decide) (va_Nw.use rfl (hK.2.1 (Cond.fieldLinkNest RX8 208 "SeaWatches$Ship" "stage" "I" "SeaWatches") (by decide +kernel))) (fun _ h9 => h9) rfl dX8_shipsAtSea_15 ?_
      refine lv_iconst (v := 1) hx hb dX8_shipsAtSea_18 (by decide) ?_
      refine lv_icmp_ne (tgt := 25) hx hb dX8_shipsAtSea_19 (by decide) (fun c_6 => ?_) (fun c_6 => ?_)
      ·
        have ic_6 : y2stage.toInt ≠ 1 := mt (g_eq rfl t_1).mpr c_6
        clear c_6
        refine lv_iinc (v := 3) (lv' := [(2, .int 3), (1, .int 0), (0, .ref xh)]) hx hb dX8_shipsAtSea_25 hl (k := 0) rfl (by decide) (by decide) rfl (fun ls hl => ?_)
        refine lv_goto (tgt := 4) hx hb dX8_shipsAtSea_28 (by decide) ?_
        refine lv_iload_n hx hb dX8_shipsAtSea_4 rfl (lv_at hl 0 rfl) ?_
        refine lv_iconst (v := 5) hx hb dX8_shipsAtSea_5 (by decide) ?_
        refine lv_icmp_ge (tgt := 31) hx hb dX8_shipsAtSea_6 (by decide) (fun c_7 => absurd c_7 (by decide)) (fun c_7 => ?_)
        refine lv_aload_n hx hb dX8_shipsAtSea_9 rfl (lv_at hl 2 rfl) ?_
        refine va_get (D := D) (ci := 8) (v := .ref (xa 4)) (C := RX8) (T := TX8) (N := 14) hx hb htb iX8 hown hK.1 hP 0 rfl rfl 4 (by decide) (htb _ k_276) (fun _ h9 => h9) rfl dX8_shipsAtSea_10 ?_
        refine lv_iload_n hx hb dX8_shipsAtSea_13 rfl (lv_at hl 0 rfl) ?_
        refine va_aldq hx hb hK.1 hP 1 4 rfl rfl (g_in t_3 (by decide) (by decide)) dX8_shipsAtSea_14 ?_
        refine W_top (y := .ref y3h) (congrArg va_rf hq3) ?_
        refine va_getN (D := D) (ci := 5) (v := .int y3stage) (C := RX5) (T := TX5) (N := 11) hx hb htb iX5 hown hK.1 hP 5 rfl rfl 8 (by decide) (va_Nw.use rfl (hK.2.1 (Cond.fieldLinkNest RX8 208 "SeaWatches$Ship" "stage" "I" "SeaWatches") (by decide +kernel))) (fun _ h9 => h9) rfl dX8_shipsAtSea_15 ?_
        refine lv_iconst (v := 1) hx hb dX8_shipsAtSea_18 (by decide) ?_
        refine lv_icmp_ne (tgt := 25) hx hb dX8_shipsAtSea_19 (by decide) (fun c_8 => ?_) (fun c_8 => ?_)
        ·
          have ic_8 : y3stage.toInt ≠ 1 := mt (g_eq rfl t_1).mpr c_8
          clear c_8
          refine lv_iinc (v := 4) (lv' := [(2, .int 4), (1, .int 0), (0, .ref xh)]) hx hb dX8_shipsAtSea_25 hl (k := 0) rfl (by decide) (by decide) rfl (fun ls hl => ?_)
          refine lv_goto (tgt := 4) hx hb dX8_shipsAtSea_28 (by decide) ?_
          refine lv_iload_n hx hb dX8_shipsAtSea_4 rfl (lv_at hl 0 rfl) ?_
          refine lv_iconst (v := 5) hx hb dX8_shipsAtSea_5 (by decide) ?_
          refine lv_icmp_ge (tgt := 31) hx hb dX8_shipsAtSea_6 (by decide) (fun c_9 => absurd c_9 (by decide)) (fun c_9 => ?_)
          refine lv_aload_n hx hb dX8_shipsAtSea_9 rfl (lv_at hl 2 rfl) ?_
          refine va_get (D := D) (ci := 8) (v := .ref (xa 4)) (C := RX8) (T := TX8) (N := 14) hx hb htb iX8 hown hK.1 hP 0 rfl rfl 4 (by decide) (htb _ k_276) (fun _ h9 => h9) rfl dX8_shipsAtSea_10 ?_
          refine lv_iload_n hx hb dX8_shipsAtSea_13 rfl (lv_at hl 0 rfl) ?_
          refine va_aldq hx hb hK.1 hP 1 4 rfl rfl (g_in t_4 (by decide) (by decide)) dX8_shipsAtSea_14 ?_
          refine W_top (y := .ref y4h) (congrArg va_rf hq4) ?_
          refine va_getN (D := D) (ci := 5) (v := .int y4stage) (C := RX5) (T := TX5) (N := 11) hx hb htb iX5 hown hK.1 hP 6 rfl rfl 8 (by decide) (va_Nw.use rfl (hK.2.1 (Cond.fieldLinkNest RX8 208 "SeaWatches$Ship" "stage" "I" "SeaWatches") (by decide +kernel))) (fun _ h9 => h9) rfl dX8_shipsAtSea_15 ?_
          refine lv_iconst (v := 1) hx hb dX8_shipsAtSea_18 (by decide) ?_
          refine lv_icmp_ne (tgt := 25) hx hb dX8_shipsAtSea_19 (by decide) (fun c_10 => ?_) (fun c_10 => ?_)
          ·
            have ic_10 : y4stage.toInt ≠ 1 := mt (g_eq rfl t_1).mpr c_10
            clear c_10
            refine lv_iinc (v := 5) (lv' := [(2, .int 5), (1, .int 0), (0, .ref xh)]) hx hb dX8_shipsAtSea_25 hl (k := 0) rfl (by decide) (by decide) rfl (fun ls hl => ?_)
            refine lv_goto (tgt := 4) hx hb dX8_shipsAtSea_28 (by decide) ?_
            refine lv_iload_n hx hb dX8_shipsAtSea_4 rfl (lv_at hl 0 rfl) ?_
            refine lv_iconst (v := 5) hx hb dX8_shipsAtSea_5 (by decide) ?_
            refine lv_icmp_ge (tgt := 31) hx hb dX8_shipsAtSea_6 (by decide) (fun c_11 => ?_) (fun c_11 => absurd (by decide) c_11)
            refine lv_iload_n hx hb dX8_shipsAtSea_31 rfl (lv_at hl 1 rfl) ?_
            exact W.iret (v := 0) hx hb hr (fun t ht hW => ⟨0, rfl, (by have hl := t_0; (repeat' split) <;> omega), ht⟩) (fun q h => by cases h) dX8_shipsAtSea_32
          ·
            have ic_10 : y4stage.toInt = 1 := (g_eq rfl t_1).mp c_10
            clear c_10
            refine lv_iinc (v := 1) (lv' := [(1, .int 1), (2, .int 4), (0, .ref xh)]) hx hb dX8_shipsAtSea_22 hl (k := 1) rfl (by decide) (by decide) rfl (fun ls hl => ?_)
            refine lv_iinc (v := 5) (lv' := [(2, .int 5), (1, .int 1), (0, .ref xh)]) hx hb dX8_shipsAtSea_25 hl (k := 1) rfl (by decide) (by decide) rfl (fun ls hl => ?_)
            refine lv_goto (tgt := 4) hx hb dX8_shipsAtSea_28 (by decide) ?_
            refine lv_iload_n hx hb dX8_shipsAtSea_4 rfl (lv_at hl 0 rfl) ?_
            refine lv_iconst (v := 5) hx hb dX8_shipsAtSea_5 (by decide) ?_
            refine lv_icmp_ge (tgt := 31) hx hb dX8_shipsAtSea_6 (by decide) (fun c_12 => ?_) (fun c_12 => absurd (by decide) c_12)
            refine lv_iload_n hx hb dX8_shipsAtSea_31 rfl (lv_at hl 1 rfl) ?_
            exact W.iret (v := 1) hx hb hr (fun t ht hW => ⟨1, rfl, (by have hl := t_1; (repeat' split) <;> omega), ht⟩) (fun q h => by cases h) dX8_shipsAtSea_32
        ·
          have ic_8 : y3stage.toInt = 1 := (g_eq rfl t_1).mp c_8
          clear c_8
          refine lv_iinc (v := 1) (lv' := [(1, .int 1), (2, .int 3), (0, .ref xh)]) hx hb dX8_shipsAtSea_22 hl (k := 1) rfl (by decide) (by decide) rfl (fun ls hl => ?_)
          refine lv_iinc (v := 4) (lv' := [(2, .int 4), (1, .int 1), (0, .ref xh)]) hx hb dX8_shipsAtSea_25 hl (k := 1) rfl (by decide) (by decide) rfl (fun ls hl => ?_)
          refine lv_goto (tgt := 4) hx hb dX8_shipsAtSea_28 (by decide) ?_
          refine lv_iload_n hx hb dX8_shipsAtSea_4 rfl (lv_at hl 0 rfl) ?_
          refine lv_iconst (v := 5) hx hb dX8_shipsAtSea_5 (by decide) ?_
          refine lv_icmp_ge (tgt := 31) hx hb dX8_shipsAtSea_6 (by decide) (fun c_13 => absurd c_13 (by decide)) (fun c_13 => ?_)
          refine lv_aload_n hx hb dX8_shipsAtSea_9 rfl (lv_at hl 2 rfl) ?_
          refine va_get (D := D) (ci := 8) (v := .ref (xa 4)) (C := RX8) (T := TX8) (N := 14) hx hb htb iX8 hown hK.1 hP 0 rfl rfl 4 (by decide) (htb _ k_276) (fun _ h9 => h9) rfl dX8_shipsAtSea_10 ?_
          refine lv_iload_n hx hb dX8_shipsAtSea_13 rfl (lv_at hl 0 rfl) ?_
          refine va_aldq hx hb hK.1 hP 1 4 rfl rfl (g_in t_4 (by decide) (by decide)) dX8_shipsAtSea_14 ?_
          refine W_top (y := .ref y4h) (congrArg va_rf hq4) ?_
          refine va_getN (D := D) (ci := 5) (v := .int y4stage) (C := RX5) (T := TX5) (N := 11) hx hb htb iX5 hown hK.1 hP 6 rfl rfl 8 (by decide) (va_Nw.use rfl (hK.2.1 (Cond.fieldLinkNest RX8 208 "SeaWatches$Ship" "stage" "I" "SeaWatches") (by decide +kernel))) (fun _ h9 => h9) rfl dX8_shipsAtSea_15 ?_
          refine lv_iconst (v := 1) hx hb dX8_shipsAtSea_18 (by decide) ?_
          refine lv_icmp_ne (tgt := 25) hx hb dX8_shipsAtSea_19 (by decide) (fun c_14 => ?_) (fun c_14 => ?_)
          ·
            have ic_14 : y4stage.toInt ≠ 1 := mt (g_eq rfl t_1).mpr c_14
            clear c_14
            refine lv_iinc (v := 5) (lv' := [(2, .int 5), (1, .int 1), (0, .ref xh)]) hx hb dX8_shipsAtSea_25 hl (k := 0) rfl (by decide) (by decide) rfl (fun ls hl => ?_)
            refine lv_goto (tgt := 4) hx hb dX8_shipsAtSea_28 (by decide) ?_
            refine lv_iload_n hx hb dX8_shipsAtSea_4 rfl (lv_at hl 0 rfl) ?_
            refine lv_iconst (v := 5) hx hb dX8_shipsAtSea_5 (by decide) ?_
            refine lv_icmp_ge (tgt := 31) hx hb dX8_shipsAtSea_6 (by decide) (fun c_15 => ?_) (fun c_15 => absurd (by decide) c_15)
            refine lv_iload_n hx hb dX8_shipsAtSea_31 rfl (lv_at hl 1 rfl) ?_
            exact W.iret (v := 1) hx hb hr (fun t ht hW => ⟨1, rfl, (by have hl := t_1; (repeat' split) <;> omega), ht⟩) (fun q h => by cases h) dX8_shipsAtSea_32
          ·
            have ic_14 : y4stage.toInt = 1 := (g_eq rfl t_1).mp c_14
            clear c_14
            refine lv_iinc (v := 2) (lv' := [(1, .int 2), (2, .int 4), (0, .ref xh)]) hx hb dX8_shipsAtSea_22 hl (k := 1) rfl (by decide) (by decide) rfl (fun ls hl => ?_)
            refine lv_iinc (v := 5) (lv' := [(2, .int 5), (1, .int 2), (0, .ref xh)]) hx hb dX8_shipsAtSea_25 hl (k := 1) rfl (by decide) (by decide) rfl (fun ls hl => ?_)
            refine lv_goto (tgt := 4) hx hb dX8_shipsAtSea_28 (by decide) ?_
            refine lv_iload_n hx hb dX8_shipsAtSea_4 rfl (lv_at hl 0 rfl) ?_
            refine lv_iconst (v := 5) hx hb dX8_shipsAtSea_5 (by decide) ?_
            refine lv_icmp_ge (tgt := 31) hx hb dX8_shipsAtSea_6 (by decide) (fun c_16 => ?_) (fun c_16 => absurd (by decide) c_16)
            refine lv_iload_n hx hb dX8_shipsAtSea_31 rfl (lv_at hl 1 rfl) ?_
            exact W.iret (v := 2) hx hb hr (fun t ht hW => ⟨2, rfl, (by have hl := t_2; (repeat' split) <;> omega), ht⟩) (fun q h => by cases h) dX8_shipsAtSea_32
      ·
        have ic_6 : y2stage.toInt = 1 := (g_eq rfl t_1).mp c_6
        clear c_6
        refine lv_iinc (v := 1) (lv' := [(1, .int 1), (2, .int 2), (0, .ref xh)]) hx hb dX8_shipsAtSea_22 hl (k := 1) rfl (by decide) (by decide) rfl (fun ls hl => ?_)
        refine lv_iinc (v := 3) (lv' := [(2, .int 3), (1, .int 1), (0, .ref xh)]) hx hb dX8_shipsAtSea_25 hl (k := 1) rfl (by decide) (by decide) rfl (fun ls hl => ?_)
        refine lv_goto (tgt := 4) hx hb dX8_shipsAtSea_28 (by decide) ?_
        refine lv_iload_n hx hb dX8_shipsAtSea_4 rfl (lv_at hl 0 rfl) ?_
        refine lv_iconst (v := 5) hx hb dX8_shipsAtSea_5 (by decide) ?_
        refine lv_icmp_ge (tgt := 31) hx hb dX8_shipsAtSea_6 (by decide) (fun c_17 => absurd c_17 (by decide)) (fun c_17 => ?_)
        refine lv_aload_n hx hb dX8_shipsAtSea_9 rfl (lv_at hl 2 rfl) ?_
        refine va_get (D := D) (ci := 8) (v := .ref (xa 4)) (C := RX8) (T := TX8) (N := 14) hx hb htb iX8 hown hK.1 hP 0 rfl rfl 4 (by decide) (htb _ k_276) (fun _ h9 => h9) rfl dX8_shipsAtSea_10 ?_
        refine lv_iload_n hx hb dX8_shipsAtSea_13 rfl (lv_at hl 0 rfl) ?_
        refine va_aldq hx hb hK.1 hP 1 4 rfl rfl (g_in t_3 (by decide) (by decide)) dX8_shipsAtSea_14 ?_
        refine W_top (y := .ref y3h) (congrArg va_rf hq3) ?_
        refine va_getN (D := D) (ci := 5) (v := .int y3stage) (C := RX5) (T := TX5) (N := 11) hx hb htb iX5 hown hK.1 hP 5 rfl rfl 8 (by decide) (va_Nw.use rfl (hK.2.1 (Cond.fieldLinkNest RX8 208 "SeaWatches$Ship" "stage" "I" "SeaWatches") (by decide +kernel))) (fun _ h9 => h9) rfl dX8_shipsAtSea_15 ?_
        refine lv_iconst (v := 1) hx hb dX8_shipsAtSea_18 (by decide) ?_
        refine lv_icmp_ne (tgt := 25) hx hb dX8_shipsAtSea_19 (by decide) (fun c_18 => ?_) (fun c_18 => ?_)
        ·
          have ic_18 : y3stage.toInt ≠ 1 := mt (g_eq rfl t_1).mpr c_18
          clear c_18
          refine lv_iinc (v := 4) (lv' := [(2, .int 4), (1, .int 1), (0, .ref xh)]) hx hb dX8_shipsAtSea_25 hl (k := 0) rfl (by decide) (by decide) rfl (fun ls hl => ?_)
          refine lv_goto (tgt := 4) hx hb dX8_shipsAtSea_28 (by decide) ?_
          refine lv_iload_n hx hb dX8_shipsAtSea_4 rfl (lv_at hl 0 rfl) ?_
          refine lv_iconst (v := 5) hx hb dX8_shipsAtSea_5 (by decide) ?_
          refine lv_icmp_ge (tgt := 31) hx hb dX8_shipsAtSea_6 (by decide) (fun c_19 => absurd c_19 (by decide)) (fun c_19 => ?_)
          refine lv_aload_n hx hb dX8_shipsAtSea_9 rfl (lv_at hl 2 rfl) ?_
          refine va_get (D := D) (ci := 8) (v := .ref (xa 4)) (C := RX8) (T := TX8) (N := 14) hx hb htb iX8 hown hK.1 hP 0 rfl rfl 4 (by decide) (htb _ k_276) (fun _ h9 => h9) rfl dX8_shipsAtSea_10 ?_
          refine lv_iload_n hx hb dX8_shipsAtSea_13 rfl (lv_at hl 0 rfl) ?_
          refine va_aldq hx hb hK.1 hP 1 4 rfl rfl (g_in t_4 (by decide) (by decide)) dX8_shipsAtSea_14 ?_
          refine W_top (y := .ref y4h) (congrArg va_rf hq4) ?_
          refine va_getN (D := D) (ci := 5) (v := .int y4stage) (C := RX5) (T := TX5) (N := 11) hx hb htb iX5 hown hK.1 hP 6 rfl rfl 8 (by decide) (va_Nw.use rfl (hK.2.1 (Cond.fieldLinkNest RX8 208 "SeaWatches$Ship" "stage" "I" "SeaWatches") (by decide +kernel))) (fun _ h9 => h9) rfl dX8_shipsAtSea_15 ?_
          refine lv_iconst (v := 1) hx hb dX8_shipsAtSea_18 (by decide) ?_
          refine lv_icmp_ne (tgt := 25) hx hb dX8_shipsAtSea_19 (by decide) (fun c_20 => ?_) (fun c_20 => ?_)
          ·
            have ic_20 : y4stage.toInt ≠ 1 := mt (g_eq rfl t_1).mpr c_20
            clear c_20
            refine lv_iinc (v := 5) (lv' := [(2, .int 5), (1, .int 1), (0, .ref xh)]) hx hb dX8_shipsAtSea_25 hl (k := 0) rfl (by decide) (by decide) rfl (fun ls hl => ?_)
            refine lv_goto (tgt := 4) hx hb dX8_shipsAtSea_28 (by decide) ?_
            refine lv_iload_n hx hb dX8_shipsAtSea_4 rfl (lv_at hl 0 rfl) ?_
            refine lv_iconst (v := 5) hx hb dX8_shipsAtSea_5 (by decide) ?_
            refine lv_icmp_ge (tgt := 31) hx hb dX8_shipsAtSea_6 (by decide) (fun c_21 => ?_) (fun c_21 => absurd (by decide) c_21)
            refine lv_iload_n hx hb dX8_shipsAtSea_31 rfl (lv_at hl 1 rfl) ?_
            exact W.iret (v := 1) hx hb hr (fun t ht hW => ⟨1, rfl, (by have hl := t_1; (repeat' split) <;> omega), ht⟩) (fun q h => by cases h) dX8_shipsAtSea_32
          ·
            have ic_20 : y4stage.toInt = 1 := (g_eq rfl t_1).mp c_20
            clear c_20
            refine lv_iinc (v := 2) (lv' := [(1, .int 2), (2, .int 4), (0, .ref xh)]) hx hb dX8_shipsAtSea_22 hl (k := 1) rfl (by decide) (by decide) rfl (fun ls hl => ?_)
            refine lv_iinc (v := 5) (lv' := [(2, .int 5), (1, .int 2), (0, .ref xh)]) hx hb dX8_shipsAtSea_25 hl (k := 1) rfl (by decide) (by decide) rfl (fun ls hl => ?_)
            refine lv_goto (tgt := 4) hx hb dX8_shipsAtSea_28 (by decide) ?_
            refine lv_iload_n hx hb dX8_shipsAtSea_4 rfl (lv_at hl 0 rfl) ?_
            refine lv_iconst (v := 5) hx hb dX8_shipsAtSea_5 (by decide) ?_
            refine lv_icmp_ge (tgt := 31) hx hb dX8_shipsAtSea_6 (by decide) (fun c_22 => ?_) (fun c_22 => absurd (by decide) c_22)
            refine lv_iload_n hx hb dX8_shipsAtSea_31 rfl (lv_at hl 1 rfl) ?_
            exact W.iret (v := 2) hx hb hr (fun t ht hW => ⟨2, rfl, (by have hl := t_2; (repeat' split) <;> omega), ht⟩) (fun q h => by cases h) dX8_shipsAtSea_32
        ·
          have ic_18 : y3stage.toInt = 1 := (g_eq rfl t_1).mp c_18
          clear c_18
          refine lv_iinc (v := 2) (lv' := [(1, .int 2), (2, .int 3), (0, .ref xh)]) hx hb dX8_shipsAtSea_22 hl (k := 1) rfl (by decide) (by decide) rfl (fun ls hl => ?_)
          refine lv_iinc (v := 4) (lv' := [(2, .int 4), (1, .int 2), (0, .ref xh)]) hx hb dX8_shipsAtSea_25 hl (k := 1) rfl (by decide) (by decide) rfl (fun ls hl => ?_)
          refine lv_goto (tgt := 4) hx hb dX8_shipsAtSea_28 (by decide) ?_
          refine lv_iload_n hx hb dX8_shipsAtSea_4 rfl (lv_at hl 0 rfl) ?_
          refine lv_iconst (v := 5) hx hb dX8_shipsAtSea_5 (by decide) ?_
          refine lv_icmp_ge (tgt := 31) hx hb dX8_shipsAtSea_6 (by decide) (fun c_23 => absurd c_23 (by decide)) (fun c_23 => ?_)
          refine lv_aload_n hx hb dX8_shipsAtSea_9 rfl (lv_at hl 2 rfl) ?_
          refine va_get (D := D) (ci := 8) (v := .ref (xa 4)) (C := RX8) (T := TX8) (N := 14) hx hb htb iX8 hown hK.1 hP 0 rfl rfl 4 (by decide) (htb _ k_276) (fun _ h9 => h9) rfl dX8_shipsAtSea_10 ?_
          refine lv_iload_n hx hb dX8_shipsAtSea_13 rfl (lv_at hl 0 rfl) ?_
          refine va_aldq hx hb hK.1 hP 1 4 rfl rfl (g_in t_4 (by decide) (by decide)) dX8_shipsAtSea_14 ?_
          refine W_top (y := .ref y4h) (congrArg va_rf hq4) ?_
          refine va_getN (D := D) (ci := 5) (v := .int y4stage) (C := RX5) (T := TX5) (N := 11) hx hb htb iX5 hown hK.1 hP 6 rfl rfl 8 (by decide) (va_Nw.use rfl (hK.2.1 (Cond.fieldLinkNest RX8 208 "SeaWatches$Ship" "stage" "I" "SeaWatches") (by decide +kernel))) (fun _ h9 => h9) rfl dX8_shipsAtSea_15 ?_
          refine lv_iconst (v := 1) hx hb dX8_shipsAtSea_18 (by decide) ?_
          refine lv_icmp_ne (tgt := 25) hx hb dX8_shipsAtSea_19 (by decide) (fun c_24 => ?_) (fun c_24 => ?_)
          ·
            have ic_24 : y4stage.toInt ≠ 1 := mt (g_eq rfl t_1).mpr c_24
            clear c_24
            refine lv_iinc (v := 5) (lv' := [(2, .int 5), (1, .int 2), (0, .ref xh)]) hx hb dX8_shipsAtSea_25 hl (k := 0) rfl (by decide) (by decide) rfl (fun ls hl => ?_)
            refine lv_goto (tgt := 4) hx hb dX8_shipsAtSea_28 (by decide) ?_
            refine lv_iload_n hx hb dX8_shipsAtSea_4 rfl (lv_at hl 0 rfl) ?_
            refine lv_iconst (v := 5) hx hb dX8_shipsAtSea_5 (by decide) ?_
            refine lv_icmp_ge (tgt := 31) hx hb dX8_shipsAtSea_6 (by decide) (fun c_25 => ?_) (fun c_25 => absurd (by decide) c_25)
            refine lv_iload_n hx hb dX8_shipsAtSea_31 rfl (lv_at hl 1 rfl) ?_
            exact W.iret (v := 2) hx hb hr (fun t ht hW => ⟨2, rfl, (by have hl := t_2; (repeat' split) <;> omega), ht⟩) (fun q h => by cases h) dX8_shipsAtSea_32
          ·
            have ic_24 : y4stage.toInt = 1 := (g_eq rfl t_1).mp c_24
            clear c_24
            refine lv_iinc (v := 3) (lv' := [(1, .int 3), (2, .int 4), (0, .ref xh)]) hx hb dX8_shipsAtSea_22 hl (k := 1) rfl (by decide) (by decide) rfl (fun ls hl => ?_)
            refine lv_iinc (v := 5) (lv' := [(2, .int 5), (1, .int 3), (0, .ref xh)]) hx hb dX8_shipsAtSea_25 hl (k := 1) rfl (by decide) (by decide) rfl (fun ls hl => ?_)
            refine lv_goto (tgt := 4) hx hb dX8_shipsAtSea_28 (by decide) ?_
            refine lv_iload_n hx hb dX8_shipsAtSea_4 rfl (lv_at hl 0 rfl) ?_
            refine lv_iconst (v := 5) hx hb dX8_shipsAtSea_5 (by decide) ?_
            refine lv_icmp_ge (tgt := 31) hx hb dX8_shipsAtSea_6 (by decide) (fun c_26 => ?_) (fun c_26 => absurd (by decide) c_26)
            refine lv_iload_n hx hb dX8_shipsAtSea_31 rfl (lv_at hl 1 rfl) ?_
            exact W.iret (v := 3) hx hb hr (fun t ht hW => ⟨3, rfl, (by have hl := t_3; (repeat' split) <;> omega), ht⟩) (fun q h => by cases h) dX8_shipsAtSea_32
    ·
      have ic_4 : y1stage.toInt = 1 := (g_eq rfl t_1).mp c_4
      clear c_4
      refine lv_iinc (v := 1) (lv' := [(1, .int 1), (2, .int 1), (0, .ref xh)]) hx hb dX8_shipsAtSea_22 hl (k := 1) rfl (by decide) (by decide) rfl (fun ls hl => ?_)
      refine lv_iinc (v := 2) (lv' := [(2, .int 2), (1, .int 1), (0, .ref xh)]) hx hb dX8_shipsAtSea_25 hl (k := 1) rfl (by decide) (by decide) rfl (fun ls hl => ?_)
      refine lv_goto (tgt := 4) hx hb dX8_shipsAtSea_28 (by decide) ?_
      refine lv_iload_n hx hb dX8_shipsAtSea_4 rfl (lv_at hl 0 rfl) ?_
      refine lv_iconst (v := 5) hx hb dX8_shipsAtSea_5 (by decide) ?_
      refine lv_icmp_ge (tgt := 31) hx hb dX8_shipsAtSea_6 (by decide) (fun c_27 => absurd c_27 (by decide)) (fun c_27 => ?_)
      refine lv_aload_n hx hb dX8_shipsAtSea_9 rfl (lv_at hl 2 rfl) ?_
      refine va_get (D := D) (ci := 8) (v := .ref (xa 4)) (C := RX8) (T := TX8) (N := 14) hx hb htb iX8 hown hK.1 hP 0 rfl rfl 4 (by decide) (htb _ k_276) (fun _ h9 => h9) rfl dX8_shipsAtSea_10 ?_
      refine lv_iload_n hx hb dX8_shipsAtSea_13 rfl (lv_at hl 0 rfl) ?_
      refine va_aldq hx hb hK.1 hP 1 4 rfl rfl (g_in t_2 (by decide) (by decide)) dX8_shipsAtSea_14 ?_
      refine W_top (y := .ref y2h) (congrArg va_rf hq2) ?_
      refine va_getN (D := D) (ci := 5) (v := .int y2stage) (C := RX5) (T := TX5) (N := 11) hx hb htb iX5 hown hK.1 hP 4 rfl rfl 8 (by decide) (va_Nw.use rfl (hK.2.1 (Cond.fieldLinkNest RX8 208 "SeaWatches$Ship" "stage" "I" "SeaWatches") (by decide +kernel))) (fun _ h9 => h9) rfl dX8_shipsAtSea_15 ?_
      refine lv_iconst (v := 1) hx hb dX8_shipsAtSea_18 (by decide) ?_
      refine lv_icmp_ne (tgt := 25) hx hb dX8_shipsAtSea_19 (by decide) (fun c_28 => ?_) (fun c_28 => ?_)
      ·
        have ic_28 : y2stage.toInt ≠ 1 := mt (g_eq rfl t_1).mpr c_28
        clear c_28
        refine lv_iinc (v := 3) (lv' := [(2, .int 3), (1, .int 1), (0, .ref xh)]) hx hb dX8_shipsAtSea_25 hl (k := 0) rfl (by decide) (by decide) rfl (fun ls hl => ?_)
        refine lv_goto (tgt := 4) hx hb dX8_shipsAtSea_28 (by decide) ?_
        refine lv_iload_n hx hb dX8_shipsAtSea_4 rfl (lv_at hl 0 rfl) ?_
        refine lv_iconst (v := 5) hx hb dX8_shipsAtSea_5 (by decide) ?_
        refine lv_icmp_ge (tgt := 31) hx hb dX8_shipsAtSea_6 (by decide) (fun c_29 => absurd c_29 (by decide)) (fun c_29 => ?_)
        refine lv_aload_n hx hb dX8_shipsAtSea_9 rfl (lv_at hl 2 rfl) ?_
        refine va_get (D := D) (ci := 8) (v := .ref (xa 4)) (C := RX8) (T := TX8) (N := 14) hx hb htb iX8 hown hK.1 hP 0 rfl rfl 4 (by decide) (htb _ k_276) (fun _ h9 => h9) rfl dX8_shipsAtSea_10 ?_
        refine lv_iload_n hx hb dX8_shipsAtSea_13 rfl (lv_at hl 0 rfl) ?_
        refine va_aldq hx hb hK.1 hP 1 4 rfl rfl (g_in t_3 (by decide) (by decide)) dX8_shipsAtSea_14 ?_
        refine W_top (y := .ref y3h) (congrArg va_rf hq3) ?_
        refine va_getN (D := D) (ci := 5) (v := .int y3stage) (C := RX5) (T := TX5) (N := 11) hx hb htb iX5 hown hK.1 hP 5 rfl rfl 8 (by decide) (va_Nw.use rfl (hK.2.1 (Cond.fieldLinkNest RX8 208 "SeaWatches$Ship" "stage" "I" "SeaWatches") (by decide +kernel))) (fun _ h9 => h9) rfl dX8_shipsAtSea_15 ?_
        refine lv_iconst (v := 1) hx hb dX8_shipsAtSea_18 (by decide) ?_
        refine lv_icmp_ne (tgt := 25) hx hb dX8_shipsAtSea_19 (by decide) (fun c_30 => ?_) (fun c_30 => ?_)
        ·
          have ic_30 : y3stage.toInt ≠ 1 := mt (g_eq rfl t_1).mpr c_30
          clear c_30
          refine lv_iinc (v := 4) (lv' := [(2, .int 4), (1, .int 1), (0, .ref xh)]) hx hb dX8_shipsAtSea_25 hl (k := 0) rfl (by decide) (by decide) rfl (fun ls hl => ?_)
          refine lv_goto (tgt := 4) hx hb dX8_shipsAtSea_28 (by decide) ?_
          refine lv_iload_n hx hb dX8_shipsAtSea_4 rfl (lv_at hl 0 rfl) ?_
          refine lv_iconst (v := 5) hx hb dX8_shipsAtSea_5 (by decide) ?_
          refine lv_icmp_ge (tgt := 31) hx hb dX8_shipsAtSea_6 (by decide) (fun c_31 => absurd c_31 (by decide)) (fun c_31 => ?_)
          refine lv_aload_n hx hb dX8_shipsAtSea_9 rfl (lv_at hl 2 rfl) ?_
          refine va_get (D := D) (ci := 8) (v := .ref (xa 4)) (C := RX8) (T := TX8) (N := 14) hx hb htb iX8 hown hK.1 hP 0 rfl rfl 4 (by decide) (htb _ k_276) (fun _ h9 => h9) rfl dX8_shipsAtSea_10 ?_
          refine lv_iload_n hx hb dX8_shipsAtSea_13 rfl (lv_at hl 0 rfl) ?_
          refine va_aldq hx hb hK.1 hP 1 4 rfl rfl (g_in t_4 (by decide) (by decide)) dX8_shipsAtSea_14 ?_
          refine W_top (y := .ref y4h) (congrArg va_rf hq4) ?_
          refine va_getN (D := D) (ci := 5) (v := .int y4stage) (C := RX5) (T := TX5) (N := 11) hx hb htb iX5 hown hK.1 hP 6 rfl rfl 8 (by decide) (va_Nw.use rfl (hK.2.1 (Cond.fieldLinkNest RX8 208 "SeaWatches$Ship" "stage" "I" "SeaWatches") (by decide +kernel))) (fun _ h9 => h9) rfl dX8_shipsAtSea_15 ?_
          refine lv_iconst (v := 1) hx hb dX8_shipsAtSea_18 (by decide) ?_
          refine lv_icmp_ne (tgt := 25) hx hb dX8_shipsAtSea_19 (by decide) (fun c_32 => ?_) (fun c_32 => ?_)
          ·
            have ic_32 : y4stage.toInt ≠ 1 := mt (g_eq rfl t_1).mpr c_32
            clear c_32
            refine lv_iinc (v := 5) (lv' := [(2, .int 5), (1, .int 1), (0, .ref xh)]) hx hb dX8_shipsAtSea_25 hl (k := 0) rfl (by decide) (by decide) rfl (fun ls hl => ?_)
            refine lv_goto (tgt := 4) hx hb dX8_shipsAtSea_28 (by decide) ?_
            refine lv_iload_n hx hb dX8_shipsAtSea_4 rfl (lv_at hl 0 rfl) ?_
            refine lv_iconst (v := 5) hx hb dX8_shipsAtSea_5 (by decide) ?_
            refine lv_icmp_ge (tgt := 31) hx hb dX8_shipsAtSea_6 (by decide) (fun c_33 => ?_) (fun c_33 => absurd (by decide) c_33)
            refine lv_iload_n hx hb dX8_shipsAtSea_31 rfl (lv_at hl 1 rfl) ?_
            exact W.iret (v := 1) hx hb hr (fun t ht hW => ⟨1, rfl, (by have hl := t_1; (repeat' split) <;> omega), ht⟩) (fun q h => by cases h) dX8_shipsAtSea_32
          ·
            have ic_32 : y4stage.toInt = 1 := (g_eq rfl t_1).mp c_32
            clear c_32
            refine lv_iinc (v := 2) (lv' := [(1, .int 2), (2, .int 4), (0, .ref xh)]) hx hb dX8_shipsAtSea_22 hl (k := 1) rfl (by decide) (by decide) rfl (fun ls hl => ?_)
            refine lv_iinc (v := 5) (lv' := [(2, .int 5), (1, .int 2), (0, .ref xh)]) hx hb dX8_shipsAtSea_25 hl (k := 1) rfl (by decide) (by decide) rfl (fun ls hl => ?_)
            refine lv_goto (tgt := 4) hx hb dX8_shipsAtSea_28 (by decide) ?_
            refine lv_iload_n hx hb dX8_shipsAtSea_4 rfl (lv_at hl 0 rfl) ?_
            refine lv_iconst (v := 5) hx hb dX8_shipsAtSea_5 (by decide) ?_
            refine lv_icmp_ge (tgt := 31) hx hb dX8_shipsAtSea_6 (by decide) (fun c_34 => ?_) (fun c_34 => absurd (by decide) c_34)
            refine lv_iload_n hx hb dX8_shipsAtSea_31 rfl (lv_at hl 1 rfl) ?_
            exact W.iret (v := 2) hx hb hr (fun t ht hW => ⟨2, rfl, (by have hl := t_2; (repeat' split) <;> omega), ht⟩) (fun q h => by cases h) dX8_shipsAtSea_32
        ·
          have ic_30 : y3stage.toInt = 1 := (g_eq rfl t_1).mp c_30
          clear c_30
          refine lv_iinc (v := 2) (lv' := [(1, .int 2), (2, .int 3), (0, .ref xh)]) hx hb dX8_shipsAtSea_22 hl (k := 1) rfl (by decide) (by decide) rfl (fun ls hl => ?_)
          refine lv_iinc (v := 4) (lv' := [(2, .int 4), (1, .int 2), (0, .ref xh)]) hx hb dX8_shipsAtSea_25 hl (k := 1) rfl (by decide) (by decide) rfl (fun ls hl => ?_)
          refine lv_goto (tgt := 4) hx hb dX8_shipsAtSea_28 (by decide) ?_
          refine lv_iload_n hx hb dX8_shipsAtSea_4 rfl (lv_at hl 0 rfl) ?_
          refine lv_iconst (v := 5) hx hb dX8_shipsAtSea_5 (by decide) ?_
          refine lv_icmp_ge (tgt := 31) hx hb dX8_shipsAtSea_6 (by decide) (fun c_35 => absurd c_35 (by decide)) (fun c_35 => ?_)
          refine lv_aload_n hx hb dX8_shipsAtSea_9 rfl (lv_at hl 2 rfl) ?_
          refine va_get (D := D) (ci := 8) (v := .ref (xa 4)) (C := RX8) (T := TX8) (N := 14) hx hb htb iX8 hown hK.1 hP 0 rfl rfl 4 (by decide) (htb _ k_276) (fun _ h9 => h9) rfl dX8_shipsAtSea_10 ?_
          refine lv_iload_n hx hb dX8_shipsAtSea_13 rfl (lv_at hl 0 rfl) ?_
          refine va_aldq hx hb hK.1 hP 1 4 rfl rfl (g_in t_4 (by decide) (by decide)) dX8_shipsAtSea_14 ?_
          refine W_top (y := .ref y4h) (congrArg va_rf hq4) ?_
          refine va_getN (D := D) (ci := 5) (v := .int y4stage) (C := RX5) (T := TX5) (N := 11) hx hb htb iX5 hown hK.1 hP 6 rfl rfl 8 (by decide) (va_Nw.use rfl (hK.2.1 (Cond.fieldLinkNest RX8 208 "SeaWatches$Ship" "stage" "I" "SeaWatches") (by decide +kernel))) (fun _ h9 => h9) rfl dX8_shipsAtSea_15 ?_
          refine lv_iconst (v := 1) hx hb dX8_shipsAtSea_18 (by decide) ?_
          refine lv_icmp_ne (tgt := 25) hx hb dX8_shipsAtSea_19 (by decide) (fun c_36 => ?_) (fun c_36 => ?_)
          ·
            have ic_36 : y4stage.toInt ≠ 1 := mt (g_eq rfl t_1).mpr c_36
            clear c_36
            refine lv_iinc (v := 5) (lv' := [(2, .int 5), (1, .int 2), (0, .ref xh)]) hx hb dX8_shipsAtSea_25 hl (k := 0) rfl (by decide) (by decide) rfl (fun ls hl => ?_)
            refine lv_goto (tgt := 4) hx hb dX8_shipsAtSea_28 (by decide) ?_
            refine lv_iload_n hx hb dX8_shipsAtSea_4 rfl (lv_at hl 0 rfl) ?_
            refine lv_iconst (v := 5) hx hb dX8_shipsAtSea_5 (by decide) ?_
            refine lv_icmp_ge (tgt := 31) hx hb dX8_shipsAtSea_6 (by decide) (fun c_37 => ?_) (fun c_37 => absurd (by decide) c_37)
            refine lv_iload_n hx hb dX8_shipsAtSea_31 rfl (lv_at hl 1 rfl) ?_
            exact W.iret (v := 2) hx hb hr (fun t ht hW => ⟨2, rfl, (by have hl := t_2; (repeat' split) <;> omega), ht⟩) (fun q h => by cases h) dX8_shipsAtSea_32
          ·
            have ic_36 : y4stage.toInt = 1 := (g_eq rfl t_1).mp c_36
            clear c_36
            refine lv_iinc (v := 3) (lv' := [(1, .int 3), (2, .int 4), (0, .ref xh)]) hx hb dX8_shipsAtSea_22 hl (k := 1) rfl (by decide) (by decide) rfl (fun ls hl => ?_)
            refine lv_iinc (v := 5) (lv' := [(2, .int 5), (1, .int 3), (0, .ref xh)]) hx hb dX8_shipsAtSea_25 hl (k := 1) rfl (by decide) (by decide) rfl (fun ls hl => ?_)
            refine lv_goto (tgt := 4) hx hb dX8_shipsAtSea_28 (by decide) ?_
            refine lv_iload_n hx hb dX8_shipsAtSea_4 rfl (lv_at hl 0 rfl) ?_
            refine lv_iconst (v := 5) hx hb dX8_shipsAtSea_5 (by decide) ?_
            refine lv_icmp_ge (tgt := 31) hx hb dX8_shipsAtSea_6 (by decide) (fun c_38 => ?_) (fun c_38 => absurd (by decide) c_38)
            refine lv_iload_n hx hb dX8_shipsAtSea_31 rfl (lv_at hl 1 rfl) ?_
            exact W.iret (v := 3) hx hb hr (fun t ht hW => ⟨3, rfl, (by have hl := t_3; (repeat' split) <;> omega), ht⟩) (fun q h => by cases h) dX8_shipsAtSea_32
      ·
        have ic_28 : y2stage.toInt = 1 := (g_eq rfl t_1).mp c_28
        clear c_28
        refine lv_iinc (v := 2) (lv' := [(1, .int 2), (2, .int 2), (0, .ref xh)]) hx hb dX8_shipsAtSea_22 hl (k := 1) rfl (by decide) (by decide) rfl (fun ls hl => ?_)
        refine lv_iinc (v := 3) (lv' := [(2, .int 3), (1, .int 2), (0, .ref xh)]) hx hb dX8_shipsAtSea_25 hl (k := 1) rfl (by decide) (by decide) rfl (fun ls hl => ?_)
        refine lv_goto (tgt := 4) hx hb dX8_shipsAtSea_28 (by decide) ?_
        refine lv_iload_n hx hb dX8_shipsAtSea_4 rfl (lv_at hl 0 rfl) ?_
        refine lv_iconst (v := 5) hx hb dX8_shipsAtSea_5 (by decide) ?_
        refine lv_icmp_ge (tgt := 31) hx hb dX8_shipsAtSea_6 (by decide) (fun c_39 => absurd c_39 (by decide)) (fun c_39 => ?_)
        refine lv_aload_n hx hb dX8_shipsAtSea_9 rfl (lv_at hl 2 rfl) ?_
        refine va_get (D := D) (ci := 8) (v := .ref (xa 4)) (C := RX8) (T := TX8) (N := 14) hx hb htb iX8 hown hK.1 hP 0 rfl rfl 4 (by decide) (htb _ k_276) (fun _ h9 => h9) rfl dX8_shipsAtSea_10 ?_
        refine lv_iload_n hx hb dX8_shipsAtSea_13 rfl (lv_at hl 0 rfl) ?_
        refine va_aldq hx hb hK.1 hP 1 4 rfl rfl (g_in t_3 (by decide) (by decide)) dX8_shipsAtSea_14 ?_
        refine W_top (y := .ref y3h) (congrArg va_rf hq3) ?_
        refine va_getN (D := D) (ci := 5) (v := .int y3stage) (C := RX5) (T := TX5) (N := 11) hx hb htb iX5 hown hK.1 hP 5 rfl rfl 8 (by decide) (va_Nw.use rfl (hK.2.1 (Cond.fieldLinkNest RX8 208 "SeaWatches$Ship" "stage" "I" "SeaWatches") (by decide +kernel))) (fun _ h9 => h9) rfl dX8_shipsAtSea_15 ?_
        refine lv_iconst (v := 1) hx hb dX8_shipsAtSea_18 (by decide) ?_
        refine lv_icmp_ne (tgt := 25) hx hb dX8_shipsAtSea_19 (by decide) (fun c_40 => ?_) (fun c_40 => ?_)
        ·
          have ic_40 : y3stage.toInt ≠ 1 := mt (g_eq rfl t_1).mpr c_40
          clear c_40
          refine lv_iinc (v := 4) (lv' := [(2, .int 4), (1, .int 2), (0, .ref xh)]) hx hb dX8_shipsAtSea_25 hl (k := 0) rfl (by decide) (by decide) rfl (fun ls hl => ?_)
          refine lv_goto (tgt := 4) hx hb dX8_shipsAtSea_28 (by decide) ?_
          refine lv_iload_n hx hb dX8_shipsAtSea_4 rfl (lv_at hl 0 rfl) ?_
          refine lv_iconst (v := 5) hx hb dX8_shipsAtSea_5 (by decide) ?_
          refine lv_icmp_ge (tgt := 31) hx hb dX8_shipsAtSea_6 (by decide) (fun c_41 => absurd c_41 (by decide)) (fun c_41 => ?_)
          refine lv_aload_n hx hb dX8_shipsAtSea_9 rfl (lv_at hl 2 rfl) ?_
          refine va_get (D := D) (ci := 8) (v := .ref (xa 4)) (C := RX8) (T := TX8) (N := 14) hx hb htb iX8 hown hK.1 hP 0 rfl rfl 4 (by decide) (htb _ k_276) (fun _ h9 => h9) rfl dX8_shipsAtSea_10 ?_
          refine lv_iload_n hx hb dX8_shipsAtSea_13 rfl (lv_at hl 0 rfl) ?_
          refine va_aldq hx hb hK.1 hP 1 4 rfl rfl (g_in t_4 (by decide) (by decide)) dX8_shipsAtSea_14 ?_
          refine W_top (y := .ref y4h) (congrArg va_rf hq4) ?_
          refine va_getN (D := D) (ci := 5) (v := .int y4stage) (C := RX5) (T := TX5) (N := 11) hx hb htb iX5 hown hK.1 hP 6 rfl rfl 8 (by decide) (va_Nw.use rfl (hK.2.1 (Cond.fieldLinkNest RX8 208 "SeaWatches$Ship" "stage" "I" "SeaWatches") (by decide +kernel))) (fun _ h9 => h9) rfl dX8_shipsAtSea_15 ?_
          refine lv_iconst (v := 1) hx hb dX8_shipsAtSea_18 (by decide) ?_
          refine lv_icmp_ne (tgt := 25) hx hb dX8_shipsAtSea_19 (by decide) (fun c_42 => ?_) (fun c_42 => ?_)
          ·
            have ic_42 : y4stage.toInt ≠ 1 := mt (g_eq rfl t_1).mpr c_42
            clear c_42
            refine lv_iinc (v := 5) (lv' := [(2, .int 5), (1, .int 2), (0, .ref xh)]) hx hb dX8_shipsAtSea_25 hl (k := 0) rfl (by decide) (by decide) rfl (fun ls hl => ?_)
            refine lv_goto (tgt := 4) hx hb dX8_shipsAtSea_28 (by decide) ?_
            refine lv_iload_n hx hb dX8_shipsAtSea_4 rfl (lv_at hl 0 rfl) ?_
            refine lv_iconst (v := 5) hx hb dX8_shipsAtSea_5 (by decide) ?_
            refine lv_icmp_ge (tgt := 31) hx hb dX8_shipsAtSea_6 (by decide) (fun c_43 => ?_) (fun c_43 => absurd (by decide) c_43)
            refine lv_iload_n hx hb dX8_shipsAtSea_31 rfl (lv_at hl 1 rfl) ?_
            exact W.iret (v := 2) hx hb hr (fun t ht hW => ⟨2, rfl, (by have hl := t_2; (repeat' split) <;> omega), ht⟩) (fun q h => by cases h) dX8_shipsAtSea_32
          ·
            have ic_42 : y4stage.toInt = 1 := (g_eq rfl t_1).mp c_42
            clear c_42
            refine lv_iinc (v := 3) (lv' := [(1, .int 3), (2, .int 4), (0, .ref xh)]) hx hb dX8_shipsAtSea_22 hl (k := 1) rfl (by decide) (by decide) rfl (fun ls hl => ?_)
            refine lv_iinc (v := 5) (lv' := [(2, .int 5), (1, .int 3), (0, .ref xh)]) hx hb dX8_shipsAtSea_25 hl (k := 1) rfl (by decide) (by decide) rfl (fun ls hl => ?_)
            refine lv_goto (tgt := 4) hx hb dX8_shipsAtSea_28 (by decide) ?_
            refine lv_iload_n hx hb dX8_shipsAtSea_4 rfl (lv_at hl 0 rfl) ?_
            refine lv_iconst (v := 5) hx hb dX8_shipsAtSea_5 (by decide) ?_
            refine lv_icmp_ge (tgt := 31) hx hb dX8_shipsAtSea_6 (by decide) (fun c_44 => ?_) (fun c_44 => absurd (by decide) c_44)
            refine lv_iload_n hx hb dX8_shipsAtSea_31 rfl (lv_at hl 1 rfl) ?_
            exact W.iret (v := 3) hx hb hr (fun t ht hW => ⟨3, rfl, (by have hl := t_3; (repeat' split) <;> omega), ht⟩) (fun q h => by cases h) dX8_shipsAtSea_32
        ·
          have ic_40 : y3stage.toInt = 1 := (g_eq rfl t_1).mp c_40
          clear c_40
          refine lv_iinc (v := 3) (lv' := [(1, .int 3), (2, .int 3), (0, .ref xh)]) hx hb dX8_shipsAtSea_22 hl (k := 1) rfl (by decide) (by decide) rfl (fun ls hl => ?_)
          refine lv_iinc (v := 4) (lv' := [(2, .int 4), (1, .int 3), (0, .ref xh)]) hx hb dX8_shipsAtSea_25 hl (k := 1) rfl (by decide) (by decide) rfl (fun ls hl => ?_)
          refine lv_goto (tgt := 4) hx hb dX8_shipsAtSea_28 (by decide) ?_
          refine lv_iload_n hx hb dX8_shipsAtSea_4 rfl (lv_at hl 0 rfl) ?_
          refine lv_iconst (v := 5) hx hb dX8_shipsAtSea_5 (by decide) ?_
          refine lv_icmp_ge (tgt := 31) hx hb dX8_shipsAtSea_6 (by decide) (fun c_45 => absurd c_45 (by decide)) (fun c_45 => ?_)
          refine lv_aload_n hx hb dX8_shipsAtSea_9 rfl (lv_at hl 2 rfl) ?_
          refine va_get (D := D) (ci := 8) (v := .ref (xa 4)) (C := RX8) (T := TX8) (N := 14) hx hb htb iX8 hown hK.1 hP 0 rfl rfl 4 (by decide) (htb _ k_276) (fun _ h9 => h9) rfl dX8_shipsAtSea_10 ?_
          refine lv_iload_n hx hb dX8_shipsAtSea_13 rfl (lv_at hl 0 rfl) ?_
          refine va_aldq hx hb hK.1 hP 1 4 rfl rfl (g_in t_4 (by decide) (by decide)) dX8_shipsAtSea_14 ?_
          refine W_top (y := .ref y4h) (congrArg va_rf hq4) ?_
          refine va_getN (D := D) (ci := 5) (v := .int y4stage) (C := RX5) (T := TX5) (N := 11) hx hb htb iX5 hown hK.1 hP 6 rfl rfl 8 (by decide) (va_Nw.use rfl (hK.2.1 (Cond.fieldLinkNest RX8 208 "SeaWatches$Ship" "stage" "I" "SeaWatches") (by decide +kernel))) (fun _ h9 => h9) rfl dX8_shipsAtSea_15 ?_
          refine lv_iconst (v := 1) hx hb dX8_shipsAtSea_18 (by decide) ?_
          refine lv_icmp_ne (tgt := 25) hx hb dX8_shipsAtSea_19 (by decide) (fun c_46 => ?_) (fun c_46 => ?_)
          ·
            have ic_46 : y4stage.toInt ≠ 1 := mt (g_eq rfl t_1).mpr c_46
            clear c_46
            refine lv_iinc (v := 5) (lv' := [(2, .int 5), (1, .int 3), (0, .ref xh)]) hx hb dX8_shipsAtSea_25 hl (k := 0) rfl (by decide) (by decide) rfl (fun ls hl => ?_)
            refine lv_goto (tgt := 4) hx hb dX8_shipsAtSea_28 (by decide) ?_
            refine lv_iload_n hx hb dX8_shipsAtSea_4 rfl (lv_at hl 0 rfl) ?_
            refine lv_iconst (v := 5) hx hb dX8_shipsAtSea_5 (by decide) ?_
            refine lv_icmp_ge (tgt := 31) hx hb dX8_shipsAtSea_6 (by decide) (fun c_47 => ?_) (fun c_47 => absurd (by decide) c_47)
            refine lv_iload_n hx hb dX8_shipsAtSea_31 rfl (lv_at hl 1 rfl) ?_
            exact W.iret (v := 3) hx hb hr (fun t ht hW => ⟨3, rfl, (by have hl := t_3; (repeat' split) <;> omega), ht⟩) (fun q h => by cases h) dX8_shipsAtSea_32
          ·
            have ic_46 : y4stage.toInt = 1 := (g_eq rfl t_1).mp c_46
            clear c_46
            refine lv_iinc (v := 4) (lv' := [(1, .int 4), (2, .int 4), (0, .ref xh)]) hx hb dX8_shipsAtSea_22 hl (k := 1) rfl (by decide) (by decide) rfl (fun ls hl => ?_)
            refine lv_iinc (v := 5) (lv' := [(2, .int 5), (1, .int 4), (0, .ref xh)]) hx hb dX8_shipsAtSea_25 hl (k := 1) rfl (by decide) (by decide) rfl (fun ls hl => ?_)
            refine lv_goto (tgt := 4) hx hb dX8_shipsAtSea_28 (by decide) ?_
            refine lv_iload_n hx hb dX8_shipsAtSea_4 rfl (lv_at hl 0 rfl) ?_
            refine lv_iconst (v := 5) hx hb dX8_shipsAtSea_5 (by decide) ?_
            refine lv_icmp_ge (tgt := 31) hx hb dX8_shipsAtSea_6 (by decide) (fun c_48 => ?_) (fun c_48 => absurd (by decide) c_48)
            refine lv_iload_n hx hb dX8_shipsAtSea_31 rfl (lv_at hl 1 rfl) ?_
            exact W.iret (v := 4) hx hb hr (fun t ht hW => ⟨4, rfl, (by have hl := t_4; (repeat' split) <;> omega), ht⟩) (fun q h => by cases h) dX8_shipsAtSea_32
  ·
    have ic_2 : y0stage.toInt = 1 := (g_eq rfl t_1).mp c_2
    clear c_2
    refine lv_iinc (v := 1) (lv' := [(1, .int 1), (2, .int 0), (0, .ref xh)]) hx hb dX8_shipsAtSea_22 hl (k := 1) rfl (by decide) (by decide) rfl (fun ls hl => ?_)
    refine lv_iinc (v := 1) (lv' := [(2, .int 1), (1, .int 1), (0, .ref xh)]) hx hb dX8_shipsAtSea_25 hl (k := 1) rfl (by decide) (by decide) rfl (fun ls hl => ?_)
    refine lv_goto (tgt := 4) hx hb dX8_shipsAtSea_28 (by decide) ?_
    refine lv_iload_n hx hb dX8_shipsAtSea_4 rfl (lv_at hl 0 rfl) ?_
    refine lv_iconst (v := 5) hx hb dX8_shipsAtSea_5 (by decide) ?_
    refine lv_icmp_ge (tgt := 31) hx hb dX8_shipsAtSea_6 (by decide) (fun c_49 => absurd c_49 (by decide)) (fun c_49 => ?_)
    refine lv_aload_n hx hb dX8_shipsAtSea_9 rfl (lv_at hl 2 rfl) ?_
    refine va_get (D := D) (ci := 8) (v := .ref (xa 4)) (C := RX8) (T := TX8) (N := 14) hx hb htb iX8 hown hK.1 hP 0 rfl rfl 4 (by decide) (htb _ k_276) (fun _ h9 => h9) rfl dX8_shipsAtSea_10 ?_
    refine lv_iload_n hx hb dX8_shipsAtSea_13 rfl (lv_at hl 0 rfl) ?_
    refine va_aldq hx hb hK.1 hP 1 4 rfl rfl (g_in t_1 (by decide) (by decide)) dX8_shipsAtSea_14 ?_
    refine W_top (y := .ref y1h) (congrArg va_rf hq1) ?_
    refine va_getN (D := D) (ci := 5) (v := .int y1stage) (C := RX5) (T := TX5) (N := 11) hx hb htb iX5 hown hK.1 hP 3 rfl rfl 8 (by decide) (va_Nw.use rfl (hK.2.1 (Cond.fieldLinkNest RX8 208 "SeaWatches$Ship" "stage" "I" "SeaWatches") (by decide +kernel))) (fun _ h9 => h9) rfl dX8_shipsAtSea_15 ?_
    refine lv_iconst (v := 1) hx hb dX8_shipsAtSea_18 (by decide) ?_
    refine lv_icmp_ne (tgt := 25) hx hb dX8_shipsAtSea_19 (by decide) (fun c_50 => ?_) (fun c_50 => ?_)
    ·
      have ic_50 : y1stage.toInt ≠ 1 := mt (g_eq rfl t_1).mpr c_50
      clear c_50
      refine lv_iinc (v := 2) (lv' := [(2, .int 2), (1, .int 1), (0, .ref xh)]) hx hb dX8_shipsAtSea_25 hl (k := 0) rfl (by decide) (by decide) rfl (fun ls hl => ?_)
      refine lv_goto (tgt := 4) hx hb dX8_shipsAtSea_28 (by decide) ?_
      refine lv_iload_n hx hb dX8_shipsAtSea_4 rfl (lv_at hl 0 rfl) ?_
      refine lv_iconst (v := 5) hx hb dX8_shipsAtSea_5 (by decide) ?_
      refine lv_icmp_ge (tgt := 31) hx hb dX8_shipsAtSea_6 (by decide) (fun c_51 => absurd c_51 (by decide)) (fun c_51 => ?_)
      refine lv_aload_n hx hb dX8_shipsAtSea_9 rfl (lv_at hl 2 rfl) ?_
      refine va_get (D := D) (ci := 8) (v := .ref (xa 4)) (C := RX8) (T := TX8) (N := 14) hx hb htb iX8 hown hK.1 hP 0 rfl rfl 4 (by decide) (htb _ k_276) (fun _ h9 => h9) rfl dX8_shipsAtSea_10 ?_
      refine lv_iload_n hx hb dX8_shipsAtSea_13 rfl (lv_at hl 0 rfl) ?_
      refine va_aldq hx hb hK.1 hP 1 4 rfl rfl (g_in t_2 (by decide) (by decide)) dX8_shipsAtSea_14 ?_
      refine W_top (y := .ref y2h) (congrArg va_rf hq2) ?_
      refine va_getN (D := D) (ci := 5) (v := .int y2stage) (C := RX5) (T := TX5) (N := 11) hx hb htb iX5 hown hK.1 hP 4 rfl rfl 8 (by decide) (va_Nw.use rfl (hK.2.1 (Cond.fieldLinkNest RX8 208 "SeaWatches$Ship" "stage" "I" "SeaWatches") (by decide +kernel))) (fun _ h9 => h9) rfl dX8_shipsAtSea_15 ?_
      refine lv_iconst (v := 1) hx hb dX8_shipsAtSea_18 (by decide) ?_
      refine lv_icmp_ne (tgt := 25) hx hb dX8_shipsAtSea_19 (by decide) (fun c_52 => ?_) (fun c_52 => ?_)
      ·
        have ic_52 : y2stage.toInt ≠ 1 := mt (g_eq rfl t_1).mpr c_52
        clear c_52
        refine lv_iinc (v := 3) (lv' := [(2, .int 3), (1, .int 1), (0, .ref xh)]) hx hb dX8_shipsAtSea_25 hl (k := 0) rfl (by decide) (by decide) rfl (fun ls hl => ?_)
        refine lv_goto (tgt := 4) hx hb dX8_shipsAtSea_28 (by decide) ?_
        refine lv_iload_n hx hb dX8_shipsAtSea_4 rfl (lv_at hl 0 rfl) ?_
        refine lv_iconst (v := 5) hx hb dX8_shipsAtSea_5 (by decide) ?_
        refine lv_icmp_ge (tgt := 31) hx hb dX8_shipsAtSea_6 (by decide) (fun c_53 => absurd c_53 (by decide)) (fun c_53 => ?_)
        refine lv_aload_n hx hb dX8_shipsAtSea_9 rfl (lv_at hl 2 rfl) ?_
        refine va_get (D := D) (ci := 8) (v := .ref (xa 4)) (C := RX8) (T := TX8) (N := 14) hx hb htb iX8 hown hK.1 hP 0 rfl rfl 4 (by decide) (htb _ k_276) (fun _ h9 => h9) rfl dX8_shipsAtSea_10 ?_
        refine lv_iload_n hx hb dX8_shipsAtSea_13 rfl (lv_at hl 0 rfl) ?_
        refine va_aldq hx hb hK.1 hP 1 4 rfl rfl (g_in t_3 (by decide) (by decide)) dX8_shipsAtSea_14 ?_
        refine W_top (y := .ref y3h) (congrArg va_rf hq3) ?_
        refine va_getN (D := D) (ci := 5) (v := .int y3stage) (C := RX5) (T := TX5) (N := 11) hx hb htb iX5 hown hK.1 hP 5 rfl rfl 8 (by decide) (va_Nw.use rfl (hK.2.1 (Cond.fieldLinkNest RX8 208 "SeaWatches$Ship" "stage" "I" "SeaWatches") (by decide +kernel))) (fun _ h9 => h9) rfl dX8_shipsAtSea_15 ?_
        refine lv_iconst (v := 1) hx hb dX8_shipsAtSea_18 (by decide) ?_
        refine lv_icmp_ne (tgt := 25) hx hb dX8_shipsAtSea_19 (by decide) (fun c_54 => ?_) (fun c_54 => ?_)
        ·
          have ic_54 : y3stage.toInt ≠ 1 := mt (g_eq rfl t_1).mpr c_54
          clear c_54
          refine lv_iinc (v := 4) (lv' := [(2, .int 4), (1, .int 1), (0, .ref xh)]) hx hb dX8_shipsAtSea_25 hl (k := 0) rfl (by decide) (by decide) rfl (fun ls hl => ?_)
          refine lv_goto (tgt := 4) hx hb dX8_shipsAtSea_28 (by decide) ?_
          refine lv_iload_n hx hb dX8_shipsAtSea_4 rfl (lv_at hl 0 rfl) ?_
          refine lv_iconst (v := 5) hx hb dX8_shipsAtSea_5 (by decide) ?_
          refine lv_icmp_ge (tgt := 31) hx hb dX8_shipsAtSea_6 (by decide) (fun c_55 => absurd c_55 (by decide)) (fun c_55 => ?_)
          refine lv_aload_n hx hb dX8_shipsAtSea_9 rfl (lv_at hl 2 rfl) ?_
          refine va_get (D := D) (ci := 8) (v := .ref (xa 4)) (C := RX8) (T := TX8) (N := 14) hx hb htb iX8 hown hK.1 hP 0 rfl rfl 4 (by decide) (htb _ k_276) (fun _ h9 => h9) rfl dX8_shipsAtSea_10 ?_
          refine lv_iload_n hx hb dX8_shipsAtSea_13 rfl (lv_at hl 0 rfl) ?_
          refine va_aldq hx hb hK.1 hP 1 4 rfl rfl (g_in t_4 (by decide) (by decide)) dX8_shipsAtSea_14 ?_
          refine W_top (y := .ref y4h) (congrArg va_rf hq4) ?_
          refine va_getN (D := D) (ci := 5) (v := .int y4stage) (C := RX5) (T := TX5) (N := 11) hx hb htb iX5 hown hK.1 hP 6 rfl rfl 8 (by decide) (va_Nw.use rfl (hK.2.1 (Cond.fieldLinkNest RX8 208 "SeaWatches$Ship" "stage" "I" "SeaWatches") (by decide +kernel))) (fun _ h9 => h9) rfl dX8_shipsAtSea_15 ?_
          refine lv_iconst (v := 1) hx hb dX8_shipsAtSea_18 (by decide) ?_
          refine lv_icmp_ne (tgt := 25) hx hb dX8_shipsAtSea_19 (by decide) (fun c_56 => ?_) (fun c_56 => ?_)
          ·
            have ic_56 : y4stage.toInt ≠ 1 := mt (g_eq rfl t_1).mpr c_56
            clear c_56
            refine lv_iinc (v := 5) (lv' := [(2, .int 5), (1, .int 1), (0, .ref xh)]) hx hb dX8_shipsAtSea_25 hl (k := 0) rfl (by decide) (by decide) rfl (fun ls hl => ?_)
            refine lv_goto (tgt := 4) hx hb dX8_shipsAtSea_28 (by decide) ?_
            refine lv_iload_n hx hb dX8_shipsAtSea_4 rfl (lv_at hl 0 rfl) ?_
            refine lv_iconst (v := 5) hx hb dX8_shipsAtSea_5 (by decide) ?_
            refine lv_icmp_ge (tgt := 31) hx hb dX8_shipsAtSea_6 (by decide) (fun c_57 => ?_) (fun c_57 => absurd (by decide) c_57)
            refine lv_iload_n hx hb dX8_shipsAtSea_31 rfl (lv_at hl 1 rfl) ?_
            exact W.iret (v := 1) hx hb hr (fun t ht hW => ⟨1, rfl, (by have hl := t_1; (repeat' split) <;> omega), ht⟩) (fun q h => by cases h) dX8_shipsAtSea_32
          ·
            have ic_56 : y4stage.toInt = 1 := (g_eq rfl t_1).mp c_56
            clear c_56
            refine lv_iinc (v := 2) (lv' := [(1, .int 2), (2, .int 4), (0, .ref xh)]) hx hb dX8_shipsAtSea_22 hl (k := 1) rfl (by decide) (by decide) rfl (fun ls hl => ?_)
            refine lv_iinc (v := 5) (lv' := [(2, .int 5), (1, .int 2), (0, .ref xh)]) hx hb dX8_shipsAtSea_25 hl (k := 1) rfl (by decide) (by decide) rfl (fun ls hl => ?_)
            refine lv_goto (tgt := 4) hx hb dX8_shipsAtSea_28 (by decide) ?_
            refine lv_iload_n hx hb dX8_shipsAtSea_4 rfl (lv_at hl 0 rfl) ?_
            refine lv_iconst (v := 5) hx hb dX8_shipsAtSea_5 (by decide) ?_
            refine lv_icmp_ge (tgt := 31) hx hb dX8_shipsAtSea_6 (by decide) (fun c_58 => ?_) (fun c_58 => absurd (by decide) c_58)
            refine lv_iload_n hx hb dX8_shipsAtSea_31 rfl (lv_at hl 1 rfl) ?_
            exact W.iret (v := 2) hx hb hr (fun t ht hW => ⟨2, rfl, (by have hl := t_2; (repeat' split) <;> omega), ht⟩) (fun q h => by cases h) dX8_shipsAtSea_32
        ·
          have ic_54 : y3stage.toInt = 1 := (g_eq rfl t_1).mp c_54
          clear c_54
          refine lv_iinc (v := 2) (lv' := [(1, .int 2), (2, .int 3), (0, .ref xh)]) hx hb dX8_shipsAtSea_22 hl (k := 1) rfl (by decide) (by decide) rfl (fun ls hl => ?_)
          refine lv_iinc (v := 4) (lv' := [(2, .int 4), (1, .int 2), (0, .ref xh)]) hx hb dX8_shipsAtSea_25 hl (k := 1) rfl (by decide) (by decide) rfl (fun ls hl => ?_)
          refine lv_goto (tgt := 4) hx hb dX8_shipsAtSea_28 (by decide) ?_
          refine lv_iload_n hx hb dX8_shipsAtSea_4 rfl (lv_at hl 0 rfl) ?_
          refine lv_iconst (v := 5) hx hb dX8_shipsAtSea_5 (by decide) ?_
          refine lv_icmp_ge (tgt := 31) hx hb dX8_shipsAtSea_6 (by decide) (fun c_59 => absurd c_59 (by decide)) (fun c_59 => ?_)
          refine lv_aload_n hx hb dX8_shipsAtSea_9 rfl (lv_at hl 2 rfl) ?_
          refine va_get (D := D) (ci := 8) (v := .ref (xa 4)) (C := RX8) (T := TX8) (N := 14) hx hb htb iX8 hown hK.1 hP 0 rfl rfl 4 (by decide) (htb _ k_276) (fun _ h9 => h9) rfl dX8_shipsAtSea_10 ?_
          refine lv_iload_n hx hb dX8_shipsAtSea_13 rfl (lv_at hl 0 rfl) ?_
          refine va_aldq hx hb hK.1 hP 1 4 rfl rfl (g_in t_4 (by decide) (by decide)) dX8_shipsAtSea_14 ?_
          refine W_top (y := .ref y4h) (congrArg va_rf hq4) ?_
          refine va_getN (D := D) (ci := 5) (v := .int y4stage) (C := RX5) (T := TX5) (N := 11) hx hb htb iX5 hown hK.1 hP 6 rfl rfl 8 (by decide) (va_Nw.use rfl (hK.2.1 (Cond.fieldLinkNest RX8 208 "SeaWatches$Ship" "stage" "I" "SeaWatches") (by decide +kernel))) (fun _ h9 => h9) rfl dX8_shipsAtSea_15 ?_
          refine lv_iconst (v := 1) hx hb dX8_shipsAtSea_18 (by decide) ?_
          refine lv_icmp_ne (tgt := 25) hx hb dX8_shipsAtSea_19 (by decide) (fun c_60 => ?_) (fun c_60 => ?_)
          ·
            have ic_60 : y4stage.toInt ≠ 1 := mt (g_eq rfl t_1).mpr c_60
            clear c_60
            refine lv_iinc (v := 5) (lv' := [(2, .int 5), (1, .int 2), (0, .ref xh)]) hx hb dX8_shipsAtSea_25 hl (k := 0) rfl (by decide) (by decide) rfl (fun ls hl => ?_)
            refine lv_goto (tgt := 4) hx hb dX8_shipsAtSea_28 (by decide) ?_
            refine lv_iload_n hx hb dX8_shipsAtSea_4 rfl (lv_at hl 0 rfl) ?_
            refine lv_iconst (v := 5) hx hb dX8_shipsAtSea_5 (by decide) ?_
            refine lv_icmp_ge (tgt := 31) hx hb dX8_shipsAtSea_6 (by decide) (fun c_61 => ?_) (fun c_61 => absurd (by decide) c_61)
            refine lv_iload_n hx hb dX8_shipsAtSea_31 rfl (lv_at hl 1 rfl) ?_
            exact W.iret (v := 2) hx hb hr (fun t ht hW => ⟨2, rfl, (by have hl := t_2; (repeat' split) <;> omega), ht⟩) (fun q h => by cases h) dX8_shipsAtSea_32
          ·
            have ic_60 : y4stage.toInt = 1 := (g_eq rfl t_1).mp c_60
            clear c_60
            refine lv_iinc (v := 3) (lv' := [(1, .int 3), (2, .int 4), (0, .ref xh)]) hx hb dX8_shipsAtSea_22 hl (k := 1) rfl (by decide) (by decide) rfl (fun ls hl => ?_)
            refine lv_iinc (v := 5) (lv' := [(2, .int 5), (1, .int 3), (0, .ref xh)]) hx hb dX8_shipsAtSea_25 hl (k := 1) rfl (by decide) (by decide) rfl (fun ls hl => ?_)
            refine lv_goto (tgt := 4) hx hb dX8_shipsAtSea_28 (by decide) ?_
            refine lv_iload_n hx hb dX8_shipsAtSea_4 rfl (lv_at hl 0 rfl) ?_
            refine lv_iconst (v := 5) hx hb dX8_shipsAtSea_5 (by decide) ?_
            refine lv_icmp_ge (tgt := 31) hx hb dX8_shipsAtSea_6 (by decide) (fun c_62 => ?_) (fun c_62 => absurd (by decide) c_62)
            refine lv_iload_n hx hb dX8_shipsAtSea_31 rfl (lv_at hl 1 rfl) ?_
            exact W.iret (v := 3) hx hb hr (fun t ht hW => ⟨3, rfl, (by have hl := t_3; (repeat' split) <;> omega), ht⟩) (fun q h => by cases h) dX8_shipsAtSea_32
      ·
        have ic_52 : y2stage.toInt = 1 := (g_eq rfl t_1).mp c_52
        clear c_52
        refine lv_iinc (v := 2) (lv' := [(1, .int 2), (2, .int 2), (0, .ref xh)]) hx hb dX8_shipsAtSea_22 hl (k := 1) rfl (by decide) (by decide) rfl (fun ls hl => ?_)
        refine lv_iinc (v := 3) (lv' := [(2, .int 3), (1, .int 2), (0, .ref xh)]) hx hb dX8_shipsAtSea_25 hl (k := 1) rfl (by decide) (by decide) rfl (fun ls hl => ?_)
        refine lv_goto (tgt := 4) hx hb dX8_shipsAtSea_28 (by decide) ?_
        refine lv_iload_n hx hb dX8_shipsAtSea_4 rfl (lv_at hl 0 rfl) ?_
        refine lv_iconst (v := 5) hx hb dX8_shipsAtSea_5 (by decide) ?_
        refine lv_icmp_ge (tgt := 31) hx hb dX8_shipsAtSea_6 (by decide) (fun c_63 => absurd c_63 (by decide)) (fun c_63 => ?_)
        refine lv_aload_n hx hb dX8_shipsAtSea_9 rfl (lv_at hl 2 rfl) ?_
        refine va_get (D := D) (ci := 8) (v := .ref (xa 4)) (C := RX8) (T := TX8) (N := 14) hx hb htb iX8 hown hK.1 hP 0 rfl rfl 4 (by decide) (htb _ k_276) (fun _ h9 => h9) rfl dX8_shipsAtSea_10 ?_
        refine lv_iload_n hx hb dX8_shipsAtSea_13 rfl (lv_at hl 0 rfl) ?_
        refine va_aldq hx hb hK.1 hP 1 4 rfl rfl (g_in t_3 (by decide) (by decide)) dX8_shipsAtSea_14 ?_
        refine W_top (y := .ref y3h) (congrArg va_rf hq3) ?_
        refine va_getN (D := D) (ci := 5) (v := .int y3stage) (C := RX5) (T := TX5) (N := 11) hx hb htb iX5 hown hK.1 hP 5 rfl rfl 8 (by decide) (va_Nw.use rfl (hK.2.1 (Cond.fieldLinkNest RX8 208 "SeaWatches$Ship" "stage" "I" "SeaWatches") (by decide +kernel))) (fun _ h9 => h9) rfl dX8_shipsAtSea_15 ?_
        refine lv_iconst (v := 1) hx hb dX8_shipsAtSea_18 (by decide) ?_
        refine lv_icmp_ne (tgt := 25) hx hb dX8_shipsAtSea_19 (by decide) (fun c_64 => ?_) (fun c_64 => ?_)
        ·
          have ic_64 : y3stage.toInt ≠ 1 := mt (g_eq rfl t_1).mpr c_64
          clear c_64
          refine lv_iinc (v := 4) (lv' := [(2, .int 4), (1, .int 2), (0, .ref xh)]) hx hb dX8_shipsAtSea_25 hl (k := 0) rfl (by decide) (by decide) rfl (fun ls hl => ?_)
          refine lv_goto (tgt := 4) hx hb dX8_shipsAtSea_28 (by decide) ?_
          refine lv_iload_n hx hb dX8_shipsAtSea_4 rfl (lv_at hl 0 rfl) ?_
          refine lv_iconst (v := 5) hx hb dX8_shipsAtSea_5 (by decide) ?_
          refine lv_icmp_ge (tgt := 31) hx hb dX8_shipsAtSea_6 (by decide) (fun c_65 => absurd c_65 (by decide)) (fun c_65 => ?_)
          refine lv_aload_n hx hb dX8_shipsAtSea_9 rfl (lv_at hl 2 rfl) ?_
          refine va_get (D := D) (ci := 8) (v := .ref (xa 4)) (C := RX8) (T := TX8) (N := 14) hx hb htb iX8 hown hK.1 hP 0 rfl rfl 4 (by decide) (htb _ k_276) (fun _ h9 => h9) rfl dX8_shipsAtSea_10 ?_
          refine lv_iload_n hx hb dX8_shipsAtSea_13 rfl (lv_at hl 0 rfl) ?_
          refine va_aldq hx hb hK.1 hP 1 4 rfl rfl (g_in t_4 (by decide) (by decide)) dX8_shipsAtSea_14 ?_
          refine W_top (y := .ref y4h) (congrArg va_rf hq4) ?_
          refine va_getN (D := D) (ci := 5) (v := .int y4stage) (C := RX5) (T := TX5) (N := 11) hx hb htb iX5 hown hK.1 hP 6 rfl rfl 8 (by decide) (va_Nw.use rfl (hK.2.1 (Cond.fieldLinkNest RX8 208 "SeaWatches$Ship" "stage" "I" "SeaWatches") (by decide +kernel))) (fun _ h9 => h9) rfl dX8_shipsAtSea_15 ?_
          refine lv_iconst (v := 1) hx hb dX8_shipsAtSea_18 (by decide) ?_
          refine lv_icmp_ne (tgt := 25) hx hb dX8_shipsAtSea_19 (by decide) (fun c_66 => ?_) (fun c_66 => ?_)
          ·
            have ic_66 : y4stage.toInt ≠ 1 := mt (g_eq rfl t_1).mpr c_66
            clear c_66
            refine lv_iinc (v := 5) (lv' := [(2, .int 5), (1, .int 2), (0, .ref xh)]) hx hb dX8_shipsAtSea_25 hl (k := 0) rfl (by decide) (by decide) rfl (fun ls hl => ?_)
            refine lv_goto (tgt := 4) hx hb dX8_shipsAtSea_28 (by decide) ?_
            refine lv_iload_n hx hb dX8_shipsAtSea_4 rfl (lv_at hl 0 rfl) ?_
            refine lv_iconst (v := 5) hx hb dX8_shipsAtSea_5 (by decide) ?_
            refine lv_icmp_ge (tgt := 31) hx hb dX8_shipsAtSea_6 (by decide) (fun c_67 => ?_) (fun c_67 => absurd (by decide) c_67)
            refine lv_iload_n hx hb dX8_shipsAtSea_31 rfl (lv_at hl 1 rfl) ?_
            exact W.iret (v := 2) hx hb hr (fun t ht hW => ⟨2, rfl, (by have hl := t_2; (repeat' split) <;> omega), ht⟩) (fun q h => by cases h) dX8_shipsAtSea_32
          ·
            have ic_66 : y4stage.toInt = 1 := (g_eq rfl t_1).mp c_66
            clear c_66
            refine lv_iinc (v := 3) (lv' := [(1, .int 3), (2, .int 4), (0, .ref xh)]) hx hb dX8_shipsAtSea_22 hl (k := 1) rfl (by decide) (by decide) rfl (fun ls hl => ?_)
            refine lv_iinc (v := 5) (lv' := [(2, .int 5), (1, .int 3), (0, .ref xh)]) hx hb dX8_shipsAtSea_25 hl (k := 1) rfl (by decide) (by decide) rfl (fun ls hl => ?_)
            refine lv_goto (tgt := 4) hx hb dX8_shipsAtSea_28 (by decide) ?_
            refine lv_iload_n hx hb dX8_shipsAtSea_4 rfl (lv_at hl 0 rfl) ?_
            refine lv_iconst (v := 5) hx hb dX8_shipsAtSea_5 (by decide) ?_
            refine lv_icmp_ge (tgt := 31) hx hb dX8_shipsAtSea_6 (by decide) (fun c_68 => ?_) (fun c_68 => absurd (by decide) c_68)
            refine lv_iload_n hx hb dX8_shipsAtSea_31 rfl (lv_at hl 1 rfl) ?_
            exact W.iret (v := 3) hx hb hr (fun t ht hW => ⟨3, rfl, (by have hl := t_3; (repeat' split) <;> omega), ht⟩) (fun q h => by cases h) dX8_shipsAtSea_32
        ·
          have ic_64 : y3stage.toInt = 1 := (g_eq rfl t_1).mp c_64
          clear c_64
          refine lv_iinc (v := 3) (lv' := [(1, .int 3), (2, .int 3), (0, .ref xh)]) hx hb dX8_shipsAtSea_22 hl (k := 1) rfl (by decide) (by decide) rfl (fun ls hl => ?_)
          refine lv_iinc (v := 4) (lv' := [(2, .int 4), (1, .int 3), (0, .ref xh)]) hx hb dX8_shipsAtSea_25 hl (k := 1) rfl (by decide) (by decide) rfl (fun ls hl => ?_)
          refine lv_goto (tgt := 4) hx hb dX8_shipsAtSea_28 (by decide) ?_
          refine lv_iload_n hx hb dX8_shipsAtSea_4 rfl (lv_at hl 0 rfl) ?_
          refine lv_iconst (v := 5) hx hb dX8_shipsAtSea_5 (by decide) ?_
          refine lv_icmp_ge (tgt := 31) hx hb dX8_shipsAtSea_6 (by decide) (fun c_69 => absurd c_69 (by decide)) (fun c_69 => ?_)
          refine lv_aload_n hx hb dX8_shipsAtSea_9 rfl (lv_at hl 2 rfl) ?_
          refine va_get (D := D) (ci := 8) (v := .ref (xa 4)) (C := RX8) (T := TX8) (N := 14) hx hb htb iX8 hown hK.1 hP 0 rfl rfl 4 (by decide) (htb _ k_276) (fun _ h9 => h9) rfl dX8_shipsAtSea_10 ?_
          refine lv_iload_n hx hb dX8_shipsAtSea_13 rfl (lv_at hl 0 rfl) ?_
          refine va_aldq hx hb hK.1 hP 1 4 rfl rfl (g_in t_4 (by decide) (by decide)) dX8_shipsAtSea_14 ?_
          refine W_top (y := .ref y4h) (congrArg va_rf hq4) ?_
          refine va_getN (D := D) (ci := 5) (v := .int y4stage) (C := RX5) (T := TX5) (N := 11) hx hb htb iX5 hown hK.1 hP 6 rfl rfl 8 (by decide) (va_Nw.use rfl (hK.2.1 (Cond.fieldLinkNest RX8 208 "SeaWatches$Ship" "stage" "I" "SeaWatches") (by decide +kernel))) (fun _ h9 => h9) rfl dX8_shipsAtSea_15 ?_
          refine lv_iconst (v := 1) hx hb dX8_shipsAtSea_18 (by decide) ?_
          refine lv_icmp_ne (tgt := 25) hx hb dX8_shipsAtSea_19 (by decide) (fun c_70 => ?_) (fun c_70 => ?_)
          ·
            have ic_70 : y4stage.toInt ≠ 1 := mt (g_eq rfl t_1).mpr c_70
            clear c_70
            refine lv_iinc (v := 5) (lv' := [(2, .int 5), (1, .int 3), (0, .ref xh)]) hx hb dX8_shipsAtSea_25 hl (k := 0) rfl (by decide) (by decide) rfl (fun ls hl => ?_)
            refine lv_goto (tgt := 4) hx hb dX8_shipsAtSea_28 (by decide) ?_
            refine lv_iload_n hx hb dX8_shipsAtSea_4 rfl (lv_at hl 0 rfl) ?_
            refine lv_iconst (v := 5) hx hb dX8_shipsAtSea_5 (by decide) ?_
            refine lv_icmp_ge (tgt := 31) hx hb dX8_shipsAtSea_6 (by decide) (fun c_71 => ?_) (fun c_71 => absurd (by decide) c_71)
            refine lv_iload_n hx hb dX8_shipsAtSea_31 rfl (lv_at hl 1 rfl) ?_
            exact W.iret (v := 3) hx hb hr (fun t ht hW => ⟨3, rfl, (by have hl := t_3; (repeat' split) <;> omega), ht⟩) (fun q h => by cases h) dX8_shipsAtSea_32
          ·
            have ic_70 : y4stage.toInt = 1 := (g_eq rfl t_1).mp c_70
            clear c_70
            refine lv_iinc (v := 4) (lv' := [(1, .int 4), (2, .int 4), (0, .ref xh)]) hx hb dX8_shipsAtSea_22 hl (k := 1) rfl (by decide) (by decide) rfl (fun ls hl => ?_)
            refine lv_iinc (v := 5) (lv' := [(2, .int 5), (1, .int 4), (0, .ref xh)]) hx hb dX8_shipsAtSea_25 hl (k := 1) rfl (by decide) (by decide) rfl (fun ls hl => ?_)
            refine lv_goto (tgt := 4) hx hb dX8_shipsAtSea_28 (by decide) ?_
            refine lv_iload_n hx hb dX8_shipsAtSea_4 rfl (lv_at hl 0 rfl) ?_
            refine lv_iconst (v := 5) hx hb dX8_shipsAtSea_5 (by decide) ?_
            refine lv_icmp_ge (tgt := 31) hx hb dX8_shipsAtSea_6 (by decide) (fun c_72 => ?_) (fun c_72 => absurd (by decide) c_72)
            refine lv_iload_n hx hb dX8_shipsAtSea_31 rfl (lv_at hl 1 rfl) ?_
            exact W.iret (v := 4) hx hb hr (fun t ht hW => ⟨4, rfl, (by have hl := t_4; (repeat' split) <;> omega), ht⟩) (fun q h => by cases h) dX8_shipsAtSea_32
    ·
      have ic_50 : y1stage.toInt = 1 := (g_eq rfl t_1).mp c_50
      clear c_50
      refine lv_iinc (v := 2) (lv' := [(1, .int 2), (2, .int 1), (0, .ref xh)]) hx hb dX8_shipsAtSea_22 hl (k := 1) rfl (by decide) (by decide) rfl (fun ls hl => ?_)
      refine lv_iinc (v := 2) (lv' := [(2, .int 2), (1, .int 2), (0, .ref xh)]) hx hb dX8_shipsAtSea_25 hl (k := 1) rfl (by decide) (by decide) rfl (fun ls hl => ?_)
      refine lv_goto (tgt := 4) hx hb dX8_shipsAtSea_28 (by decide) ?_
      refine lv_iload_n hx hb dX8_shipsAtSea_4 rfl (lv_at hl 0 rfl) ?_
      refine lv_iconst (v := 5) hx hb dX8_shipsAtSea_5 (by decide) ?_
      refine lv_icmp_ge (tgt := 31) hx hb dX8_shipsAtSea_6 (by decide) (fun c_73 => absurd c_73 (by decide)) (fun c_73 => ?_)
      refine lv_aload_n hx hb dX8_shipsAtSea_9 rfl (lv_at hl 2 rfl) ?_
      refine va_get (D := D) (ci := 8) (v := .ref (xa 4)) (C := RX8) (T := TX8) (N := 14) hx hb htb iX8 hown hK.1 hP 0 rfl rfl 4 (by decide) (htb _ k_276) (fun _ h9 => h9) rfl dX8_shipsAtSea_10 ?_
      refine lv_iload_n hx hb dX8_shipsAtSea_13 rfl (lv_at hl 0 rfl) ?_
      refine va_aldq hx hb hK.1 hP 1 4 rfl rfl (g_in t_2 (by decide) (by decide)) dX8_shipsAtSea_14 ?_
      refine W_top (y := .ref y2h) (congrArg va_rf hq2) ?_
      refine va_getN (D := D) (ci := 5) (v := .int y2stage) (C := RX5) (T := TX5) (N := 11) hx hb htb iX5 hown hK.1 hP 4 rfl rfl 8 (by decide) (va_Nw.use rfl (hK.2.1 (Cond.fieldLinkNest RX8 208 "SeaWatches$Ship" "stage" "I" "SeaWatches") (by decide +kernel))) (fun _ h9 => h9) rfl dX8_shipsAtSea_15 ?_
      refine lv_iconst (v := 1) hx hb dX8_shipsAtSea_18 (by decide) ?_
      refine lv_icmp_ne (tgt := 25) hx hb dX8_shipsAtSea_19 (by decide) (fun c_74 => ?_) (fun c_74 => ?_)
      ·
        have ic_74 : y2stage.toInt ≠ 1 := mt (g_eq rfl t_1).mpr c_74
        clear c_74
        refine lv_iinc (v := 3) (lv' := [(2, .int 3), (1, .int 2), (0, .ref xh)]) hx hb dX8_shipsAtSea_25 hl (k := 0) rfl (by decide) (by decide) rfl (fun ls hl => ?_)
        refine lv_goto (tgt := 4) hx hb dX8_shipsAtSea_28 (by decide) ?_
        refine lv_iload_n hx hb dX8_shipsAtSea_4 rfl (lv_at hl 0 rfl) ?_
        refine lv_iconst (v := 5) hx hb dX8_shipsAtSea_5 (by decide) ?_
        refine lv_icmp_ge (tgt := 31) hx hb dX8_shipsAtSea_6 (by decide) (fun c_75 => absurd c_75 (by decide)) (fun c_75 => ?_)
        refine lv_aload_n hx hb dX8_shipsAtSea_9 rfl (lv_at hl 2 rfl) ?_
        refine va_get (D := D) (ci := 8) (v := .ref (xa 4)) (C := RX8) (T := TX8) (N := 14) hx hb htb iX8 hown hK.1 hP 0 rfl rfl 4 (by decide) (htb _ k_276) (fun _ h9 => h9) rfl dX8_shipsAtSea_10 ?_
        refine lv_iload_n hx hb dX8_shipsAtSea_13 rfl (lv_at hl 0 rfl) ?_
        refine va_aldq hx hb hK.1 hP 1 4 rfl rfl (g_in t_3 (by decide) (by decide)) dX8_shipsAtSea_14 ?_
        refine W_top (y := .ref y3h) (congrArg va_rf hq3) ?_
        refine va_getN (D := D) (ci := 5) (v := .int y3stage) (C := RX5) (T := TX5) (N := 11) hx hb htb iX5 hown hK.1 hP 5 rfl rfl 8 (by decide) (va_Nw.use rfl (hK.2.1 (Cond.fieldLinkNest RX8 208 "SeaWatches$Ship" "stage" "I" "SeaWatches") (by decide +kernel))) (fun _ h9 => h9) rfl dX8_shipsAtSea_15 ?_
        refine lv_iconst (v := 1) hx hb dX8_shipsAtSea_18 (by decide) ?_
        refine lv_icmp_ne (tgt := 25) hx hb dX8_shipsAtSea_19 (by decide) (fun c_76 => ?_) (fun c_76 => ?_)
        ·
          have ic_76 : y3stage.toInt ≠ 1 := mt (g_eq rfl t_1).mpr c_76
          clear c_76
          refine lv_iinc (v := 4) (lv' := [(2, .int 4), (1, .int 2), (0, .ref xh)]) hx hb dX8_shipsAtSea_25 hl (k := 0) rfl (by decide) (by decide) rfl (fun ls hl => ?_)
          refine lv_goto (tgt := 4) hx hb dX8_shipsAtSea_28 (by decide) ?_
          refine lv_iload_n hx hb dX8_shipsAtSea_4 rfl (lv_at hl 0 rfl) ?_
          refine lv_iconst (v := 5) hx hb dX8_shipsAtSea_5 (by decide) ?_
          refine lv_icmp_ge (tgt := 31) hx hb dX8_shipsAtSea_6 (by decide) (fun c_77 => absurd c_77 (by decide)) (fun c_77 => ?_)
          refine lv_aload_n hx hb dX8_shipsAtSea_9 rfl (lv_at hl 2 rfl) ?_
          refine va_get (D := D) (ci := 8) (v := .ref (xa 4)) (C := RX8) (T := TX8) (N := 14) hx hb htb iX8 hown hK.1 hP 0 rfl rfl 4 (by decide) (htb _ k_276) (fun _ h9 => h9) rfl dX8_shipsAtSea_10 ?_
          refine lv_iload_n hx hb dX8_shipsAtSea_13 rfl (lv_at hl 0 rfl) ?_
          refine va_aldq hx hb hK.1 hP 1 4 rfl rfl (g_in t_4 (by decide) (by decide)) dX8_shipsAtSea_14 ?_
          refine W_top (y := .ref y4h) (congrArg va_rf hq4) ?_
          refine va_getN (D := D) (ci := 5) (v := .int y4stage) (C := RX5) (T := TX5) (N := 11) hx hb htb iX5 hown hK.1 hP 6 rfl rfl 8 (by decide) (va_Nw.use rfl (hK.2.1 (Cond.fieldLinkNest RX8 208 "SeaWatches$Ship" "stage" "I" "SeaWatches") (by decide +kernel))) (fun _ h9 => h9) rfl dX8_shipsAtSea_15 ?_
          refine lv_iconst (v := 1) hx hb dX8_shipsAtSea_18 (by decide) ?_
          refine lv_icmp_ne (tgt := 25) hx hb dX8_shipsAtSea_19 (by decide) (fun c_78 => ?_) (fun c_78 => ?_)
          ·
            have ic_78 : y4stage.toInt ≠ 1 := mt (g_eq rfl t_1).mpr c_78
            clear c_78
            refine lv_iinc (v := 5) (lv' := [(2, .int 5), (1, .int 2), (0, .ref xh)]) hx hb dX8_shipsAtSea_25 hl (k := 0) rfl (by decide) (by decide) rfl (fun ls hl => ?_)
            refine lv_goto (tgt := 4) hx hb dX8_shipsAtSea_28 (by decide) ?_
            refine lv_iload_n hx hb dX8_shipsAtSea_4 rfl (lv_at hl 0 rfl) ?_
            refine lv_iconst (v := 5) hx hb dX8_shipsAtSea_5 (by decide) ?_
            refine lv_icmp_ge (tgt := 31) hx hb dX8_shipsAtSea_6 (by decide) (fun c_79 => ?_) (fun c_79 => absurd (by decide) c_79)
            refine lv_iload_n hx hb dX8_shipsAtSea_31 rfl (lv_at hl 1 rfl) ?_
            exact W.iret (v := 2) hx hb hr (fun t ht hW => ⟨2, rfl, (by have hl := t_2; (repeat' split) <;> omega), ht⟩) (fun q h => by cases h) dX8_shipsAtSea_32
          ·
            have ic_78 : y4stage.toInt = 1 := (g_eq rfl t_1).mp c_78
            clear c_78
            refine lv_iinc (v := 3) (lv' := [(1, .int 3), (2, .int 4), (0, .ref xh)]) hx hb dX8_shipsAtSea_22 hl (k := 1) rfl (by decide) (by decide) rfl (fun ls hl => ?_)
            refine lv_iinc (v := 5) (lv' := [(2, .int 5), (1, .int 3), (0, .ref xh)]) hx hb dX8_shipsAtSea_25 hl (k := 1) rfl (by decide) (by decide) rfl (fun ls hl => ?_)
            refine lv_goto (tgt := 4) hx hb dX8_shipsAtSea_28 (by decide) ?_
            refine lv_iload_n hx hb dX8_shipsAtSea_4 rfl (lv_at hl 0 rfl) ?_
            refine lv_iconst (v := 5) hx hb dX8_shipsAtSea_5 (by decide) ?_
            refine lv_icmp_ge (tgt := 31) hx hb dX8_shipsAtSea_6 (by decide) (fun c_80 => ?_) (fun c_80 => absurd (by decide) c_80)
            refine lv_iload_n hx hb dX8_shipsAtSea_31 rfl (lv_at hl 1 rfl) ?_
            exact W.iret (v := 3) hx hb hr (fun t ht hW => ⟨3, rfl, (by have hl := t_3; (repeat' split) <;> omega), ht⟩) (fun q h => by cases h) dX8_shipsAtSea_32
        ·
          have ic_76 : y3stage.toInt = 1 := (g_eq rfl t_1).mp c_76
          clear c_76
          refine lv_iinc (v := 3) (lv' := [(1, .int 3), (2, .int 3), (0, .ref xh)]) hx hb dX8_shipsAtSea_22 hl (k := 1) rfl (by decide) (by decide) rfl (fun ls hl => ?_)
          refine lv_iinc (v := 4) (lv' := [(2, .int 4), (1, .int 3), (0, .ref xh)]) hx hb dX8_shipsAtSea_25 hl (k := 1) rfl (by decide) (by decide) rfl (fun ls hl => ?_)
          refine lv_goto (tgt := 4) hx hb dX8_shipsAtSea_28 (by decide) ?_
          refine lv_iload_n hx hb dX8_shipsAtSea_4 rfl (lv_at hl 0 rfl) ?_
          refine lv_iconst (v := 5) hx hb dX8_shipsAtSea_5 (by decide) ?_
          refine lv_icmp_ge (tgt := 31) hx hb dX8_shipsAtSea_6 (by decide) (fun c_81 => absurd c_81 (by decide)) (fun c_81 => ?_)
          refine lv_aload_n hx hb dX8_shipsAtSea_9 rfl (lv_at hl 2 rfl) ?_
          refine va_get (D := D) (ci := 8) (v := .ref (xa 4)) (C := RX8) (T := TX8) (N := 14) hx hb htb iX8 hown hK.1 hP 0 rfl rfl 4 (by decide) (htb _ k_276) (fun _ h9 => h9) rfl dX8_shipsAtSea_10 ?_
          refine lv_iload_n hx hb dX8_shipsAtSea_13 rfl (lv_at hl 0 rfl) ?_
          refine va_aldq hx hb hK.1 hP 1 4 rfl rfl (g_in t_4 (by decide) (by decide)) dX8_shipsAtSea_14 ?_
          refine W_top (y := .ref y4h) (congrArg va_rf hq4) ?_
          refine va_getN (D := D) (ci := 5) (v := .int y4stage) (C := RX5) (T := TX5) (N := 11) hx hb htb iX5 hown hK.1 hP 6 rfl rfl 8 (by decide) (va_Nw.use rfl (hK.2.1 (Cond.fieldLinkNest RX8 208 "SeaWatches$Ship" "stage" "I" "SeaWatches") (by decide +kernel))) (fun _ h9 => h9) rfl dX8_shipsAtSea_15 ?_
          refine lv_iconst (v := 1) hx hb dX8_shipsAtSea_18 (by decide) ?_
          refine lv_icmp_ne (tgt := 25) hx hb dX8_shipsAtSea_19 (by decide) (fun c_82 => ?_) (fun c_82 => ?_)
          ·
            have ic_82 : y4stage.toInt ≠ 1 := mt (g_eq rfl t_1).mpr c_82
            clear c_82
            refine lv_iinc (v := 5) (lv' := [(2, .int 5), (1, .int 3), (0, .ref xh)]) hx hb dX8_shipsAtSea_25 hl (k := 0) rfl (by decide) (by decide) rfl (fun ls hl => ?_)
            refine lv_goto (tgt := 4) hx hb dX8_shipsAtSea_28 (by decide) ?_
            refine lv_iload_n hx hb dX8_shipsAtSea_4 rfl (lv_at hl 0 rfl) ?_
            refine lv_iconst (v := 5) hx hb dX8_shipsAtSea_5 (by decide) ?_
            refine lv_icmp_ge (tgt := 31) hx hb dX8_shipsAtSea_6 (by decide) (fun c_83 => ?_) (fun c_83 => absurd (by decide) c_83)
            refine lv_iload_n hx hb dX8_shipsAtSea_31 rfl (lv_at hl 1 rfl) ?_
            exact W.iret (v := 3) hx hb hr (fun t ht hW => ⟨3, rfl, (by have hl := t_3; (repeat' split) <;> omega), ht⟩) (fun q h => by cases h) dX8_shipsAtSea_32
          ·
            have ic_82 : y4stage.toInt = 1 := (g_eq rfl t_1).mp c_82
            clear c_82
            refine lv_iinc (v := 4) (lv' := [(1, .int 4), (2, .int 4), (0, .ref xh)]) hx hb dX8_shipsAtSea_22 hl (k := 1) rfl (by decide) (by decide) rfl (fun ls hl => ?_)
            refine lv_iinc (v := 5) (lv' := [(2, .int 5), (1, .int 4), (0, .ref xh)]) hx hb dX8_shipsAtSea_25 hl (k := 1) rfl (by decide) (by decide) rfl (fun ls hl => ?_)
            refine lv_goto (tgt := 4) hx hb dX8_shipsAtSea_28 (by decide) ?_
            refine lv_iload_n hx hb dX8_shipsAtSea_4 rfl (lv_at hl 0 rfl) ?_
            refine lv_iconst (v := 5) hx hb dX8_shipsAtSea_5 (by decide) ?_
            refine lv_icmp_ge (tgt := 31) hx hb dX8_shipsAtSea_6 (by decide) (fun c_84 => ?_) (fun c_84 => absurd (by decide) c_84)
            refine lv_iload_n hx hb dX8_shipsAtSea_31 rfl (lv_at hl 1 rfl) ?_
            exact W.iret (v := 4) hx hb hr (fun t ht hW => ⟨4, rfl, (by have hl := t_4; (repeat' split) <;> omega), ht⟩) (fun q h => by cases h) dX8_shipsAtSea_32
      ·
        have ic_74 : y2stage.toInt = 1 := (g_eq rfl t_1).mp c_74
        clear c_74
        refine lv_iinc (v := 3) (lv' := [(1, .int 3), (2, .int 2), (0, .ref xh)]) hx hb dX8_shipsAtSea_22 hl (k := 1) rfl (by decide) (by decide) rfl (fun ls hl => ?_)
        refine lv_iinc (v := 3) (lv' := [(2, .int 3), (1, .int 3), (0, .ref xh)]) hx hb dX8_shipsAtSea_25 hl (k := 1) rfl (by decide) (by decide) rfl (fun ls hl => ?_)
        refine lv_goto (tgt := 4) hx hb dX8_shipsAtSea_28 (by decide) ?_
        refine lv_iload_n hx hb dX8_shipsAtSea_4 rfl (lv_at hl 0 rfl) ?_
        refine lv_iconst (v := 5) hx hb dX8_shipsAtSea_5 (by decide) ?_
        refine lv_icmp_ge (tgt := 31) hx hb dX8_shipsAtSea_6 (by decide) (fun c_85 => absurd c_85 (by decide)) (fun c_85 => ?_)
        refine lv_aload_n hx hb dX8_shipsAtSea_9 rfl (lv_at hl 2 rfl) ?_
        refine va_get (D := D) (ci := 8) (v := .ref (xa 4)) (C := RX8) (T := TX8) (N := 14) hx hb htb iX8 hown hK.1 hP 0 rfl rfl 4 (by decide) (htb _ k_276) (fun _ h9 => h9) rfl dX8_shipsAtSea_10 ?_
        refine lv_iload_n hx hb dX8_shipsAtSea_13 rfl (lv_at hl 0 rfl) ?_
        refine va_aldq hx hb hK.1 hP 1 4 rfl rfl (g_in t_3 (by decide) (by decide)) dX8_shipsAtSea_14 ?_
        refine W_top (y := .ref y3h) (congrArg va_rf hq3) ?_
        refine va_getN (D := D) (ci := 5) (v := .int y3stage) (C := RX5) (T := TX5) (N := 11) hx hb htb iX5 hown hK.1 hP 5 rfl rfl 8 (by decide) (va_Nw.use rfl (hK.2.1 (Cond.fieldLinkNest RX8 208 "SeaWatches$Ship" "stage" "I" "SeaWatches") (by decide +kernel))) (fun _ h9 => h9) rfl dX8_shipsAtSea_15 ?_
        refine lv_iconst (v := 1) hx hb dX8_shipsAtSea_18 (by decide) ?_
        refine lv_icmp_ne (tgt := 25) hx hb dX8_shipsAtSea_19 (by decide) (fun c_86 => ?_) (fun c_86 => ?_)
        ·
          have ic_86 : y3stage.toInt ≠ 1 := mt (g_eq rfl t_1).mpr c_86
          clear c_86
          refine lv_iinc (v := 4) (lv' := [(2, .int 4), (1, .int 3), (0, .ref xh)]) hx hb dX8_shipsAtSea_25 hl (k := 0) rfl (by decide) (by decide) rfl (fun ls hl => ?_)
          refine lv_goto (tgt := 4) hx hb dX8_shipsAtSea_28 (by decide) ?_
          refine lv_iload_n hx hb dX8_shipsAtSea_4 rfl (lv_at hl 0 rfl) ?_
          refine lv_iconst (v := 5) hx hb dX8_shipsAtSea_5 (by decide) ?_
          refine lv_icmp_ge (tgt := 31) hx hb dX8_shipsAtSea_6 (by decide) (fun c_87 => absurd c_87 (by decide)) (fun c_87 => ?_)
          refine lv_aload_n hx hb dX8_shipsAtSea_9 rfl (lv_at hl 2 rfl) ?_
          refine va_get (D := D) (ci := 8) (v := .ref (xa 4)) (C := RX8) (T := TX8) (N := 14) hx hb htb iX8 hown hK.1 hP 0 rfl rfl 4 (by decide) (htb _ k_276) (fun _ h9 => h9) rfl dX8_shipsAtSea_10 ?_
          refine lv_iload_n hx hb dX8_shipsAtSea_13 rfl (lv_at hl 0 rfl) ?_
          refine va_aldq hx hb hK.1 hP 1 4 rfl rfl (g_in t_4 (by decide) (by decide)) dX8_shipsAtSea_14 ?_
          refine W_top (y := .ref y4h) (congrArg va_rf hq4) ?_
          refine va_getN (D := D) (ci := 5) (v := .int y4stage) (C := RX5) (T := TX5) (N := 11) hx hb htb iX5 hown hK.1 hP 6 rfl rfl 8 (by decide) (va_Nw.use rfl (hK.2.1 (Cond.fieldLinkNest RX8 208 "SeaWatches$Ship" "stage" "I" "SeaWatches") (by decide +kernel))) (fun _ h9 => h9) rfl dX8_shipsAtSea_15 ?_
          refine lv_iconst (v := 1) hx hb dX8_shipsAtSea_18 (by decide) ?_
          refine lv_icmp_ne (tgt := 25) hx hb dX8_shipsAtSea_19 (by decide) (fun c_88 => ?_) (fun c_88 => ?_)
          ·
            have ic_88 : y4stage.toInt ≠ 1 := mt (g_eq rfl t_1).mpr c_88
            clear c_88
            refine lv_iinc (v := 5) (lv' := [(2, .int 5), (1, .int 3), (0, .ref xh)]) hx hb dX8_shipsAtSea_25 hl (k := 0) rfl (by decide) (by decide) rfl (fun ls hl => ?_)
            refine lv_goto (tgt := 4) hx hb dX8_shipsAtSea_28 (by decide) ?_
            refine lv_iload_n hx hb dX8_shipsAtSea_4 rfl (lv_at hl 0 rfl) ?_
            refine lv_iconst (v := 5) hx hb dX8_shipsAtSea_5 (by decide) ?_
            refine lv_icmp_ge (tgt := 31) hx hb dX8_shipsAtSea_6 (by decide) (fun c_89 => ?_) (fun c_89 => absurd (by decide) c_89)
            refine lv_iload_n hx hb dX8_shipsAtSea_31 rfl (lv_at hl 1 rfl) ?_
            exact W.iret (v := 3) hx hb hr (fun t ht hW => ⟨3, rfl, (by have hl := t_3; (repeat' split) <;> omega), ht⟩) (fun q h => by cases h) dX8_shipsAtSea_32
          ·
            have ic_88 : y4stage.toInt = 1 := (g_eq rfl t_1).mp c_88
            clear c_88
            refine lv_iinc (v := 4) (lv' := [(1, .int 4), (2, .int 4), (0, .ref xh)]) hx hb dX8_shipsAtSea_22 hl (k := 1) rfl (by decide) (by decide) rfl (fun ls hl => ?_)
            refine lv_iinc (v := 5) (lv' := [(2, .int 5), (1, .int 4), (0, .ref xh)]) hx hb dX8_shipsAtSea_25 hl (k := 1) rfl (by decide) (by decide) rfl (fun ls hl => ?_)
            refine lv_goto (tgt := 4) hx hb dX8_shipsAtSea_28 (by decide) ?_
            refine lv_iload_n hx hb dX8_shipsAtSea_4 rfl (lv_at hl 0 rfl) ?_
            refine lv_iconst (v := 5) hx hb dX8_shipsAtSea_5 (by decide) ?_
            refine lv_icmp_ge (tgt := 31) hx hb dX8_shipsAtSea_6 (by decide) (fun c_90 => ?_) (fun c_90 => absurd (by decide) c_90)
            refine lv_iload_n hx hb dX8_shipsAtSea_31 rfl (lv_at hl 1 rfl) ?_
            exact W.iret (v := 4) hx hb hr (fun t ht hW => ⟨4, rfl, (by have hl := t_4; (repeat' split) <;> omega), ht⟩) (fun q h => by cases h) dX8_shipsAtSea_32
        ·
          have ic_86 : y3stage.toInt = 1 := (g_eq rfl t_1).mp c_86
          clear c_86
          refine lv_iinc (v := 4) (lv' := [(1, .int 4), (2, .int 3), (0, .ref xh)]) hx hb dX8_shipsAtSea_22 hl (k := 1) rfl (by decide) (by decide) rfl (fun ls hl => ?_)
          refine lv_iinc (v := 4) (lv' := [(2, .int 4), (1, .int 4), (0, .ref xh)]) hx hb dX8_shipsAtSea_25 hl (k := 1) rfl (by decide) (by decide) rfl (fun ls hl => ?_)
          refine lv_goto (tgt := 4) hx hb dX8_shipsAtSea_28 (by decide) ?_
          refine lv_iload_n hx hb dX8_shipsAtSea_4 rfl (lv_at hl 0 rfl) ?_
          refine lv_iconst (v := 5) hx hb dX8_shipsAtSea_5 (by decide) ?_
          refine lv_icmp_ge (tgt := 31) hx hb dX8_shipsAtSea_6 (by decide) (fun c_91 => absurd c_91 (by decide)) (fun c_91 => ?_)
          refine lv_aload_n hx hb dX8_shipsAtSea_9 rfl (lv_at hl 2 rfl) ?_
          refine va_get (D := D) (ci := 8) (v := .ref (xa 4)) (C := RX8) (T := TX8) (N := 14) hx hb htb iX8 hown hK.1 hP 0 rfl rfl 4 (by decide) (htb _ k_276) (fun _ h9 => h9) rfl dX8_shipsAtSea_10 ?_
          refine lv_iload_n hx hb dX8_shipsAtSea_13 rfl (lv_at hl 0 rfl) ?_
          refine va_aldq hx hb hK.1 hP 1 4 rfl rfl (g_in t_4 (by decide) (by decide)) dX8_shipsAtSea_14 ?_
          refine W_top (y := .ref y4h) (congrArg va_rf hq4) ?_
          refine va_getN (D := D) (ci := 5) (v := .int y4stage) (C := RX5) (T := TX5) (N := 11) hx hb htb iX5 hown hK.1 hP 6 rfl rfl 8 (by decide) (va_Nw.use rfl (hK.2.1 (Cond.fieldLinkNest RX8 208 "SeaWatches$Ship" "stage" "I" "SeaWatches") (by decide +kernel))) (fun _ h9 => h9) rfl dX8_shipsAtSea_15 ?_
          refine lv_iconst (v := 1) hx hb dX8_shipsAtSea_18 (by decide) ?_
          refine lv_icmp_ne (tgt := 25) hx hb dX8_shipsAtSea_19 (by decide) (fun c_92 => ?_) (fun c_92 => ?_)
          ·
            have ic_92 : y4stage.toInt ≠ 1 := mt (g_eq rfl t_1).mpr c_92
            clear c_92
            refine lv_iinc (v := 5) (lv' := [(2, .int 5), (1, .int 4), (0, .ref xh)]) hx hb dX8_shipsAtSea_25 hl (k := 0) rfl (by decide) (by decide) rfl (fun ls hl => ?_)
            refine lv_goto (tgt := 4) hx hb dX8_shipsAtSea_28 (by decide) ?_
            refine lv_iload_n hx hb dX8_shipsAtSea_4 rfl (lv_at hl 0 rfl) ?_
            refine lv_iconst (v := 5) hx hb dX8_shipsAtSea_5 (by decide) ?_
            refine lv_icmp_ge (tgt := 31) hx hb dX8_shipsAtSea_6 (by decide) (fun c_93 => ?_) (fun c_93 => absurd (by decide) c_93)
            refine lv_iload_n hx hb dX8_shipsAtSea_31 rfl (lv_at hl 1 rfl) ?_
            exact W.iret (v := 4) hx hb hr (fun t ht hW => ⟨4, rfl, (by have hl := t_4; (repeat' split) <;> omega), ht⟩) (fun q h => by cases h) dX8_shipsAtSea_32
          ·
            have ic_92 : y4stage.toInt = 1 := (g_eq rfl t_1).mp c_92
            clear c_92
            refine lv_iinc (v := 5) (lv' := [(1, .int 5), (2, .int 4), (0, .ref xh)]) hx hb dX8_shipsAtSea_22 hl (k := 1) rfl (by decide) (by decide) rfl (fun ls hl => ?_)
            refine lv_iinc (v := 5) (lv' := [(2, .int 5), (1, .int 5), (0, .ref xh)]) hx hb dX8_shipsAtSea_25 hl (k := 1) rfl (by decide) (by decide) rfl (fun ls hl => ?_)
            refine lv_goto (tgt := 4) hx hb dX8_shipsAtSea_28 (by decide) ?_
            refine lv_iload_n hx hb dX8_shipsAtSea_4 rfl (lv_at hl 0 rfl) ?_
            refine lv_iconst (v := 5) hx hb dX8_shipsAtSea_5 (by decide) ?_
            refine lv_icmp_ge (tgt := 31) hx hb dX8_shipsAtSea_6 (by decide) (fun c_94 => ?_) (fun c_94 => absurd (by decide) c_94)
            refine lv_iload_n hx hb dX8_shipsAtSea_31 rfl (lv_at hl 1 rfl) ?_
            exact W.iret (v := 5) hx hb hr (fun t ht hW => ⟨5, rfl, (by have hl := t_5; (repeat' split) <;> omega), ht⟩) (fun q h => by cases h) dX8_shipsAtSea_32
end
section
set_option maxHeartbeats 4000000 in
set_option maxRecDepth 100000 in
theorem g_X8_days (l : Launch) (D : va_G) (E : Nat → Nat) (xh : Nat) (xa : Nat → Nat) (xtrialRule : Nat) (xdropRule : Nat) (xtoday : Int32) (p0 : Int32) (sz : Nat) (hi_x : (0 ≤ xtoday.toInt ∧ xtoday.toInt ≤ 399)) : Met l yX8_days (wl yX8_days cX8_days 2 (some .int)) (RM 0 0 0) (mu_P D E [.ref xh, .int p0] [(xh, .inr (8, G8 xa xtrialRule xdropRule xtoday))] sz) (va_Qi (fun (r : Int32) (u : (Int32)) => (0 ≤ u.toInt ∧ u.toInt ≤ 399) ∧ (((1 ≤ p0.toInt ∧ p0.toInt ≤ 100 ∧ xtoday.toInt + p0.toInt ≤ 399) ∧ r.toInt = xtoday.toInt + p0.toInt ∧ u.toInt = r.toInt) ∨ (¬ (1 ≤ p0.toInt ∧ p0.toInt ≤ 100 ∧ xtoday.toInt + p0.toInt ≤ 399) ∧ r.toInt = -1 ∧ u.toInt = xtoday.toInt))) (mu_B D (va_A [(xh, .inr (8, G8 xa xtrialRule xdropRule xtoday))] sz) (fun (u : (Int32)) => [(xh, .inr (8, G8 xa xtrialRule xdropRule u))])) (va_A [(xh, .inr (8, G8 xa xtrialRule xdropRule xtoday))] sz)) 0 0 (va_A [(xh, .inr (8, G8 xa xtrialRule xdropRule xtoday))] sz) := by
  refine Met.ofW (cc := cX8_days) (maxL := 2) (ret := (some .int)) (by decide) rfl ?_
  intro p e s m args below meth c s₁ B hml hv
  obtain ⟨rfl, hsz, hP, hK, hD0⟩ := hv
  have hx := B.exec; have hb := B.bytes; have hr := B.returns
  have hts := atoms_spec (ws := wl yX8_days cX8_days 2 (some .int)) B.pre
  have htb : ∀ w ∈ tb, w.before _ s = true := fun w h => hts w (List.mem_cons_of_mem _ h)
  have hown : s.vm.findClass RX8 = some m.cls := findClass_of_methodNamed B.named
  have hlocks := B.notSynchronized
  subst hsz
  have hD := hD0.self (sz := s.heap.size)
  generalize hAe : va_A [(xh, .inr (8, G8 xa xtrialRule xdropRule xtoday))] s.heap.size = A at hD ⊢
  have hA : ∀ q : Nat, s.heap.size ≤ q → A q := fun q h => by rw [← hAe]; exact Or.inr h
  have hS : va_S A s.heap s.heap [] := va_S.rf
  have hP : va_P D vwCl [(xh, .inr (8, G8 xa xtrialRule xdropRule xtoday))] s.heap := hP
  have hl := lv_entry ([.ref xh, .int p0]) (n := 2) (Nat.le_of_ble_eq_true rfl)
  rw [lg_entry_eq]
  generalize (lg_sl ([.ref xh, .int p0]) ++ List.replicate (2 - (lg_sl ([.ref xh, .int p0])).length) Slot.unset).toArray = ls at hl ⊢
  have hl : lv_has ls 2 [(0, .ref xh), (1, .int p0)] := hl
  have lo_p0 := i_lo p0; have hi_p0 := i_hi p0
  refine lv_iload_n hx hb dX8_days_0 rfl (lv_at hl 1 rfl) ?_
  refine lv_iconst (v := 1) hx hb dX8_days_1 (by decide) ?_
  refine lv_icmp_lt (tgt := 23) hx hb dX8_days_2 (by decide) (fun c_1 => ?_) (fun c_1 => ?_)
  ·
    have ic_1 : p0.toInt < 1 := by first | exact (g_lt rfl t_1).mp c_1 | (have h := mt (g_le t_1 rfl).mpr c_1; omega)
    clear c_1
    refine lv_iconst (v := (-1)) hx hb dX8_days_23 (by decide) ?_
    have hP9 := hP.sub (ws' := [(xh, .inr (8, G8 xa xtrialRule xdropRule xtoday))]) [0] rfl
    have hD9 := hD.sub (ws' := [(xh, .inr (8, G8 xa xtrialRule xdropRule xtoday))]) [0] (by decide) rfl
    exact W.iret (v := (-1)) hx hb hr (fun t ht hW => ⟨⟨(-1), xtoday, rfl, ⟨(by (try dsimp only); omega), (by have h0 := t_m1; (try dsimp only); omega)⟩, by rw [ht]; exact hP9, hD9⟩, hS.F ht⟩) hS.2.2 dX8_days_24
  ·
    have ic_1 : 1 ≤ p0.toInt := by first | exact (g_le t_1 rfl).mp c_1 | (have h := mt (g_lt rfl t_1).mpr c_1; omega)
    clear c_1
    refine lv_iload_n hx hb dX8_days_5 rfl (lv_at hl 1 rfl) ?_
    refine lv_bipush (v := 100) hx hb dX8_days_6 (by decide) ?_
    refine lv_icmp_gt (tgt := 23) hx hb dX8_days_8 (by decide) (fun c_2 => ?_) (fun c_2 => ?_)
    ·
      have ic_2 : 100 < p0.toInt := by first | exact (g_lt t_100 rfl).mp c_2 | (have h := mt (g_le rfl t_100).mpr c_2; omega)
      clear c_2
      refine lv_iconst (v := (-1)) hx hb dX8_days_23 (by decide) ?_
      have hP9 := hP.sub (ws' := [(xh, .inr (8, G8 xa xtrialRule xdropRule xtoday))]) [0] rfl
      have hD9 := hD.sub (ws' := [(xh, .inr (8, G8 xa xtrialRule xdropRule xtoday))]) [0] (by decide) rfl
      exact W.iret (v := (-1)) hx hb hr (fun t ht hW => ⟨⟨(-1), xtoday, rfl, ⟨(by (try dsimp only); omega), (by have h0 := t_m1; (try dsimp only); omega)⟩, by rw [ht]; exact hP9, hD9⟩, hS.F ht⟩) hS.2.2 dX8_days_24
    ·
      have ic_2 : p0.toInt ≤ 100 := by first | exact (g_le rfl t_100).mp c_2 | (have h := mt (g_lt t_100 rfl).mpr c_2; omega)
      clear c_2
      refine lv_aload_n hx hb dX8_days_11 rfl (lv_at hl 0 rfl) ?_
      refine va_get (D := D) (ci := 8) (v := .int xtoday) (C := RX8) (T := TX8) (N := 14) hx hb htb iX8 hown hK.1 hP 0 rfl rfl 13 (by decide) (htb _ k_285) (fun _ h9 => h9) rfl dX8_days_12 ?_
      refine lv_iload_n hx hb dX8_days_15 rfl (lv_at hl 1 rfl) ?_
      refine lv_iadd hx hb dX8_days_16 ?_
      refine lv_topi (fun z_3 ez_3 => ?_)
      have jz_3 : z_3.toInt = xtoday.toInt + p0.toInt := by rw [ez_3]; exact g_add rfl rfl (by omega) (by omega)
      refine lv_sipush (v := 400) hx hb dX8_days_17 (by decide) ?_
      refine lv_icmp_lt (tgt := 25) hx hb dX8_days_20 (by decide) (fun c_4 => ?_) (fun c_4 => ?_)
      ·
        have ic_4 : z_3.toInt < 400 := by first | exact (g_lt rfl t_400).mp c_4 | (have h := mt (g_le t_400 rfl).mpr c_4; omega)
        clear c_4
        refine lv_aload_n hx hb dX8_days_25 rfl (lv_at hl 0 rfl) ?_
        refine lv_dup hx hb dX8_days_26 rfl ?_
        refine va_get (D := D) (ci := 8) (v := .int xtoday) (C := RX8) (T := TX8) (N := 14) hx hb htb iX8 hown hK.1 hP 0 rfl rfl 13 (by decide) (htb _ k_285) (fun _ h9 => h9) rfl dX8_days_27 ?_
        refine lv_iload_n hx hb dX8_days_30 rfl (lv_at hl 1 rfl) ?_
        refine lv_iadd hx hb dX8_days_31 ?_
        refine lv_topi (fun z_5 ez_5 => ?_)
        have jz_5 : z_5.toInt = xtoday.toInt + p0.toInt := by rw [ez_5]; exact g_add rfl rfl (by omega) (by omega)
        refine va_put (D := D) (ci := 8) (v := .int z_5) (ty := .int) (C := RX8) (T := TX8) (N := 14) hx hb htb iX8 tyX8 tyX8_ok nmX8 hown hK.1 hP hD hS 0 rfl rfl 13 (by decide) (htb _ k_285) (fun _ h9 => h9) rfl (by decide +kernel) rfl rfl (Nat.le_of_ble_eq_true rfl) dX8_days_32 (fun H locs hP hD hS => ?_)
        have hP : va_P D vwCl [(xh, .inr (8, G8 xa xtrialRule xdropRule z_5))] H := hP
        have hD := toW hP hD rfl
        refine lv_aload_n hx hb dX8_days_35 rfl (lv_at hl 0 rfl) ?_
        refine va_get (D := D) (ci := 8) (v := .int z_5) (C := RX8) (T := TX8) (N := 14) hx hb htb iX8 hown hK.1 hP 0 rfl rfl 13 (by decide) (htb _ k_285) (fun _ h9 => h9) rfl dX8_days_36 ?_
        have hP9 := hP.sub (ws' := [(xh, .inr (8, G8 xa xtrialRule xdropRule z_5))]) [0] rfl
        have hD9 := hD.sub (ws' := [(xh, .inr (8, G8 xa xtrialRule xdropRule z_5))]) [0] (by decide) rfl
        exact W.iret (v := z_5) hx hb hr (fun t ht hW => ⟨⟨z_5, z_5, rfl, ⟨(by (try dsimp only); omega), (by (try dsimp only); omega)⟩, by rw [ht]; exact hP9, hD9⟩, hS.F ht⟩) hS.2.2 dX8_days_39
      ·
        have ic_4 : 400 ≤ z_3.toInt := by first | exact (g_le t_400 rfl).mp c_4 | (have h := mt (g_lt rfl t_400).mpr c_4; omega)
        clear c_4
        refine lv_iconst (v := (-1)) hx hb dX8_days_23 (by decide) ?_
        have hP9 := hP.sub (ws' := [(xh, .inr (8, G8 xa xtrialRule xdropRule xtoday))]) [0] rfl
        have hD9 := hD.sub (ws' := [(xh, .inr (8, G8 xa xtrialRule xdropRule xtoday))]) [0] (by decide) rfl
        exact W.iret (v := (-1)) hx hb hr (fun t ht hW => ⟨⟨(-1), xtoday, rfl, ⟨(by (try dsimp only); omega), (by have h0 := t_m1; (try dsimp only); omega)⟩, by rw [ht]; exact hP9, hD9⟩, hS.F ht⟩) hS.2.2 dX8_days_24
set_option maxHeartbeats 4000000 in
set_option maxRecDepth 100000 in
theorem g_X8_warmth (l : Launch) (D : va_G) (E : Nat → Nat) (xh : Nat) (xa : Nat → Nat) (xtrialRule : Nat) (xdropRule : Nat) (xtoday : Int32) (xf0 : Nat → Int32) (p0 : Int32) (p1 : Int32) (sz : Nat) (hi_x : (0 ≤ xtoday.toInt ∧ xtoday.toInt ≤ 399)) : Met l yX8_warmth (wl yX8_warmth cX8_warmth 3 (some .int)) (RM 1 0 0) (mu_P D E [.ref xh, .int p0, .int p1] [(xh, .inr (8, G8 xa xtrialRule xdropRule xtoday)), ((xa 0), .inl (E 0, 400, .inl xf0))] sz) (va_Qi (fun (r : Int32) (u : (Nat → Int32)) => ((r.toInt = 1 ∧ ((0 ≤ p0.toInt ∧ p0.toInt ≤ 399) ∧ (p1.toInt = -100 ∨ (-50 ≤ p1.toInt ∧ p1.toInt ≤ 50))) ∧ u = upd xf0 (p0).toNatClampNeg p1) ∨ (r.toInt = -1 ∧ ¬ ((0 ≤ p0.toInt ∧ p0.toInt ≤ 399) ∧ (p1.toInt = -100 ∨ (-50 ≤ p1.toInt ∧ p1.toInt ≤ 50))) ∧ u = xf0))) (mu_B D (va_A [(xh, .inr (8, G8 xa xtrialRule xdropRule xtoday)), ((xa 0), .inl (E 0, 400, .inl xf0))] sz) (fun (u : (Nat → Int32)) => [(xh, .inr (8, G8 xa xtrialRule xdropRule xtoday)), ((xa 0), .inl (E 0, 400, .inl u))])) (va_A [(xh, .inr (8, G8 xa xtrialRule xdropRule xtoday)), ((xa 0), .inl (E 0, 400, .inl xf0))] sz)) 0 0 (va_A [(xh, .inr (8, G8 xa xtrialRule xdropRule xtoday)), ((xa 0), .inl (E 0, 400, .inl xf0))] sz) := by
  refine Met.ofW (cc := cX8_warmth) (maxL := 3) (ret := (some .int)) (by decide) rfl ?_
  intro p e s m args below meth c s₁ B hml hv
  obtain ⟨rfl, hsz, hP, hK, hD0⟩ := hv
  have hx := B.exec; have hb := B.bytes; have hr := B.returns
  have hts := atoms_spec (ws := wl yX8_warmth cX8_warmth 3 (some .int)) B.pre
  have htb : ∀ w ∈ tb, w.before _ s = true := fun w h => hts w (List.mem_cons_of_mem _ h)
  have hown : s.vm.findClass RX8 = some m.cls := findClass_of_methodNamed B.named
  have hlocks := B.notSynchronized
  subst hsz
  have hD := hD0.self (sz := s.heap.size)
  generalize hAe : va_A [(xh, .inr (8, G8 xa xtrialRule xdropRule xtoday)), ((xa 0), .inl (E 0, 400, .inl xf0))] s.heap.size = A at hD ⊢
  have hA : ∀ q : Nat, s.heap.size ≤ q → A q := fun q h => by rw [← hAe]; exact Or.inr h
  have hS : va_S A s.heap s.heap [] := va_S.rf
  have hP : va_P D vwCl [(xh, .inr (8, G8 xa xtrialRule xdropRule xtoday)), ((xa 0), .inl (E 0, 400, .inl xf0))] s.heap := hP
  have hl := lv_entry ([.ref xh, .int p0, .int p1]) (n := 3) (Nat.le_of_ble_eq_true rfl)
  rw [lg_entry_eq]
  generalize (lg_sl ([.ref xh, .int p0, .int p1]) ++ List.replicate (3 - (lg_sl ([.ref xh, .int p0, .int p1])).length) Slot.unset).toArray = ls at hl ⊢
  have hl : lv_has ls 3 [(0, .ref xh), (1, .int p0), (2, .int p1)] := hl
  have lo_p0 := i_lo p0; have hi_p0 := i_hi p0
  have lo_p1 := i_lo p1; have hi_p1 := i_hi p1
  refine lv_iload_n hx hb dX8_warmth_0 rfl (lv_at hl 1 rfl) ?_
  refine callRS (rest := []) (As := [.int p0]) hx hb hml hown htb hK (g_X8_isDay l D E p0 ) ok_X8_isDay k_323 k_324 k_1 k_325 ⟨(Nat.le_of_ble_eq_true rfl), (Nat.le_of_ble_eq_true rfl)⟩ ⟨(Nat.le_of_ble_eq_true rfl), (Nat.le_of_ble_eq_true rfl)⟩ hl.1 (Nat.le_of_ble_eq_true rfl) rfl rfl dX8_warmth_1 (hP.sub (ws' := ([] : va_W)) [] rfl) (fun r_1 hw_2 => ?_)
  rcases hw_2 with ⟨hr_1, hw_2⟩ | ⟨hr_1, hw_2⟩
  ·
    refine W_top (y := .int 1) (by rw [hr_1]) ?_
    refine lv_if_eq (tgt := 22) hx hb dX8_warmth_4 (by decide) (fun c_4 => absurd c_4 (by decide)) (fun c_4 => ?_)
    refine lv_iload_n hx hb dX8_warmth_7 rfl (lv_at hl 2 rfl) ?_
    refine lv_bipush (v := (-100)) hx hb dX8_warmth_8 (by decide) ?_
    refine lv_icmp_eq (tgt := 24) hx hb dX8_warmth_10 (by decide) (fun c_5 => ?_) (fun c_5 => ?_)
    ·
      have ic_5 : p1.toInt = -100 := (g_eq rfl t_m100).mp c_5
      clear c_5
      refine lv_aload_n hx hb dX8_warmth_24 rfl (lv_at hl 0 rfl) ?_
      refine va_get (D := D) (ci := 8) (v := .ref (xa 0)) (C := RX8) (T := TX8) (N := 14) hx hb htb iX8 hown hK.1 hP 0 rfl rfl 0 (by decide) (htb _ k_272) (fun _ h9 => h9) rfl dX8_warmth_25 ?_
      refine lv_iload_n hx hb dX8_warmth_28 rfl (lv_at hl 1 rfl) ?_
      refine lv_iload_n hx hb dX8_warmth_29 rfl (lv_at hl 2 rfl) ?_
      refine va_iast hx hb hK.1 hP hD hS 1 0 rfl rfl (g_in rfl (by omega) (by omega)) dX8_warmth_30 (fun H locs hP hD hS => ?_)
      have hP : va_P D vwCl [(xh, .inr (8, G8 xa xtrialRule xdropRule xtoday)), ((xa 0), .inl (E 0, 400, .inl (upd xf0 (p0 : Int32).toNatClampNeg p1)))] H := hP
      have hD := toW hP hD rfl
      refine lv_iconst (v := 1) hx hb dX8_warmth_31 (by decide) ?_
      have hP9 := hP.sub (ws' := [(xh, .inr (8, G8 xa xtrialRule xdropRule xtoday)), ((xa 0), .inl (E 0, 400, .inl (upd xf0 (p0 : Int32).toNatClampNeg p1)))]) [0, 1] rfl
      have hD9 := hD.sub (ws' := [(xh, .inr (8, G8 xa xtrialRule xdropRule xtoday)), ((xa 0), .inl (E 0, 400, .inl (upd xf0 (p0 : Int32).toNatClampNeg p1)))]) [0, 1] (by decide) rfl
      exact W.iret (v := 1) hx hb hr (fun t ht hW => ⟨⟨1, (upd xf0 (p0 : Int32).toNatClampNeg p1), rfl, (by have hl0 := t_1; (try dsimp only); first | exact Or.inl ⟨by omega, by omega, rfl⟩ | exact Or.inr ⟨by omega, by omega, rfl⟩), by rw [ht]; exact hP9, hD9⟩, hS.F ht⟩) hS.2.2 dX8_warmth_32
    ·
      have ic_5 : p1.toInt ≠ -100 := mt (g_eq rfl t_m100).mpr c_5
      clear c_5
      refine lv_iload_n hx hb dX8_warmth_13 rfl (lv_at hl 2 rfl) ?_
      refine lv_bipush (v := 50) hx hb dX8_warmth_14 (by decide) ?_
      refine callRS (rest := []) (As := [.int p1, .int 50]) hx hb hml hown htb hK (g_X8_isWithin l D E p1 50 (by decide)) ok_X8_isWithin k_326 k_327 k_1 k_328 ⟨(Nat.le_of_ble_eq_true rfl), (Nat.le_of_ble_eq_true rfl)⟩ ⟨(Nat.le_of_ble_eq_true rfl), (Nat.le_of_ble_eq_true rfl)⟩ hl.1 (Nat.le_of_ble_eq_true rfl) rfl rfl dX8_warmth_16 (hP.sub (ws' := ([] : va_W)) [] rfl) (fun r_6 hw_7 => ?_)
      try simp only [t_50] at hw_7
      rcases hw_7 with ⟨hr_6, hw_7⟩ | ⟨hr_6, hw_7⟩
      ·
        try simp only [t_50] at hw_7
        refine W_top (y := .int 1) (by rw [hr_6]) ?_
        refine lv_if_ne (tgt := 24) hx hb dX8_warmth_19 (by decide) (fun c_9 => ?_) (fun c_9 => absurd c_9 (by decide))
        refine lv_aload_n hx hb dX8_warmth_24 rfl (lv_at hl 0 rfl) ?_
        refine va_get (D := D) (ci := 8) (v := .ref (xa 0)) (C := RX8) (T := TX8) (N := 14) hx hb htb iX8 hown hK.1 hP 0 rfl rfl 0 (by decide) (htb _ k_272) (fun _ h9 => h9) rfl dX8_warmth_25 ?_
        refine lv_iload_n hx hb dX8_warmth_28 rfl (lv_at hl 1 rfl) ?_
        refine lv_iload_n hx hb dX8_warmth_29 rfl (lv_at hl 2 rfl) ?_
        refine va_iast hx hb hK.1 hP hD hS 1 0 rfl rfl (g_in rfl (by omega) (by omega)) dX8_warmth_30 (fun H locs hP hD hS => ?_)
        have hP : va_P D vwCl [(xh, .inr (8, G8 xa xtrialRule xdropRule xtoday)), ((xa 0), .inl (E 0, 400, .inl (upd xf0 (p0 : Int32).toNatClampNeg p1)))] H := hP
        have hD := toW hP hD rfl
        refine lv_iconst (v := 1) hx hb dX8_warmth_31 (by decide) ?_
        have hP9 := hP.sub (ws' := [(xh, .inr (8, G8 xa xtrialRule xdropRule xtoday)), ((xa 0), .inl (E 0, 400, .inl (upd xf0 (p0 : Int32).toNatClampNeg p1)))]) [0, 1] rfl
        have hD9 := hD.sub (ws' := [(xh, .inr (8, G8 xa xtrialRule xdropRule xtoday)), ((xa 0), .inl (E 0, 400, .inl (upd xf0 (p0 : Int32).toNatClampNeg p1)))]) [0, 1] (by decide) rfl
        exact W.iret (v := 1) hx hb hr (fun t ht hW => ⟨⟨1, (upd xf0 (p0 : Int32).toNatClampNeg p1), rfl, (by have hl0 := t_1; (try dsimp only); first | exact Or.inl ⟨by omega, by omega, rfl⟩ | exact Or.inr ⟨by omega, by omega, rfl⟩), by rw [ht]; exact hP9, hD9⟩, hS.F ht⟩) hS.2.2 dX8_warmth_32
      ·
        try simp only [t_50] at hw_7
        refine W_top (y := .int 0) (by rw [hr_6]) ?_
        refine lv_if_ne (tgt := 24) hx hb dX8_warmth_19 (by decide) (fun c_10 => absurd (by decide) c_10) (fun c_10 => ?_)
        refine lv_iconst (v := (-1)) hx hb dX8_warmth_22 (by decide) ?_
        have hP9 := hP.sub (ws' := [(xh, .inr (8, G8 xa xtrialRule xdropRule xtoday)), ((xa 0), .inl (E 0, 400, .inl xf0))]) [0, 1] rfl
        have hD9 := hD.sub (ws' := [(xh, .inr (8, G8 xa xtrialRule xdropRule xtoday)), ((xa 0), .inl (E 0, 400, .inl xf0))]) [0, 1] (by decide) rfl
        exact W.iret (v := (-1)) hx hb hr (fun t ht hW => ⟨⟨(-1), xf0, rfl, (by have hl0 := t_m1; (try dsimp only); first | exact Or.inl ⟨by omega, by omega, rfl⟩ | exact Or.inr ⟨by omega, by omega, rfl⟩), by rw [ht]; exact hP9, hD9⟩, hS.F ht⟩) hS.2.2 dX8_warmth_23
  ·
    refine W_top (y := .int 0) (by rw [hr_1]) ?_
    refine lv_if_eq (tgt := 22) hx hb dX8_warmth_4 (by decide) (fun c_11 => ?_) (fun c_11 => absurd (by decide) c_11)
    refine lv_iconst (v := (-1)) hx hb dX8_warmth_22 (by decide) ?_
    have hP9 := hP.sub (ws' := [(xh, .inr (8, G8 xa xtrialRule xdropRule xtoday)), ((xa 0), .inl (E 0, 400, .inl xf0))]) [0, 1] rfl
    have hD9 := hD.sub (ws' := [(xh, .inr (8, G8 xa xtrialRule xdropRule xtoday)), ((xa 0), .inl (E 0, 400, .inl xf0))]) [0, 1] (by decide) rfl
    exact W.iret (v := (-1)) hx hb hr (fun t ht hW => ⟨⟨(-1), xf0, rfl, (by have hl0 := t_m1; (try dsimp only); first | exact Or.inl ⟨by omega, by omega, rfl⟩ | exact Or.inr ⟨by omega, by omega, rfl⟩), by rw [ht]; exact hP9, hD9⟩, hS.F ht⟩) hS.2.2 dX8_warmth_23
set_option maxHeartbeats 4000000 in
set_option maxRecDepth 100000 in
theorem g_X8_holds (l : Launch) (D : va_G) (E : Nat → Nat) (xh : Nat) (xa : Nat → Nat) (xtrialRule : Nat) (xdropRule : Nat) (xtoday : Int32) (xf1 : Nat → Int32) (p0 : Int32) (hi_x : (0 ≤ xtoday.toInt ∧ xtoday.toInt ≤ 399)) : Met l yX8_holds (wl yX8_holds cX8_holds 2 (some .int)) (RM 1 0 0) (rd_P D E [.ref xh, .int p0] [(xh, .inr (8, G8 xa xtrialRule xdropRule xtoday)), ((xa 1), .inl (E 0, 16, .inl xf1))]) (rd_Q (fun r => (((0 ≤ p0.toInt ∧ p0.toInt ≤ 15) ∧ r = xf1 (p0).toNatClampNeg) ∨ (¬ (0 ≤ p0.toInt ∧ p0.toInt ≤ 15) ∧ r.toInt = -1)))) 0 0 (fun _ => False) := by
  refine Met.ofW (cc := cX8_holds) (maxL := 2) (ret := (some .int)) (by decide) rfl ?_
  intro p e s m args below meth c s₁ B hml hv
  obtain ⟨rfl, hP, hK⟩ := hv
  have hx := B.exec; have hb := B.bytes; have hr := B.returns
  have hts := atoms_spec (ws := wl yX8_holds cX8_holds 2 (some .int)) B.pre
  have htb : ∀ w ∈ tb, w.before _ s = true := fun w h => hts w (List.mem_cons_of_mem _ h)
  have hown : s.vm.findClass RX8 = some m.cls := findClass_of_methodNamed B.named
  have hlocks := B.notSynchronized
  have hP : va_P D vwCl [(xh, .inr (8, G8 xa xtrialRule xdropRule xtoday)), ((xa 1), .inl (E 0, 16, .inl xf1))] s.heap := hP
  have hl := lv_entry ([.ref xh, .int p0]) (n := 2) (Nat.le_of_ble_eq_true rfl)
  rw [lg_entry_eq]
  generalize (lg_sl ([.ref xh, .int p0]) ++ List.replicate (2 - (lg_sl ([.ref xh, .int p0])).length) Slot.unset).toArray = ls at hl ⊢
  have hl : lv_has ls 2 [(0, .ref xh), (1, .int p0)] := hl
  have lo_p0 := i_lo p0; have hi_p0 := i_hi p0
  refine lv_iload_n hx hb dX8_holds_0 rfl (lv_at hl 1 rfl) ?_
  refine callRS (rest := []) (As := [.int p0]) hx hb hml hown htb hK (g_X8_isPlace l D E p0 ) ok_X8_isPlace k_333 k_334 k_1 k_335 ⟨(Nat.le_of_ble_eq_true rfl), (Nat.le_of_ble_eq_true rfl)⟩ ⟨(Nat.le_of_ble_eq_true rfl), (Nat.le_of_ble_eq_true rfl)⟩ hl.1 (Nat.le_of_ble_eq_true rfl) rfl rfl dX8_holds_1 (hP.sub (ws' := ([] : va_W)) [] rfl) (fun r_1 hw_2 => ?_)
  rcases hw_2 with ⟨hr_1, hw_2⟩ | ⟨hr_1, hw_2⟩
  ·
    refine W_top (y := .int 1) (by rw [hr_1]) ?_
    refine lv_if_eq (tgt := 16) hx hb dX8_holds_4 (by decide) (fun c_4 => absurd c_4 (by decide)) (fun c_4 => ?_)
    refine lv_aload_n hx hb dX8_holds_7 rfl (lv_at hl 0 rfl) ?_
    refine va_get (D := D) (ci := 8) (v := .ref (xa 1)) (C := RX8) (T := TX8) (N := 14) hx hb htb iX8 hown hK.1 hP 0 rfl rfl 1 (by decide) (htb _ k_273) (fun _ h9 => h9) rfl dX8_holds_8 ?_
    refine lv_iload_n hx hb dX8_holds_11 rfl (lv_at hl 1 rfl) ?_
    refine va_iald hx hb hK.1 hP 1 0 rfl rfl (g_in rfl (by omega) (by omega)) dX8_holds_12 ?_
    refine lv_topi (fun z_5 ez_5 => ?_)
    have kz_5 := congrArg Int32.toInt ez_5
    refine lv_goto (tgt := 17) hx hb dX8_holds_13 (by decide) ?_
    exact W.iret (v := z_5) hx hb hr (fun t ht hW => ⟨z_5, rfl, (by (try dsimp only); first | exact Or.inl ⟨by omega, by subst_vars; rfl⟩ | exact Or.inr ⟨by omega, by omega⟩), ht⟩) (fun q h => by cases h) dX8_holds_17
  ·
    refine W_top (y := .int 0) (by rw [hr_1]) ?_
    refine lv_if_eq (tgt := 16) hx hb dX8_holds_4 (by decide) (fun c_6 => ?_) (fun c_6 => absurd (by decide) c_6)
    refine lv_iconst (v := (-1)) hx hb dX8_holds_16 (by decide) ?_
    exact W.iret (v := (-1)) hx hb hr (fun t ht hW => ⟨(-1), rfl, (by have hl0 := t_m1; (try dsimp only); first | exact Or.inl ⟨by omega, by subst_vars; rfl⟩ | exact Or.inr ⟨by omega, by omega⟩), ht⟩) (fun q h => by cases h) dX8_holds_17
set_option maxHeartbeats 4000000 in
set_option maxRecDepth 100000 in
theorem g_X8_read (l : Launch) (D : va_G) (E : Nat → Nat) (xh : Nat) (xa : Nat → Nat) (xtrialRule : Nat) (xdropRule : Nat) (xtoday : Int32) (xf1 : Nat → Int32) (xf2 : Nat → Int32) (p0 : Int32) (hi_x : (0 ≤ xtoday.toInt ∧ xtoday.toInt ≤ 399)) : Met l yX8_read (wl yX8_read cX8_read 2 (some .int)) (RM 1 0 0) (rd_P D E [.ref xh, .int p0] [(xh, .inr (8, G8 xa xtrialRule xdropRule xtoday)), ((xa 1), .inl (E 0, 16, .inl xf1)), ((xa 2), .inl (E 0, 16, .inl xf2))]) (rd_Q (fun r => ((((0 ≤ p0.toInt ∧ p0.toInt ≤ 15) ∧ ((xf1 (p0).toNatClampNeg).toInt = 1 ∨ (xf1 (p0).toNatClampNeg).toInt = 2)) ∧ r = xf2 (p0).toNatClampNeg) ∨ (¬ ((0 ≤ p0.toInt ∧ p0.toInt ≤ 15) ∧ ((xf1 (p0).toNatClampNeg).toInt = 1 ∨ (xf1 (p0).toNatClampNeg).toInt = 2)) ∧ r.toInt = -2000000000)))) 0 0 (fun _ => False) := by
  refine Met.ofW (cc := cX8_read) (maxL := 2) (ret := (some .int)) (by decide) rfl ?_
  intro p e s m args below meth c s₁ B hml hv
  obtain ⟨rfl, hP, hK⟩ := hv
  have hx := B.exec; have hb := B.bytes; have hr := B.returns
  have hts := atoms_spec (ws := wl yX8_read cX8_read 2 (some .int)) B.pre
  have htb : ∀ w ∈ tb, w.before _ s = true := fun w h => hts w (List.mem_cons_of_mem _ h)
  have hown : s.vm.findClass RX8 = some m.cls := findClass_of_methodNamed B.named
  have hlocks := B.notSynchronized
  have hP : va_P D vwCl [(xh, .inr (8, G8 xa xtrialRule xdropRule xtoday)), ((xa 1), .inl (E 0, 16, .inl xf1)), ((xa 2), .inl (E 0, 16, .inl xf2))] s.heap := hP
  have hl := lv_entry ([.ref xh, .int p0]) (n := 2) (Nat.le_of_ble_eq_true rfl)
  rw [lg_entry_eq]
  generalize (lg_sl ([.ref xh, .int p0]) ++ List.replicate (2 - (lg_sl ([.ref xh, .int p0])).length) Slot.unset).toArray = ls at hl ⊢
  have hl : lv_has ls 2 [(0, .ref xh), (1, .int p0)] := hl
  have lo_p0 := i_lo p0; have hi_p0 := i_hi p0
  refine lv_iload_n hx hb dX8_read_0 rfl (lv_at hl 1 rfl) ?_
  refine callRS (rest := []) (As := [.int p0]) hx hb hml hown htb hK (g_X8_isPlace l D E p0 ) ok_X8_isPlace k_333 k_334 k_1 k_335 ⟨(Nat.le_of_ble_eq_true rfl), (Nat.le_of_ble_eq_true rfl)⟩ ⟨(Nat.le_of_ble_eq_true rfl), (Nat.le_of_ble_eq_true rfl)⟩ hl.1 (Nat.le_of_ble_eq_true rfl) rfl rfl dX8_read_1 (hP.sub (ws' := ([] : va_W)) [] rfl) (fun r_1 hw_2 => ?_)
  rcases hw_2 with ⟨hr_1, hw_2⟩ | ⟨hr_1, hw_2⟩
  ·
    refine W_top (y := .int 1) (by rw [hr_1]) ?_
    refine lv_if_eq (tgt := 27) hx hb dX8_read_4 (by decide) (fun c_4 => absurd c_4 (by decide)) (fun c_4 => ?_)
    refine lv_aload_n hx hb dX8_read_7 rfl (lv_at hl 0 rfl) ?_
    refine va_get (D := D) (ci := 8) (v := .ref (xa 1)) (C := RX8) (T := TX8) (N := 14) hx hb htb iX8 hown hK.1 hP 0 rfl rfl 1 (by decide) (htb _ k_273) (fun _ h9 => h9) rfl dX8_read_8 ?_
    refine lv_iload_n hx hb dX8_read_11 rfl (lv_at hl 1 rfl) ?_
    refine va_iald hx hb hK.1 hP 1 0 rfl rfl (g_in rfl (by omega) (by omega)) dX8_read_12 ?_
    refine lv_topi (fun z_5 ez_5 => ?_)
    have kz_5 := congrArg Int32.toInt ez_5
    refine lv_iconst (v := 1) hx hb dX8_read_13 (by decide) ?_
    refine lv_icmp_eq (tgt := 30) hx hb dX8_read_14 (by decide) (fun c_6 => ?_) (fun c_6 => ?_)
    ·
      have ic_6 : z_5.toInt = 1 := (g_eq rfl t_1).mp c_6
      clear c_6
      refine lv_aload_n hx hb dX8_read_30 rfl (lv_at hl 0 rfl) ?_
      refine va_get (D := D) (ci := 8) (v := .ref (xa 2)) (C := RX8) (T := TX8) (N := 14) hx hb htb iX8 hown hK.1 hP 0 rfl rfl 2 (by decide) (htb _ k_274) (fun _ h9 => h9) rfl dX8_read_31 ?_
      refine lv_iload_n hx hb dX8_read_34 rfl (lv_at hl 1 rfl) ?_
      refine va_iald hx hb hK.1 hP 2 0 rfl rfl (g_in rfl (by omega) (by omega)) dX8_read_35 ?_
      refine lv_topi (fun z_7 ez_7 => ?_)
      have kz_7 := congrArg Int32.toInt ez_7
      exact W.iret (v := z_7) hx hb hr (fun t ht hW => ⟨z_7, rfl, (by (try dsimp only); first | exact Or.inl ⟨by omega, by subst_vars; rfl⟩ | exact Or.inr ⟨by omega, by omega⟩), ht⟩) (fun q h => by cases h) dX8_read_36
    ·
      have ic_6 : z_5.toInt ≠ 1 := mt (g_eq rfl t_1).mpr c_6
      clear c_6
      refine lv_aload_n hx hb dX8_read_17 rfl (lv_at hl 0 rfl) ?_
      refine va_get (D := D) (ci := 8) (v := .ref (xa 1)) (C := RX8) (T := TX8) (N := 14) hx hb htb iX8 hown hK.1 hP 0 rfl rfl 1 (by decide) (htb _ k_273) (fun _ h9 => h9) rfl dX8_read_18 ?_
      refine lv_iload_n hx hb dX8_read_21 rfl (lv_at hl 1 rfl) ?_
      refine va_iald hx hb hK.1 hP 1 0 rfl rfl (g_in rfl (by omega) (by omega)) dX8_read_22 ?_
      refine lv_topi (fun z_8 ez_8 => ?_)
      have kz_8 := congrArg Int32.toInt ez_8
      refine lv_iconst (v := 2) hx hb dX8_read_23 (by decide) ?_
      refine lv_icmp_eq (tgt := 30) hx hb dX8_read_24 (by decide) (fun c_9 => ?_) (fun c_9 => ?_)
      ·
        have ic_9 : z_8.toInt = 2 := (g_eq rfl t_2).mp c_9
        clear c_9
        refine lv_aload_n hx hb dX8_read_30 rfl (lv_at hl 0 rfl) ?_
        refine va_get (D := D) (ci := 8) (v := .ref (xa 2)) (C := RX8) (T := TX8) (N := 14) hx hb htb iX8 hown hK.1 hP 0 rfl rfl 2 (by decide) (htb _ k_274) (fun _ h9 => h9) rfl dX8_read_31 ?_
        refine lv_iload_n hx hb dX8_read_34 rfl (lv_at hl 1 rfl) ?_
        refine va_iald hx hb hK.1 hP 2 0 rfl rfl (g_in rfl (by omega) (by omega)) dX8_read_35 ?_
        refine lv_topi (fun z_10 ez_10 => ?_)
        have kz_10 := congrArg Int32.toInt ez_10
        exact W.iret (v := z_10) hx hb hr (fun t ht hW => ⟨z_10, rfl, (by (try dsimp only); first | exact Or.inl ⟨by omega, by subst_vars; rfl⟩ | exact Or.inr ⟨by omega, by omega⟩), ht⟩) (fun q h => by cases h) dX8_read_36
      ·
        have ic_9 : z_8.toInt ≠ 2 := mt (g_eq rfl t_2).mpr c_9
        clear c_9
        refine lv_ldc hx hb hown (htb _ k_386) dX8_read_27 ?_
        exact W.iret (v := (-2000000000)) hx hb hr (fun t ht hW => ⟨(-2000000000), rfl, (by have hl0 := t_m2000000000; (try dsimp only); first | exact Or.inl ⟨by omega, by subst_vars; rfl⟩ | exact Or.inr ⟨by omega, by omega⟩), ht⟩) (fun q h => by cases h) dX8_read_29
  ·
    refine W_top (y := .int 0) (by rw [hr_1]) ?_
    refine lv_if_eq (tgt := 27) hx hb dX8_read_4 (by decide) (fun c_11 => ?_) (fun c_11 => absurd (by decide) c_11)
    refine lv_ldc hx hb hown (htb _ k_386) dX8_read_27 ?_
    exact W.iret (v := (-2000000000)) hx hb hr (fun t ht hW => ⟨(-2000000000), rfl, (by have hl0 := t_m2000000000; (try dsimp only); first | exact Or.inl ⟨by omega, by subst_vars; rfl⟩ | exact Or.inr ⟨by omega, by omega⟩), ht⟩) (fun q h => by cases h) dX8_read_29
set_option maxHeartbeats 4000000 in
set_option maxRecDepth 100000 in
theorem g_X8_off (l : Launch) (D : va_G) (E : Nat → Nat) (xh : Nat) (xa : Nat → Nat) (xtrialRule : Nat) (xdropRule : Nat) (xtoday : Int32) (oa : Nat → Nat) (osize : Int32) (of0 : Nat → Int32) (of1 : Nat → Int32) (of2 : Nat → Int32) (of3 : Nat → Int32) (of4 : Nat → Int32) (p0 : Int32) (p1 : Int32) (p2 : Int32) (p3 : Int32) (sz : Nat) (hi_x : (0 ≤ xtoday.toInt ∧ xtoday.toInt ≤ 399)) (hi_o : (0 ≤ osize.toInt ∧ osize.toInt ≤ 60)) : Met l yX8_off (wl yX8_off cX8_off 5 (some .int)) (RM 1 0 0) (mu_P D E [.ref xh, .int p0, .int p1, .int p2, .int p3] [(xh, .inr (8, G8 xa xtrialRule xdropRule xtoday)), ((xa 6), .inr (2, G2 oa osize)), ((oa 0), .inl (E 0, 60, .inl of0)), ((oa 1), .inl (E 0, 60, .inl of1)), ((oa 2), .inl (E 0, 60, .inl of2)), ((oa 3), .inl (E 0, 60, .inl of3)), ((oa 4), .inl (E 0, 60, .inl of4))] sz) (va_Qi (fun (r : Int32) (u : (Nat → Int32) × (Nat → Int32) × (Nat → Int32) × (Nat → Int32) × (Nat → Int32) × (Int32)) => (0 ≤ u.2.2.2.2.2.toInt ∧ u.2.2.2.2.2.toInt ≤ 60) ∧ ((¬ ((1 ≤ p0.toInt ∧ p0.toInt ≤ 5) ∧ (0 ≤ p1.toInt ∧ p1.toInt ≤ 399) ∧ (0 ≤ p2.toInt ∧ p2.toInt ≤ 399) ∧ p1.toInt ≤ p2.toInt ∧ (-10000 ≤ p3.toInt ∧ p3.toInt ≤ 10000)) ∧ r.toInt = -1 ∧ u.2.2.2.2.2.toInt = osize.toInt ∧ u.1 = of0 ∧ u.2.1 = of1 ∧ u.2.2.1 = of2 ∧ u.2.2.2.1 = of3 ∧ u.2.2.2.2.1 = of4) ∨ (((1 ≤ p0.toInt ∧ p0.toInt ≤ 5) ∧ (0 ≤ p1.toInt ∧ p1.toInt ≤ 399) ∧ (0 ≤ p2.toInt ∧ p2.toInt ≤ 399) ∧ p1.toInt ≤ p2.toInt ∧ (-10000 ≤ p3.toInt ∧ p3.toInt ≤ 10000)) ∧ osize.toInt = 60 ∧ r.toInt = -5 ∧ u.2.2.2.2.2.toInt = osize.toInt ∧ u.1 = of0 ∧ u.2.1 = of1 ∧ u.2.2.1 = of2 ∧ u.2.2.2.1 = of3 ∧ u.2.2.2.2.1 = of4) ∨ (((1 ≤ p0.toInt ∧ p0.toInt ≤ 5) ∧ (0 ≤ p1.toInt ∧ p1.toInt ≤ 399) ∧ (0 ≤ p2.toInt ∧ p2.toInt ≤ 399) ∧ p1.toInt ≤ p2.toInt ∧ (-10000 ≤ p3.toInt ∧ p3.toInt ≤ 10000)) ∧ osize.toInt < 60 ∧ r.toInt = osize.toInt + 1 ∧ u.2.2.2.2.2.toInt = r.toInt ∧ u.1 = upd of0 (osize).toNatClampNeg p0 ∧ u.2.1 = upd of1 (osize).toNatClampNeg p1 ∧ u.2.2.1 = upd of2 (osize).toNatClampNeg p2 ∧ u.2.2.2.1 = upd of3 (osize).toNatClampNeg p3 ∧ u.2.2.2.2.1 = upd of4 (osize).toNatClampNeg xtoday))) (mu_B D (va_A [(xh, .inr (8, G8 xa xtrialRule xdropRule xtoday)), ((xa 6), .inr (2, G2 oa osize)), ((oa 0), .inl (E 0, 60, .inl of0)), ((oa 1), .inl (E 0, 60, .inl of1)), ((oa 2), .inl (E 0, 60, .inl of2)), ((oa 3), .inl (E 0, 60, .inl of3)), ((oa 4), .inl (E 0, 60, .inl of4))] sz) (fun (u : (Nat → Int32) × (Nat → Int32) × (Nat → Int32) × (Nat → Int32) × (Nat → Int32) × (Int32)) => [(xh, .inr (8, G8 xa xtrialRule xdropRule xtoday)), ((xa 6), .inr (2, G2 oa u.2.2.2.2.2)), ((oa 0), .inl (E 0, 60, .inl u.1)), ((oa 1), .inl (E 0, 60, .inl u.2.1)), ((oa 2), .inl (E 0, 60, .inl u.2.2.1)), ((oa 3), .inl (E 0, 60, .inl u.2.2.2.1)), ((oa 4), .inl (E 0, 60, .inl u.2.2.2.2.1))])) (va_A [(xh, .inr (8, G8 xa xtrialRule xdropRule xtoday)), ((xa 6), .inr (2, G2 oa osize)), ((oa 0), .inl (E 0, 60, .inl of0)), ((oa 1), .inl (E 0, 60, .inl of1)), ((oa 2), .inl (E 0, 60, .inl of2)), ((oa 3), .inl (E 0, 60, .inl of3)), ((oa 4), .inl (E 0, 60, .inl of4))] sz)) 0 0 (va_A [(xh, .inr (8, G8 xa xtrialRule xdropRule xtoday)), ((xa 6), .inr (2, G2 oa osize)), ((oa 0), .inl (E 0, 60, .inl of0)), ((oa 1), .inl (E 0, 60, .inl of1)), ((oa 2), .inl (E 0, 60, .inl of2)), ((oa 3), .inl (E 0, 60, .inl of3)), ((oa 4), .inl (E 0, 60, .inl of4))] sz) := by
  refine Met.ofW (cc := cX8_off) (maxL := 5) (ret := (some .int)) (by decide) rfl ?_
  intro p e s m args below meth c s₁ B hml hv
  obtain ⟨rfl, hsz, hP, hK, hD0⟩ := hv
  have hx := B.exec; have hb := B.bytes; have hr := B.returns
  have hts := atoms_spec (ws := wl yX8_off cX8_off 5 (some .int)) B.pre
  have htb : ∀ w ∈ tb, w.before _ s = true := fun w h => hts w (List.mem_cons_of_mem _ h)
  have hown : s.vm.findClass RX8 = some m.cls := findClass_of_methodNamed B.named
  have hlocks := B.notSynchronized
  subst hsz
  have hD := hD0.self (sz := s.heap.size)
  generalize hAe : va_A [(xh, .inr (8, G8 xa xtrialRule xdropRule xtoday)), ((xa 6), .inr (2, G2 oa osize)), ((oa 0), .inl (E 0, 60, .inl of0)), ((oa 1), .inl (E 0, 60, .inl of1)), ((oa 2), .inl (E 0, 60, .inl of2)), ((oa 3), .inl (E 0, 60, .inl of3)), ((oa 4), .inl (E 0, 60, .inl of4))] s.heap.size = A at hD ⊢
  have hA : ∀ q : Nat, s.heap.size ≤ q → A q := fun q h => by rw [← hAe]; exact Or.inr h
  have hS : va_S A s.heap s.heap [] := va_S.rf
  have hP : va_P D vwCl [(xh, .inr (8, G8 xa xtrialRule xdropRule xtoday)), ((xa 6), .inr (2, G2 oa osize)), ((oa 0), .inl (E 0, 60, .inl of0)), ((oa 1), .inl (E 0, 60, .inl of1)), ((oa 2), .inl (E 0, 60, .inl of2)), ((oa 3), .inl (E 0, 60, .inl of3)), ((oa 4), .inl (E 0, 60, .inl of4))] s.heap := hP
  have hl := lv_entry ([.ref xh, .int p0, .int p1, .int p2, .int p3]) (n := 5) (Nat.le_of_ble_eq_true rfl)
  rw [lg_entry_eq]
  generalize (lg_sl ([.ref xh, .int p0, .int p1, .int p2, .int p3]) ++ List.replicate (5 - (lg_sl ([.ref xh, .int p0, .int p1, .int p2, .int p3])).length) Slot.unset).toArray = ls at hl ⊢
  have hl : lv_has ls 5 [(0, .ref xh), (1, .int p0), (2, .int p1), (3, .int p2), (4, .int p3)] := hl
  have lo_p0 := i_lo p0; have hi_p0 := i_hi p0
  have lo_p1 := i_lo p1; have hi_p1 := i_hi p1
  have lo_p2 := i_lo p2; have hi_p2 := i_hi p2
  have lo_p3 := i_lo p3; have hi_p3 := i_hi p3
  refine lv_iload_n hx hb dX8_off_0 rfl (lv_at hl 1 rfl) ?_
  refine lv_iconst (v := 1) hx hb dX8_off_1 (by decide) ?_
  refine lv_icmp_lt (tgt := 41) hx hb dX8_off_2 (by decide) (fun c_1 => ?_) (fun c_1 => ?_)
  ·
    have ic_1 : p0.toInt < 1 := by first | exact (g_lt rfl t_1).mp c_1 | (have h := mt (g_le t_1 rfl).mpr c_1; omega)
    clear c_1
    refine lv_iconst (v := (-1)) hx hb dX8_off_41 (by decide) ?_
    have hP9 := hP.sub (ws' := [(xh, .inr (8, G8 xa xtrialRule xdropRule xtoday)), ((xa 6), .inr (2, G2 oa osize)), ((oa 0), .inl (E 0, 60, .inl of0)), ((oa 1), .inl (E 0, 60, .inl of1)), ((oa 2), .inl (E 0, 60, .inl of2)), ((oa 3), .inl (E 0, 60, .inl of3)), ((oa 4), .inl (E 0, 60, .inl of4))]) [0, 1, 2, 3, 4, 5, 6] rfl
    have hD9 := hD.sub (ws' := [(xh, .inr (8, G8 xa xtrialRule xdropRule xtoday)), ((xa 6), .inr (2, G2 oa osize)), ((oa 0), .inl (E 0, 60, .inl of0)), ((oa 1), .inl (E 0, 60, .inl of1)), ((oa 2), .inl (E 0, 60, .inl of2)), ((oa 3), .inl (E 0, 60, .inl of3)), ((oa 4), .inl (E 0, 60, .inl of4))]) [0, 1, 2, 3, 4, 5, 6] (by decide) rfl
    exact W.iret (v := (-1)) hx hb hr (fun t ht hW => ⟨⟨(-1), (of0, of1, of2, of3, of4, osize), rfl, ⟨(by (try dsimp only); omega), (by have hl0 := t_m1; (try dsimp only); first | exact Or.inl ⟨by omega, by omega, by omega, rfl, rfl, rfl, rfl, rfl⟩ | exact Or.inr (Or.inl ⟨by omega, by omega, by omega, by omega, rfl, rfl, rfl, rfl, rfl⟩) | exact Or.inr (Or.inr ⟨by omega, by omega, by omega, by omega, by assumption, by assumption, by assumption, by assumption, by assumption⟩))⟩, by rw [ht]; exact hP9, hD9⟩, hS.F ht⟩) hS.2.2 dX8_off_42
  ·
    have ic_1 : 1 ≤ p0.toInt := by first | exact (g_le t_1 rfl).mp c_1 | (have h := mt (g_lt rfl t_1).mpr c_1; omega)
    clear c_1
    refine lv_iload_n hx hb dX8_off_5 rfl (lv_at hl 1 rfl) ?_
    refine lv_bipush (v := 6) hx hb dX8_off_6 (by decide) ?_
    refine lv_icmp_ge (tgt := 41) hx hb dX8_off_8 (by decide) (fun c_2 => ?_) (fun c_2 => ?_)
    ·
      have ic_2 : 6 ≤ p0.toInt := by first | exact (g_le t_6 rfl).mp c_2 | (have h := mt (g_lt rfl t_6).mpr c_2; omega)
      clear c_2
      refine lv_iconst (v := (-1)) hx hb dX8_off_41 (by decide) ?_
      have hP9 := hP.sub (ws' := [(xh, .inr (8, G8 xa xtrialRule xdropRule xtoday)), ((xa 6), .inr (2, G2 oa osize)), ((oa 0), .inl (E 0, 60, .inl of0)), ((oa 1), .inl (E 0, 60, .inl of1)), ((oa 2), .inl (E 0, 60, .inl of2)), ((oa 3), .inl (E 0, 60, .inl of3)), ((oa 4), .inl (E 0, 60, .inl of4))]) [0, 1, 2, 3, 4, 5, 6] rfl
      have hD9 := hD.sub (ws' := [(xh, .inr (8, G8 xa xtrialRule xdropRule xtoday)), ((xa 6), .inr (2, G2 oa osize)), ((oa 0), .inl (E 0, 60, .inl of0)), ((oa 1), .inl (E 0, 60, .inl of1)), ((oa 2), .inl (E 0, 60, .inl of2)), ((oa 3), .inl (E 0, 60, .inl of3)), ((oa 4), .inl (E 0, 60, .inl of4))]) [0, 1, 2, 3, 4, 5, 6] (by decide) rfl
      exact W.iret (v := (-1)) hx hb hr (fun t ht hW => ⟨⟨(-1), (of0, of1, of2, of3, of4, osize), rfl, ⟨(by (try dsimp only); omega), (by have hl0 := t_m1; (try dsimp only); first | exact Or.inl ⟨by omega, by omega, by omega, rfl, rfl, rfl, rfl, rfl⟩ | exact Or.inr (Or.inl ⟨by omega, by omega, by omega, by omega, rfl, rfl, rfl, rfl, rfl⟩) | exact Or.inr (Or.inr ⟨by omega, by omega, by omega, by omega, by assumption, by assumption, by assumption, by assumption, by assumption⟩))⟩, by rw [ht]; exact hP9, hD9⟩, hS.F ht⟩) hS.2.2 dX8_off_42
    ·
      have ic_2 : p0.toInt < 6 := by first | exact (g_lt rfl t_6).mp c_2 | (have h := mt (g_le t_6 rfl).mpr c_2; omega)
      clear c_2
      refine lv_iload_n hx hb dX8_off_11 rfl (lv_at hl 2 rfl) ?_
      refine callRS (rest := []) (As := [.int p1]) hx hb hml hown htb hK (g_X8_isDay l D E p1 ) ok_X8_isDay k_323 k_324 k_1 k_325 ⟨(Nat.le_of_ble_eq_true rfl), (Nat.le_of_ble_eq_true rfl)⟩ ⟨(Nat.le_of_ble_eq_true rfl), (Nat.le_of_ble_eq_true rfl)⟩ hl.1 (Nat.le_of_ble_eq_true rfl) rfl rfl dX8_off_12 (hP.sub (ws' := ([] : va_W)) [] rfl) (fun r_3 hw_4 => ?_)
      rcases hw_4 with ⟨hr_3, hw_4⟩ | ⟨hr_3, hw_4⟩
      ·
        refine W_top (y := .int 1) (by rw [hr_3]) ?_
        refine lv_if_eq (tgt := 41) hx hb dX8_off_15 (by decide) (fun c_6 => absurd c_6 (by decide)) (fun c_6 => ?_)
        refine lv_iload_n hx hb dX8_off_18 rfl (lv_at hl 3 rfl) ?_
        refine callRS (rest := []) (As := [.int p2]) hx hb hml hown htb hK (g_X8_isDay l D E p2 ) ok_X8_isDay k_323 k_324 k_1 k_325 ⟨(Nat.le_of_ble_eq_true rfl), (Nat.le_of_ble_eq_true rfl)⟩ ⟨(Nat.le_of_ble_eq_true rfl), (Nat.le_of_ble_eq_true rfl)⟩ hl.1 (Nat.le_of_ble_eq_true rfl) rfl rfl dX8_off_19 (hP.sub (ws' := ([] : va_W)) [] rfl) (fun r_7 hw_8 => ?_)
        rcases hw_8 with ⟨hr_7, hw_8⟩ | ⟨hr_7, hw_8⟩
        ·
          refine W_top (y := .int 1) (by rw [hr_7]) ?_
          refine lv_if_eq (tgt := 41) hx hb dX8_off_22 (by decide) (fun c_10 => absurd c_10 (by decide)) (fun c_10 => ?_)
          refine lv_iload_n hx hb dX8_off_25 rfl (lv_at hl 2 rfl) ?_
          refine lv_iload_n hx hb dX8_off_26 rfl (lv_at hl 3 rfl) ?_
          refine lv_icmp_gt (tgt := 41) hx hb dX8_off_27 (by decide) (fun c_11 => ?_) (fun c_11 => ?_)
          ·
            have ic_11 : p2.toInt < p1.toInt := by first | exact (g_lt rfl rfl).mp c_11 | (have h := mt (g_le rfl rfl).mpr c_11; omega)
            clear c_11
            refine lv_iconst (v := (-1)) hx hb dX8_off_41 (by decide) ?_
            have hP9 := hP.sub (ws' := [(xh, .inr (8, G8 xa xtrialRule xdropRule xtoday)), ((xa 6), .inr (2, G2 oa osize)), ((oa 0), .inl (E 0, 60, .inl of0)), ((oa 1), .inl (E 0, 60, .inl of1)), ((oa 2), .inl (E 0, 60, .inl of2)), ((oa 3), .inl (E 0, 60, .inl of3)), ((oa 4), .inl (E 0, 60, .inl of4))]) [0, 1, 2, 3, 4, 5, 6] rfl
            have hD9 := hD.sub (ws' := [(xh, .inr (8, G8 xa xtrialRule xdropRule xtoday)), ((xa 6), .inr (2, G2 oa osize)), ((oa 0), .inl (E 0, 60, .inl of0)), ((oa 1), .inl (E 0, 60, .inl of1)), ((oa 2), .inl (E 0, 60, .inl of2)), ((oa 3), .inl (E 0, 60, .inl of3)), ((oa 4), .inl (E 0, 60, .inl of4))]) [0, 1, 2, 3, 4, 5, 6] (by decide) rfl
            exact W.iret (v := (-1)) hx hb hr (fun t ht hW => ⟨⟨(-1), (of0, of1, of2, of3, of4, osize), rfl, ⟨(by (try dsimp only); omega), (by have hl0 := t_m1; (try dsimp only); first | exact Or.inl ⟨by omega, by omega, by omega, rfl, rfl, rfl, rfl, rfl⟩ | exact Or.inr (Or.inl ⟨by omega, by omega, by omega, by omega, rfl, rfl, rfl, rfl, rfl⟩) | exact Or.inr (Or.inr ⟨by omega, by omega, by omega, by omega, by assumption, by assumption, by assumption, by assumption, by assumption⟩))⟩, by rw [ht]; exact hP9, hD9⟩, hS.F ht⟩) hS.2.2 dX8_off_42
          ·
            have ic_11 : p1.toInt ≤ p2.toInt := by first | exact (g_le rfl rfl).mp c_11 | (have h := mt (g_lt rfl rfl).mpr c_11; omega)
            clear c_11
            refine lv_iload hx hb dX8_off_30 (lv_at hl 4 rfl) ?_
            refine lv_sipush (v := 10000) hx hb dX8_off_32 (by decide) ?_
            refine callRS (rest := []) (As := [.int p3, .int 10000]) hx hb hml hown htb hK (g_X8_isWithin l D E p3 10000 (by decide)) ok_X8_isWithin k_326 k_327 k_1 k_328 ⟨(Nat.le_of_ble_eq_true rfl), (Nat.le_of_ble_eq_true rfl)⟩ ⟨(Nat.le_of_ble_eq_true rfl), (Nat.le_of_ble_eq_true rfl)⟩ hl.1 (Nat.le_of_ble_eq_true rfl) rfl rfl dX8_off_35 (hP.sub (ws' := ([] : va_W)) [] rfl) (fun r_12 hw_13 => ?_)
            try simp only [t_10000] at hw_13
            rcases hw_13 with ⟨hr_12, hw_13⟩ | ⟨hr_12, hw_13⟩
            ·
              try simp only [t_10000] at hw_13
              refine W_top (y := .int 1) (by rw [hr_12]) ?_
              refine lv_if_ne (tgt := 43) hx hb dX8_off_38 (by decide) (fun c_15 => ?_) (fun c_15 => absurd c_15 (by decide))
              refine lv_aload_n hx hb dX8_off_43 rfl (lv_at hl 0 rfl) ?_
              refine va_get (D := D) (ci := 8) (v := .ref (xa 6)) (C := RX8) (T := TX8) (N := 14) hx hb htb iX8 hown hK.1 hP 0 rfl rfl 6 (by decide) (htb _ k_278) (fun _ h9 => h9) rfl dX8_off_44 ?_
              refine va_getN (D := D) (ci := 2) (v := .int osize) (C := RX2) (T := TX2) (N := 6) hx hb htb iX2 hown hK.1 hP 1 rfl rfl 5 (by decide) (va_Nw.use rfl (hK.2.1 (Cond.fieldLinkNest RX8 142 "SeaWatches$Offs" "size" "I" "SeaWatches") (by decide +kernel))) (fun _ h9 => h9) rfl dX8_off_47 ?_
              refine lv_bipush (v := 60) hx hb dX8_off_50 (by decide) ?_
              refine lv_icmp_lt (tgt := 58) hx hb dX8_off_52 (by decide) (fun c_16 => ?_) (fun c_16 => ?_)
              ·
                have ic_16 : osize.toInt < 60 := by first | exact (g_lt rfl t_60).mp c_16 | (have h := mt (g_le t_60 rfl).mpr c_16; omega)
                clear c_16
                refine lv_aload_n hx hb dX8_off_58 rfl (lv_at hl 0 rfl) ?_
                refine va_get (D := D) (ci := 8) (v := .ref (xa 6)) (C := RX8) (T := TX8) (N := 14) hx hb htb iX8 hown hK.1 hP 0 rfl rfl 6 (by decide) (htb _ k_278) (fun _ h9 => h9) rfl dX8_off_59 ?_
                refine lv_iload_n hx hb dX8_off_62 rfl (lv_at hl 1 rfl) ?_
                refine lv_iload_n hx hb dX8_off_63 rfl (lv_at hl 2 rfl) ?_
                refine lv_iload_n hx hb dX8_off_64 rfl (lv_at hl 3 rfl) ?_
                refine lv_iload hx hb dX8_off_65 (lv_at hl 4 rfl) ?_
                refine lv_aload_n hx hb dX8_off_67 rfl (lv_at hl 0 rfl) ?_
                refine va_get (D := D) (ci := 8) (v := .int xtoday) (C := RX8) (T := TX8) (N := 14) hx hb htb iX8 hown hK.1 hP 0 rfl rfl 13 (by decide) (htb _ k_285) (fun _ h9 => h9) rfl dX8_off_68 ?_
                have hPc := hP.sub (ws' := [((xa 6), .inr (2, G2 oa osize)), ((oa 0), .inl (E 0, 60, .inl of0)), ((oa 1), .inl (E 0, 60, .inl of1)), ((oa 2), .inl (E 0, 60, .inl of2)), ((oa 3), .inl (E 0, 60, .inl of3)), ((oa 4), .inl (E 0, 60, .inl of4))]) [1, 2, 3, 4, 5, 6] rfl
                have hDc := hD.sub (ws' := [((xa 6), .inr (2, G2 oa osize)), ((oa 0), .inl (E 0, 60, .inl of0)), ((oa 1), .inl (E 0, 60, .inl of1)), ((oa 2), .inl (E 0, 60, .inl of2)), ((oa 3), .inl (E 0, 60, .inl of3)), ((oa 4), .inl (E 0, 60, .inl of4))]) [1, 2, 3, 4, 5, 6] (by decide) rfl
                refine aft_v (runMV (rest := []) (As := [.int p0, .int p1, .int p2, .int p3, .int xtoday]) hx hb hml hown htb hK (g_X2_add l D E (xa 6) oa osize of0 of1 of2 of3 of4 p0 p1 p2 p3 xtoday _ (by (try dsimp only); omega)) ok_X2_add k_471 k_472 k_473 k_2 k_474 ⟨(Nat.le_of_ble_eq_true rfl), (Nat.le_of_ble_eq_true rfl)⟩ ⟨(Nat.le_of_ble_eq_true rfl), (Nat.le_of_ble_eq_true rfl)⟩ hl.1 (Nat.le_of_ble_eq_true rfl) rfl rfl dX8_off_71 hPc hDc rfl rfl 0 rfl) hP hD hS hA [1, 2, 3, 4, 5, 6] [0] (wr := [(xh, .inr (8, G8 xa xtrialRule xdropRule xtoday))]) rfl rfl (by decide) (by decide) (fun u_19 H locs hw_18 hP hD hS => ?_)
                clear hPc hDc
                obtain ⟨w_20, w_21, w_22, w_23, w_24, w_25⟩ := u_19
                try dsimp only at hw_18
                have hP : va_P D vwCl [(xh, .inr (8, G8 xa xtrialRule xdropRule xtoday)), ((xa 6), .inr (2, G2 oa w_25)), ((oa 0), .inl (E 0, 60, .inl w_20)), ((oa 1), .inl (E 0, 60, .inl w_21)), ((oa 2), .inl (E 0, 60, .inl w_22)), ((oa 3), .inl (E 0, 60, .inl w_23)), ((oa 4), .inl (E 0, 60, .inl w_24))] H := hP
                have hD := toW hP hD rfl
                obtain ⟨hw_18_0, hw_18_1⟩ := hw_18
                have hw_18_1O0 : w_20 = upd of0 (osize).toNatClampNeg p0 := by rcases hw_18_1 with h9 | h9 <;> first | exact h9.2.2.1 | (exfalso; omega)
                have hw_18_1O1 : w_21 = upd of1 (osize).toNatClampNeg p1 := by rcases hw_18_1 with h9 | h9 <;> first | exact h9.2.2.2.1 | (exfalso; omega)
                have hw_18_1O2 : w_22 = upd of2 (osize).toNatClampNeg p2 := by rcases hw_18_1 with h9 | h9 <;> first | exact h9.2.2.2.2.1 | (exfalso; omega)
                have hw_18_1O3 : w_23 = upd of3 (osize).toNatClampNeg p3 := by rcases hw_18_1 with h9 | h9 <;> first | exact h9.2.2.2.2.2.1 | (exfalso; omega)
                have hw_18_1O4 : w_24 = upd of4 (osize).toNatClampNeg xtoday := by rcases hw_18_1 with h9 | h9 <;> first | exact h9.2.2.2.2.2.2 | (exfalso; omega)
                have hw_18_1S : w_25.toInt = osize.toInt + 1 := by rcases hw_18_1 with h9 | h9 <;> first | exact h9.2.1 | (exfalso; omega)
                refine lv_aload_n hx hb dX8_off_74 rfl (lv_at hl 0 rfl) ?_
                refine va_get (D := D) (ci := 8) (v := .ref (xa 6)) (C := RX8) (T := TX8) (N := 14) hx hb htb iX8 hown hK.1 hP 0 rfl rfl 6 (by decide) (htb _ k_278) (fun _ h9 => h9) rfl dX8_off_75 ?_
                refine va_getN (D := D) (ci := 2) (v := .int w_25) (C := RX2) (T := TX2) (N := 6) hx hb htb iX2 hown hK.1 hP 1 rfl rfl 5 (by decide) (va_Nw.use rfl (hK.2.1 (Cond.fieldLinkNest RX8 142 "SeaWatches$Offs" "size" "I" "SeaWatches") (by decide +kernel))) (fun _ h9 => h9) rfl dX8_off_78 ?_
                have hP9 := hP.sub (ws' := [(xh, .inr (8, G8 xa xtrialRule xdropRule xtoday)), ((xa 6), .inr (2, G2 oa w_25)), ((oa 0), .inl (E 0, 60, .inl w_20)), ((oa 1), .inl (E 0, 60, .inl w_21)), ((oa 2), .inl (E 0, 60, .inl w_22)), ((oa 3), .inl (E 0, 60, .inl w_23)), ((oa 4), .inl (E 0, 60, .inl w_24))]) [0, 1, 2, 3, 4, 5, 6] rfl
                have hD9 := hD.sub (ws' := [(xh, .inr (8, G8 xa xtrialRule xdropRule xtoday)), ((xa 6), .inr (2, G2 oa w_25)), ((oa 0), .inl (E 0, 60, .inl w_20)), ((oa 1), .inl (E 0, 60, .inl w_21)), ((oa 2), .inl (E 0, 60, .inl w_22)), ((oa 3), .inl (E 0, 60, .inl w_23)), ((oa 4), .inl (E 0, 60, .inl w_24))]) [0, 1, 2, 3, 4, 5, 6] (by decide) rfl
                exact W.iret (v := w_25) hx hb hr (fun t ht hW => ⟨⟨w_25, (w_20, w_21, w_22, w_23, w_24, w_25), rfl, ⟨(by (try dsimp only); omega), (by (try dsimp only); first | exact Or.inl ⟨by omega, by omega, by omega, rfl, rfl, rfl, rfl, rfl⟩ | exact Or.inr (Or.inl ⟨by omega, by omega, by omega, by omega, rfl, rfl, rfl, rfl, rfl⟩) | exact Or.inr (Or.inr ⟨by omega, by omega, by omega, by omega, by assumption, by assumption, by assumption, by assumption, by assumption⟩))⟩, by rw [ht]; exact hP9, hD9⟩, hS.F ht⟩) hS.2.2 dX8_off_81
              ·
                have ic_16 : 60 ≤ osize.toInt := by first | exact (g_le t_60 rfl).mp c_16 | (have h := mt (g_lt rfl t_60).mpr c_16; omega)
                clear c_16
                refine lv_bipush (v := (-5)) hx hb dX8_off_55 (by decide) ?_
                have hP9 := hP.sub (ws' := [(xh, .inr (8, G8 xa xtrialRule xdropRule xtoday)), ((xa 6), .inr (2, G2 oa osize)), ((oa 0), .inl (E 0, 60, .inl of0)), ((oa 1), .inl (E 0, 60, .inl of1)), ((oa 2), .inl (E 0, 60, .inl of2)), ((oa 3), .inl (E 0, 60, .inl of3)), ((oa 4), .inl (E 0, 60, .inl of4))]) [0, 1, 2, 3, 4, 5, 6] rfl
                have hD9 := hD.sub (ws' := [(xh, .inr (8, G8 xa xtrialRule xdropRule xtoday)), ((xa 6), .inr (2, G2 oa osize)), ((oa 0), .inl (E 0, 60, .inl of0)), ((oa 1), .inl (E 0, 60, .inl of1)), ((oa 2), .inl (E 0, 60, .inl of2)), ((oa 3), .inl (E 0, 60, .inl of3)), ((oa 4), .inl (E 0, 60, .inl of4))]) [0, 1, 2, 3, 4, 5, 6] (by decide) rfl
                exact W.iret (v := (-5)) hx hb hr (fun t ht hW => ⟨⟨(-5), (of0, of1, of2, of3, of4, osize), rfl, ⟨(by (try dsimp only); omega), (by have hl0 := t_m5; (try dsimp only); first | exact Or.inl ⟨by omega, by omega, by omega, rfl, rfl, rfl, rfl, rfl⟩ | exact Or.inr (Or.inl ⟨by omega, by omega, by omega, by omega, rfl, rfl, rfl, rfl, rfl⟩) | exact Or.inr (Or.inr ⟨by omega, by omega, by omega, by omega, by assumption, by assumption, by assumption, by assumption, by assumption⟩))⟩, by rw [ht]; exact hP9, hD9⟩, hS.F ht⟩) hS.2.2 dX8_off_57
            ·
              try simp only [t_10000] at hw_13
              refine W_top (y := .int 0) (by rw [hr_12]) ?_
              refine lv_if_ne (tgt := 43) hx hb dX8_off_38 (by decide) (fun c_26 => absurd (by decide) c_26) (fun c_26 => ?_)
              refine lv_iconst (v := (-1)) hx hb dX8_off_41 (by decide) ?_
              have hP9 := hP.sub (ws' := [(xh, .inr (8, G8 xa xtrialRule xdropRule xtoday)), ((xa 6), .inr (2, G2 oa osize)), ((oa 0), .inl (E 0, 60, .inl of0)), ((oa 1), .inl (E 0, 60, .inl of1)), ((oa 2), .inl (E 0, 60, .inl of2)), ((oa 3), .inl (E 0, 60, .inl of3)), ((oa 4), .inl (E 0, 60, .inl of4))]) [0, 1, 2, 3, 4, 5, 6] rfl
              have hD9 := hD.sub (ws' := [(xh, .inr (8, G8 xa xtrialRule xdropRule xtoday)), ((xa 6), .inr (2, G2 oa osize)), ((oa 0), .inl (E 0, 60, .inl of0)), ((oa 1), .inl (E 0, 60, .inl of1)), ((oa 2), .inl (E 0, 60, .inl of2)), ((oa 3), .inl (E 0, 60, .inl of3)), ((oa 4), .inl (E 0, 60, .inl of4))]) [0, 1, 2, 3, 4, 5, 6] (by decide) rfl
              exact W.iret (v := (-1)) hx hb hr (fun t ht hW => ⟨⟨(-1), (of0, of1, of2, of3, of4, osize), rfl, ⟨(by (try dsimp only); omega), (by have hl0 := t_m1; (try dsimp only); first | exact Or.inl ⟨by omega, by omega, by omega, rfl, rfl, rfl, rfl, rfl⟩ | exact Or.inr (Or.inl ⟨by omega, by omega, by omega, by omega, rfl, rfl, rfl, rfl, rfl⟩) | exact Or.inr (Or.inr ⟨by omega, by omega, by omega, by omega, by assumption, by assumption, by assumption, by assumption, by assumption⟩))⟩, by rw [ht]; exact hP9, hD9⟩, hS.F ht⟩) hS.2.2 dX8_off_42
        ·
          refine W_top (y := .int 0) (by rw [hr_7]) ?_
          refine lv_if_eq (tgt := 41) hx hb dX8_off_22 (by decide) (fun c_27 => ?_) (fun c_27 => absurd (by decide) c_27)
          refine lv_iconst (v := (-1)) hx hb dX8_off_41 (by decide) ?_
          have hP9 := hP.sub (ws' := [(xh, .inr (8, G8 xa xtrialRule xdropRule xtoday)), ((xa 6), .inr (2, G2 oa osize)), ((oa 0), .inl (E 0, 60, .inl of0)), ((oa 1), .inl (E 0, 60, .inl of1)), ((oa 2), .inl (E 0, 60, .inl of2)), ((oa 3), .inl (E 0, 60, .inl of3)), ((oa 4), .inl (E 0, 60, .inl of4))]) [0, 1, 2, 3, 4, 5, 6] rfl
          have hD9 := hD.sub (ws' := [(xh, .inr (8, G8 xa xtrialRule xdropRule xtoday)), ((xa 6), .inr (2, G2 oa osize)), ((oa 0), .inl (E 0, 60, .inl of0)), ((oa 1), .inl (E 0, 60, .inl of1)), ((oa 2), .inl (E 0, 60, .inl of2)), ((oa 3), .inl (E 0, 60, .inl of3)), ((oa 4), .inl (E 0, 60, .inl of4))]) [0, 1, 2, 3, 4, 5, 6] (by decide) rfl
          exact W.iret (v := (-1)) hx hb hr (fun t ht hW => ⟨⟨(-1), (of0, of1, of2, of3, of4, osize), rfl, ⟨(by (try dsimp only); omega), (by have hl0 := t_m1; (try dsimp only); first | exact Or.inl ⟨by omega, by omega, by omega, rfl, rfl, rfl, rfl, rfl⟩ | exact Or.inr (Or.inl ⟨by omega, by omega, by omega, by omega, rfl, rfl, rfl, rfl, rfl⟩) | exact Or.inr (Or.inr ⟨by omega, by omega, by omega, by omega, by assumption, by assumption, by assumption, by assumption, by assumption⟩))⟩, by rw [ht]; exact hP9, hD9⟩, hS.F ht⟩) hS.2.2 dX8_off_42
      ·
        refine W_top (y := .int 0) (by rw [hr_3]) ?_
        refine lv_if_eq (tgt := 41) hx hb dX8_off_15 (by decide) (fun c_28 => ?_) (fun c_28 => absurd (by decide) c_28)
        refine lv_iconst (v := (-1)) hx hb dX8_off_41 (by decide) ?_
        have hP9 := hP.sub (ws' := [(xh, .inr (8, G8 xa xtrialRule xdropRule xtoday)), ((xa 6), .inr (2, G2 oa osize)), ((oa 0), .inl (E 0, 60, .inl of0)), ((oa 1), .inl (E 0, 60, .inl of1)), ((oa 2), .inl (E 0, 60, .inl of2)), ((oa 3), .inl (E 0, 60, .inl of3)), ((oa 4), .inl (E 0, 60, .inl of4))]) [0, 1, 2, 3, 4, 5, 6] rfl
        have hD9 := hD.sub (ws' := [(xh, .inr (8, G8 xa xtrialRule xdropRule xtoday)), ((xa 6), .inr (2, G2 oa osize)), ((oa 0), .inl (E 0, 60, .inl of0)), ((oa 1), .inl (E 0, 60, .inl of1)), ((oa 2), .inl (E 0, 60, .inl of2)), ((oa 3), .inl (E 0, 60, .inl of3)), ((oa 4), .inl (E 0, 60, .inl of4))]) [0, 1, 2, 3, 4, 5, 6] (by decide) rfl
        exact W.iret (v := (-1)) hx hb hr (fun t ht hW => ⟨⟨(-1), (of0, of1, of2, of3, of4, osize), rfl, ⟨(by (try dsimp only); omega), (by have hl0 := t_m1; (try dsimp only); first | exact Or.inl ⟨by omega, by omega, by omega, rfl, rfl, rfl, rfl, rfl⟩ | exact Or.inr (Or.inl ⟨by omega, by omega, by omega, by omega, rfl, rfl, rfl, rfl, rfl⟩) | exact Or.inr (Or.inr ⟨by omega, by omega, by omega, by omega, by assumption, by assumption, by assumption, by assumption, by assumption⟩))⟩, by rw [ht]; exact hP9, hD9⟩, hS.F ht⟩) hS.2.2 dX8_off_42
set_option maxHeartbeats 4000000 in
set_option maxRecDepth 100000 in
theorem g_X8_feed (l : Launch) (D : va_G) (E : Nat → Nat) (xh : Nat) (xa : Nat → Nat) (xtrialRule : Nat) (xdropRule : Nat) (xtoday : Int32) (ta : Nat → Nat) (tsize : Int32) (trule : Nat) (twords : Nat) (tat : Int32) (tword : Int32) (twordAt : Int32) (tvalue : Int32) (tf0 : Nat → Int32) (p0 : Int32) (p1 : Int32) (sz : Nat) (hi_x : (0 ≤ xtoday.toInt ∧ xtoday.toInt ≤ 399)) (hi_t : (0 ≤ tsize.toInt ∧ tsize.toInt ≤ 120)) : Met l yX8_feed (wl yX8_feed cX8_feed 4 (some .int)) (RM 1 0 0) (mu_P D E [.ref xh, .int p0, .int p1] [(xh, .inr (8, G8 xa xtrialRule xdropRule xtoday)), ((xa 9), .inr (6, G6 ta tsize trule twords tat tword twordAt tvalue)), ((ta 0), .inl (E 0, 120, .inl tf0))] sz) (va_Qi (fun (r : Int32) (u : (Nat → Int32) × (Int32)) => (0 ≤ u.2.toInt ∧ u.2.toInt ≤ 120) ∧ ((¬ (1 ≤ p0.toInt ∧ p0.toInt ≤ 4) ∧ r.toInt = -1 ∧ u.2.toInt = tsize.toInt) ∨ ((1 ≤ p0.toInt ∧ p0.toInt ≤ 4) ∧ 120 < tsize.toInt + p0.toInt ∧ r.toInt = -5 ∧ u.2.toInt = tsize.toInt) ∨ ((1 ≤ p0.toInt ∧ p0.toInt ≤ 4) ∧ tsize.toInt + p0.toInt ≤ 120 ∧ r.toInt = tsize.toInt + p0.toInt ∧ u.2.toInt = r.toInt))) (mu_B D (va_A [(xh, .inr (8, G8 xa xtrialRule xdropRule xtoday)), ((xa 9), .inr (6, G6 ta tsize trule twords tat tword twordAt tvalue)), ((ta 0), .inl (E 0, 120, .inl tf0))] sz) (fun (u : (Nat → Int32) × (Int32)) => [(xh, .inr (8, G8 xa xtrialRule xdropRule xtoday)), ((xa 9), .inr (6, G6 ta u.2 trule twords tat tword twordAt tvalue)), ((ta 0), .inl (E 0, 120, .inl u.1))])) (va_A [(xh, .inr (8, G8 xa xtrialRule xdropRule xtoday)), ((xa 9), .inr (6, G6 ta tsize trule twords tat tword twordAt tvalue)), ((ta 0), .inl (E 0, 120, .inl tf0))] sz)) 0 0 (va_A [(xh, .inr (8, G8 xa xtrialRule xdropRule xtoday)), ((xa 9), .inr (6, G6 ta tsize trule twords tat tword twordAt tvalue)), ((ta 0), .inl (E 0, 120, .inl tf0))] sz) := by
  refine Met.ofW (cc := cX8_feed) (maxL := 4) (ret := (some .int)) (by decide) rfl ?_
  intro p e s m args below meth c s₁ B hml hv
  obtain ⟨rfl, hsz, hP, hK, hD0⟩ := hv
  have hx := B.exec; have hb := B.bytes; have hr := B.returns
  have hts := atoms_spec (ws := wl yX8_feed cX8_feed 4 (some .int)) B.pre
  have htb : ∀ w ∈ tb, w.before _ s = true := fun w h => hts w (List.mem_cons_of_mem _ h)
  have hown : s.vm.findClass RX8 = some m.cls := findClass_of_methodNamed B.named
  have hlocks := B.notSynchronized
  subst hsz
  have hD := hD0.self (sz := s.heap.size)
  generalize hAe : va_A [(xh, .inr (8, G8 xa xtrialRule xdropRule xtoday)), ((xa 9), .inr (6, G6 ta tsize trule twords tat tword twordAt tvalue)), ((ta 0), .inl (E 0, 120, .inl tf0))] s.heap.size = A at hD ⊢
  have hA : ∀ q : Nat, s.heap.size ≤ q → A q := fun q h => by rw [← hAe]; exact Or.inr h
  have hS : va_S A s.heap s.heap [] := va_S.rf
  have hP : va_P D vwCl [(xh, .inr (8, G8 xa xtrialRule xdropRule xtoday)), ((xa 9), .inr (6, G6 ta tsize trule twords tat tword twordAt tvalue)), ((ta 0), .inl (E 0, 120, .inl tf0))] s.heap := hP
  have hl := lv_entry ([.ref xh, .int p0, .int p1]) (n := 4) (Nat.le_of_ble_eq_true rfl)
  rw [lg_entry_eq]
  generalize (lg_sl ([.ref xh, .int p0, .int p1]) ++ List.replicate (4 - (lg_sl ([.ref xh, .int p0, .int p1])).length) Slot.unset).toArray = ls at hl ⊢
  have hl : lv_has ls 4 [(0, .ref xh), (1, .int p0), (2, .int p1)] := hl
  have lo_p0 := i_lo p0; have hi_p0 := i_hi p0
  have lo_p1 := i_lo p1; have hi_p1 := i_hi p1
  refine lv_iload_n hx hb dX8_feed_0 rfl (lv_at hl 1 rfl) ?_
  refine lv_iconst (v := 1) hx hb dX8_feed_1 (by decide) ?_
  refine lv_icmp_lt (tgt := 10) hx hb dX8_feed_2 (by decide) (fun c_1 => ?_) (fun c_1 => ?_)
  ·
    have ic_1 : p0.toInt < 1 := by first | exact (g_lt rfl t_1).mp c_1 | (have h := mt (g_le t_1 rfl).mpr c_1; omega)
    clear c_1
    refine lv_iconst (v := (-1)) hx hb dX8_feed_10 (by decide) ?_
    have hP9 := hP.sub (ws' := [(xh, .inr (8, G8 xa xtrialRule xdropRule xtoday)), ((xa 9), .inr (6, G6 ta tsize trule twords tat tword twordAt tvalue)), ((ta 0), .inl (E 0, 120, .inl tf0))]) [0, 1, 2] rfl
    have hD9 := hD.sub (ws' := [(xh, .inr (8, G8 xa xtrialRule xdropRule xtoday)), ((xa 9), .inr (6, G6 ta tsize trule twords tat tword twordAt tvalue)), ((ta 0), .inl (E 0, 120, .inl tf0))]) [0, 1, 2] (by decide) rfl
    exact W.iret (v := (-1)) hx hb hr (fun t ht hW => ⟨⟨(-1), (tf0, tsize), rfl, ⟨(by (try dsimp only); omega), (by have h0 := t_m1; (try dsimp only); omega)⟩, by rw [ht]; exact hP9, hD9⟩, hS.F ht⟩) hS.2.2 dX8_feed_11
  ·
    have ic_1 : 1 ≤ p0.toInt := by first | exact (g_le t_1 rfl).mp c_1 | (have h := mt (g_lt rfl t_1).mpr c_1; omega)
    clear c_1
    refine lv_iload_n hx hb dX8_feed_5 rfl (lv_at hl 1 rfl) ?_
    refine lv_iconst (v := 4) hx hb dX8_feed_6 (by decide) ?_
    refine lv_icmp_le (tgt := 12) hx hb dX8_feed_7 (by decide) (fun c_2 => ?_) (fun c_2 => ?_)
    ·
      have ic_2 : p0.toInt ≤ 4 := by first | exact (g_le rfl t_4).mp c_2 | (have h := mt (g_lt t_4 rfl).mpr c_2; omega)
      clear c_2
      refine lv_aload_n hx hb dX8_feed_12 rfl (lv_at hl 0 rfl) ?_
      refine va_get (D := D) (ci := 8) (v := .ref (xa 9)) (C := RX8) (T := TX8) (N := 14) hx hb htb iX8 hown hK.1 hP 0 rfl rfl 9 (by decide) (htb _ k_281) (fun _ h9 => h9) rfl dX8_feed_13 ?_
      refine va_getN (D := D) (ci := 6) (v := .int tsize) (C := RX6) (T := TX6) (N := 8) hx hb htb iX6 hown hK.1 hP 1 rfl rfl 1 (by decide) (va_Nw.use rfl (hK.2.1 (Cond.fieldLinkNest RX8 179 "SeaWatches$Tape" "size" "I" "SeaWatches") (by decide +kernel))) (fun _ h9 => h9) rfl dX8_feed_16 ?_
      refine lv_iload_n hx hb dX8_feed_19 rfl (lv_at hl 1 rfl) ?_
      refine lv_iadd hx hb dX8_feed_20 ?_
      refine lv_topi (fun z_3 ez_3 => ?_)
      have jz_3 : z_3.toInt = tsize.toInt + p0.toInt := by rw [ez_3]; exact g_add rfl rfl (by omega) (by omega)
      refine lv_bipush (v := 120) hx hb dX8_feed_21 (by decide) ?_
      refine lv_icmp_le (tgt := 29) hx hb dX8_feed_23 (by decide) (fun c_4 => ?_) (fun c_4 => ?_)
      ·
        have ic_4 : z_3.toInt ≤ 120 := by first | exact (g_le rfl t_120).mp c_4 | (have h := mt (g_lt t_120 rfl).mpr c_4; omega)
        clear c_4
        refine lv_iconst (v := 0) hx hb dX8_feed_29 (by decide) ?_
        refine lv_istore_n (lv' := [(3, .int 0), (0, .ref xh), (1, .int p0), (2, .int p1)]) hx hb dX8_feed_30 rfl hl (by decide) rfl (fun ls hl => ?_)
        have loop_5 : ∀ (N_7 : Nat) (L3_31 : Int32) (tsize_31 : Int32) (tf0_31 : Nat → Int32) (H : Heap) (locs : List Loc) (ls : Array Slot), p0.toInt - L3_31.toInt < (N_7 : Int) → (0 ≤ tsize_31.toInt ∧ tsize_31.toInt ≤ 120) → (0 ≤ L3_31.toInt ∧ L3_31.toInt ≤ p0.toInt) → (tsize_31.toInt = tsize.toInt + L3_31.toInt) → va_P D vwCl [(xh, .inr (8, G8 xa xtrialRule xdropRule xtoday)), ((xa 9), .inr (6, G6 ta tsize_31 trule twords tat tword twordAt tvalue)), ((ta 0), .inl (E 0, 120, .inl tf0_31))] H → va_D A [(xh, .inr (8, G8 xa xtrialRule xdropRule xtoday)), ((xa 9), .inr (6, G6 ta tsize_31 trule twords tat tword twordAt tvalue)), ((ta 0), .inl (E 0, 120, .inl tf0_31))] → va_S A s.heap H locs → lv_has ls 4 [(3, .int L3_31), (0, .ref xh), (1, .int p0), (2, .int p1)] → W p l e (headSpec (wl yX8_feed cX8_feed 4 (some .int)) (RM 1 0 0)).room s m [Value.ref xh, .int p0, .int p1].toArray below meth c H locs 0 0 (MQ below (va_Qi (fun (r : Int32) (u : (Nat → Int32) × (Int32)) => (0 ≤ u.2.toInt ∧ u.2.toInt ≤ 120) ∧ ((¬ (1 ≤ p0.toInt ∧ p0.toInt ≤ 4) ∧ r.toInt = -1 ∧ u.2.toInt = tsize.toInt) ∨ ((1 ≤ p0.toInt ∧ p0.toInt ≤ 4) ∧ 120 < tsize.toInt + p0.toInt ∧ r.toInt = -5 ∧ u.2.toInt = tsize.toInt) ∨ ((1 ≤ p0.toInt ∧ p0.toInt ≤ 4) ∧ tsize.toInt + p0.toInt ≤ 120 ∧ r.toInt = tsize.toInt + p0.toInt ∧ u.2.toInt = r.toInt))) (mu_B D A (fun (u : (Nat → Int32) × (Int32)) => [(xh, .inr (8, G8 xa xtrialRule xdropRule xtoday)), ((xa 9), .inr (6, G6 ta u.2 trule twords tat tword twordAt tvalue)), ((ta 0), .inl (E 0, 120, .inl u.1))])) A) [Value.ref xh, .int p0, .int p1].toArray s 0 0 A) (F0 m 31 ls []) := by
          intro N_7
          induction N_7 with
          | zero => intro L3_31 tsize_31 tf0_31 H locs ls hm v_tsize_31 v0_31 v1_31 _ _ _ _; exfalso; omega
          | succ N_7 ih_6 =>
            intro L3_31 tsize_31 tf0_31 H locs ls hm v_tsize_31 v0_31 v1_31 hP hD hS hl
            have lo_L3_31 := i_lo L3_31; have hi_L3_31 := i_hi L3_31
            have lo_tsize_31 := i_lo tsize_31; have hi_tsize_31 := i_hi tsize_31
            refine lv_iload_n hx hb dX8_feed_31 rfl (lv_at hl 0 rfl) ?_
            refine lv_iload_n hx hb dX8_feed_32 rfl (lv_at hl 2 rfl) ?_
            refine lv_icmp_ge (tgt := 59) hx hb dX8_feed_33 (by decide) (fun c_8 => ?_) (fun c_8 => ?_)
            ·
              have ic_8 : p0.toInt ≤ L3_31.toInt := by first | exact (g_le rfl rfl).mp c_8 | (have h := mt (g_lt rfl rfl).mpr c_8; omega)
              clear c_8
              refine lv_aload_n hx hb dX8_feed_59 rfl (lv_at hl 1 rfl) ?_
              refine va_get (D := D) (ci := 8) (v := .ref (xa 9)) (C := RX8) (T := TX8) (N := 14) hx hb htb iX8 hown hK.1 hP 0 rfl rfl 9 (by decide) (htb _ k_281) (fun _ h9 => h9) rfl dX8_feed_60 ?_
              refine va_getN (D := D) (ci := 6) (v := .int tsize_31) (C := RX6) (T := TX6) (N := 8) hx hb htb iX6 hown hK.1 hP 1 rfl rfl 1 (by decide) (va_Nw.use rfl (hK.2.1 (Cond.fieldLinkNest RX8 179 "SeaWatches$Tape" "size" "I" "SeaWatches") (by decide +kernel))) (fun _ h9 => h9) rfl dX8_feed_63 ?_
              have hP9 := hP.sub (ws' := [(xh, .inr (8, G8 xa xtrialRule xdropRule xtoday)), ((xa 9), .inr (6, G6 ta tsize_31 trule twords tat tword twordAt tvalue)), ((ta 0), .inl (E 0, 120, .inl tf0_31))]) [0, 1, 2] rfl
              have hD9 := hD.sub (ws' := [(xh, .inr (8, G8 xa xtrialRule xdropRule xtoday)), ((xa 9), .inr (6, G6 ta tsize_31 trule twords tat tword twordAt tvalue)), ((ta 0), .inl (E 0, 120, .inl tf0_31))]) [0, 1, 2] (by decide) rfl
              exact W.iret (v := tsize_31) hx hb hr (fun t ht hW => ⟨⟨tsize_31, (tf0_31, tsize_31), rfl, ⟨(by (try dsimp only); omega), (by (try dsimp only); omega)⟩, by rw [ht]; exact hP9, hD9⟩, hS.F ht⟩) hS.2.2 dX8_feed_66
            ·
              have ic_8 : L3_31.toInt < p0.toInt := by first | exact (g_lt rfl rfl).mp c_8 | (have h := mt (g_le rfl rfl).mpr c_8; omega)
              clear c_8
              refine lv_aload_n hx hb dX8_feed_36 rfl (lv_at hl 1 rfl) ?_
              refine va_get (D := D) (ci := 8) (v := .ref (xa 9)) (C := RX8) (T := TX8) (N := 14) hx hb htb iX8 hown hK.1 hP 0 rfl rfl 9 (by decide) (htb _ k_281) (fun _ h9 => h9) rfl dX8_feed_37 ?_
              refine lv_iload_n hx hb dX8_feed_40 rfl (lv_at hl 3 rfl) ?_
              refine lv_bipush (v := 8) hx hb dX8_feed_41 (by decide) ?_
              refine lv_iload_n hx hb dX8_feed_43 rfl (lv_at hl 0 rfl) ?_
              refine lv_imul hx hb dX8_feed_44 ?_
              refine lv_topi (fun z_9 ez_9 => ?_)
              have jz_9 : z_9.toInt = 8 * L3_31.toInt := by rw [ez_9]; exact g_mul t_8 rfl (by omega) (by omega)
              refine lv_ishr hx hb dX8_feed_45 ?_
              refine lv_topi (fun z_10 ez_10 => ?_)
              refine lv_sipush (v := 255) hx hb dX8_feed_46 (by decide) ?_
              refine lv_iand hx hb dX8_feed_49 ?_
              refine lv_topi (fun z_11 ez_11 => ?_)
              have hPc := hP.sub (ws' := [((xa 9), .inr (6, G6 ta tsize_31 trule twords tat tword twordAt tvalue)), ((ta 0), .inl (E 0, 120, .inl tf0_31))]) [1, 2] rfl
              have hDc := hD.sub (ws' := [((xa 9), .inr (6, G6 ta tsize_31 trule twords tat tword twordAt tvalue)), ((ta 0), .inl (E 0, 120, .inl tf0_31))]) [1, 2] (by decide) rfl
              refine aft_v (runMV (rest := []) (As := [.int z_11]) hx hb hml hown htb hK (g_X6_add l D E (xa 9) ta tsize_31 trule twords tat tword twordAt tvalue tf0_31 z_11 _ (by (try dsimp only); omega)) ok_X6_add k_577 k_578 k_579 k_5 k_580 ⟨(Nat.le_of_ble_eq_true rfl), (Nat.le_of_ble_eq_true rfl)⟩ ⟨(Nat.le_of_ble_eq_true rfl), (Nat.le_of_ble_eq_true rfl)⟩ hl.1 (Nat.le_of_ble_eq_true rfl) rfl rfl dX8_feed_50 hPc hDc rfl rfl 0 rfl) hP hD hS hA [1, 2] [0] (wr := [(xh, .inr (8, G8 xa xtrialRule xdropRule xtoday))]) rfl rfl (by decide) (by decide) (fun u_14 H locs hw_13 hP hD hS => ?_)
              clear hPc hDc
              obtain ⟨w_15, w_16⟩ := u_14
              try dsimp only at hw_13
              have hP : va_P D vwCl [(xh, .inr (8, G8 xa xtrialRule xdropRule xtoday)), ((xa 9), .inr (6, G6 ta w_16 trule twords tat tword twordAt tvalue)), ((ta 0), .inl (E 0, 120, .inl w_15))] H := hP
              have hD := toW hP hD rfl
              obtain ⟨hw_13_0, hw_13_1⟩ := hw_13
              obtain ⟨z_17, ez_17⟩ : ∃ y : Int32, y = L3_31 + 1 := ⟨_, rfl⟩
              have jz_17 : z_17.toInt = L3_31.toInt + 1 := by rw [ez_17]; exact g_add rfl t_1 (by omega) (by omega)
              refine lv_iinc (v := z_17) (lv' := [(3, .int z_17), (0, .ref xh), (1, .int p0), (2, .int p1)]) hx hb dX8_feed_53 hl (k := 0) rfl (by rw [ez_17]; rfl) (by decide) rfl (fun ls hl => ?_)
              refine lv_goto (tgt := 31) hx hb dX8_feed_56 (by decide) ?_
              exact ih_6 z_17 w_16 w_15 _ _ _ (by (try dsimp only); omega) (by (try dsimp only); omega) (by (try dsimp only); omega) (by (try dsimp only); omega) hP hD hS (lv_sub hl [0, 1, 2, 3] rfl)
        exact loop_5 5 0 tsize tf0 _ _ _ (by have h0 := t_0; (try dsimp only); omega) (by (try dsimp only); omega) (by have h0 := t_0; (try dsimp only); omega) (by have h0 := t_0; (try dsimp only); omega) hP hD hS (lv_sub hl [0, 1, 2, 3] rfl)
      ·
        have ic_4 : 120 < z_3.toInt := by first | exact (g_lt t_120 rfl).mp c_4 | (have h := mt (g_le rfl t_120).mpr c_4; omega)
        clear c_4
        refine lv_bipush (v := (-5)) hx hb dX8_feed_26 (by decide) ?_
        have hP9 := hP.sub (ws' := [(xh, .inr (8, G8 xa xtrialRule xdropRule xtoday)), ((xa 9), .inr (6, G6 ta tsize trule twords tat tword twordAt tvalue)), ((ta 0), .inl (E 0, 120, .inl tf0))]) [0, 1, 2] rfl
        have hD9 := hD.sub (ws' := [(xh, .inr (8, G8 xa xtrialRule xdropRule xtoday)), ((xa 9), .inr (6, G6 ta tsize trule twords tat tword twordAt tvalue)), ((ta 0), .inl (E 0, 120, .inl tf0))]) [0, 1, 2] (by decide) rfl
        exact W.iret (v := (-5)) hx hb hr (fun t ht hW => ⟨⟨(-5), (tf0, tsize), rfl, ⟨(by (try dsimp only); omega), (by have h0 := t_m5; (try dsimp only); omega)⟩, by rw [ht]; exact hP9, hD9⟩, hS.F ht⟩) hS.2.2 dX8_feed_28
    ·
      have ic_2 : 4 < p0.toInt := by first | exact (g_lt t_4 rfl).mp c_2 | (have h := mt (g_le rfl t_4).mpr c_2; omega)
      clear c_2
      refine lv_iconst (v := (-1)) hx hb dX8_feed_10 (by decide) ?_
      have hP9 := hP.sub (ws' := [(xh, .inr (8, G8 xa xtrialRule xdropRule xtoday)), ((xa 9), .inr (6, G6 ta tsize trule twords tat tword twordAt tvalue)), ((ta 0), .inl (E 0, 120, .inl tf0))]) [0, 1, 2] rfl
      have hD9 := hD.sub (ws' := [(xh, .inr (8, G8 xa xtrialRule xdropRule xtoday)), ((xa 9), .inr (6, G6 ta tsize trule twords tat tword twordAt tvalue)), ((ta 0), .inl (E 0, 120, .inl tf0))]) [0, 1, 2] (by decide) rfl
      exact W.iret (v := (-1)) hx hb hr (fun t ht hW => ⟨⟨(-1), (tf0, tsize), rfl, ⟨(by (try dsimp only); omega), (by have h0 := t_m1; (try dsimp only); omega)⟩, by rw [ht]; exact hP9, hD9⟩, hS.F ht⟩) hS.2.2 dX8_feed_11
set_option maxHeartbeats 4000000 in
set_option maxRecDepth 100000 in
theorem g_X8_doubt (l : Launch) (D : va_G) (E : Nat → Nat) (xh : Nat) (xa : Nat → Nat) (xtrialRule : Nat) (xdropRule : Nat) (xtoday : Int32) (da : Nat → Nat) (dlisted : Int32) (dshared : Int32) (dsailing : Int32) (dleastWorst : Int32) (df0 : Nat → Int32) (p0 : Int32) (sz : Nat) (hi_x : (0 ≤ xtoday.toInt ∧ xtoday.toInt ≤ 399)) (hi_d : (0 ≤ dlisted.toInt ∧ dlisted.toInt ≤ 9) ∧ (0 ≤ dshared.toInt ∧ dshared.toInt ≤ 9) ∧ (0 ≤ dsailing.toInt ∧ dsailing.toInt ≤ 3)) : Met l yX8_doubt (wl yX8_doubt cX8_doubt 2 (some .int)) (RM 1 0 0) (mu_P D E [.ref xh, .int p0] [(xh, .inr (8, G8 xa xtrialRule xdropRule xtoday)), ((xa 10), .inr (0, G0 da dlisted dshared dsailing dleastWorst)), ((da 0), .inl (E 0, 9, .inl df0))] sz) (va_Qi (fun (r : Int32) (u : (Nat → Int32) × (Int32)) => (0 ≤ u.2.toInt ∧ u.2.toInt ≤ 9) ∧ ((¬ (1 ≤ p0.toInt ∧ p0.toInt ≤ 9999) ∧ r.toInt = -1 ∧ u.2.toInt = dlisted.toInt) ∨ ((1 ≤ p0.toInt ∧ p0.toInt ≤ 9999) ∧ dlisted.toInt = 9 ∧ r.toInt = -5 ∧ u.2.toInt = dlisted.toInt) ∨ ((1 ≤ p0.toInt ∧ p0.toInt ≤ 9999) ∧ dlisted.toInt < 9 ∧ r.toInt = dlisted.toInt + 1 ∧ u.2.toInt = r.toInt))) (mu_B D (va_A [(xh, .inr (8, G8 xa xtrialRule xdropRule xtoday)), ((xa 10), .inr (0, G0 da dlisted dshared dsailing dleastWorst)), ((da 0), .inl (E 0, 9, .inl df0))] sz) (fun (u : (Nat → Int32) × (Int32)) => [(xh, .inr (8, G8 xa xtrialRule xdropRule xtoday)), ((xa 10), .inr (0, G0 da u.2 dshared dsailing dleastWorst)), ((da 0), .inl (E 0, 9, .inl u.1))])) (va_A [(xh, .inr (8, G8 xa xtrialRule xdropRule xtoday)), ((xa 10), .inr (0, G0 da dlisted dshared dsailing dleastWorst)), ((da 0), .inl (E 0, 9, .inl df0))] sz)) 0 0 (va_A [(xh, .inr (8, G8 xa xtrialRule xdropRule xtoday)), ((xa 10), .inr (0, G0 da dlisted dshared dsailing dleastWorst)), ((da 0), .inl (E 0, 9, .inl df0))] sz) := by
  refine Met.ofW (cc := cX8_doubt) (maxL := 2) (ret := (some .int)) (by decide) rfl ?_
  intro p e s m args below meth c s₁ B hml hv
  obtain ⟨rfl, hsz, hP, hK, hD0⟩ := hv
  have hx := B.exec; have hb := B.bytes; have hr := B.returns
  have hts := atoms_spec (ws := wl yX8_doubt cX8_doubt 2 (some .int)) B.pre
  have htb : ∀ w ∈ tb, w.before _ s = true := fun w h => hts w (List.mem_cons_of_mem _ h)
  have hown : s.vm.findClass RX8 = some m.cls := findClass_of_methodNamed B.named
  have hlocks := B.notSynchronized
  subst hsz
  have hD := hD0.self (sz := s.heap.size)
  generalize hAe : va_A [(xh, .inr (8, G8 xa xtrialRule xdropRule xtoday)), ((xa 10), .inr (0, G0 da dlisted dshared dsailing dleastWorst)), ((da 0), .inl (E 0, 9, .inl df0))] s.heap.size = A at hD ⊢
  have hA : ∀ q : Nat, s.heap.size ≤ q → A q := fun q h => by rw [← hAe]; exact Or.inr h
  have hS : va_S A s.heap s.heap [] := va_S.rf
  have hP : va_P D vwCl [(xh, .inr (8, G8 xa xtrialRule xdropRule xtoday)), ((xa 10), .inr (0, G0 da dlisted dshared dsailing dleastWorst)), ((da 0), .inl (E 0, 9, .inl df0))] s.heap := hP
  have hl := lv_entry ([.ref xh, .int p0]) (n := 2) (Nat.le_of_ble_eq_true rfl)
  rw [lg_entry_eq]
  generalize (lg_sl ([.ref xh, .int p0]) ++ List.replicate (2 - (lg_sl ([.ref xh, .int p0])).length) Slot.unset).toArray = ls at hl ⊢
  have hl : lv_has ls 2 [(0, .ref xh), (1, .int p0)] := hl
  have lo_p0 := i_lo p0; have hi_p0 := i_hi p0
  refine lv_iload_n hx hb dX8_doubt_0 rfl (lv_at hl 1 rfl) ?_
  refine lv_iconst (v := 1) hx hb dX8_doubt_1 (by decide) ?_
  refine lv_icmp_lt (tgt := 12) hx hb dX8_doubt_2 (by decide) (fun c_1 => ?_) (fun c_1 => ?_)
  ·
    have ic_1 : p0.toInt < 1 := by first | exact (g_lt rfl t_1).mp c_1 | (have h := mt (g_le t_1 rfl).mpr c_1; omega)
    clear c_1
    refine lv_iconst (v := (-1)) hx hb dX8_doubt_12 (by decide) ?_
    have hP9 := hP.sub (ws' := [(xh, .inr (8, G8 xa xtrialRule xdropRule xtoday)), ((xa 10), .inr (0, G0 da dlisted dshared dsailing dleastWorst)), ((da 0), .inl (E 0, 9, .inl df0))]) [0, 1, 2] rfl
    have hD9 := hD.sub (ws' := [(xh, .inr (8, G8 xa xtrialRule xdropRule xtoday)), ((xa 10), .inr (0, G0 da dlisted dshared dsailing dleastWorst)), ((da 0), .inl (E 0, 9, .inl df0))]) [0, 1, 2] (by decide) rfl
    exact W.iret (v := (-1)) hx hb hr (fun t ht hW => ⟨⟨(-1), (df0, dlisted), rfl, ⟨(by (try dsimp only); omega), (by have h0 := t_m1; (try dsimp only); omega)⟩, by rw [ht]; exact hP9, hD9⟩, hS.F ht⟩) hS.2.2 dX8_doubt_13
  ·
    have ic_1 : 1 ≤ p0.toInt := by first | exact (g_le t_1 rfl).mp c_1 | (have h := mt (g_lt rfl t_1).mpr c_1; omega)
    clear c_1
    refine lv_iload_n hx hb dX8_doubt_5 rfl (lv_at hl 1 rfl) ?_
    refine lv_sipush (v := 9999) hx hb dX8_doubt_6 (by decide) ?_
    refine lv_icmp_le (tgt := 14) hx hb dX8_doubt_9 (by decide) (fun c_2 => ?_) (fun c_2 => ?_)
    ·
      have ic_2 : p0.toInt ≤ 9999 := by first | exact (g_le rfl t_9999).mp c_2 | (have h := mt (g_lt t_9999 rfl).mpr c_2; omega)
      clear c_2
      refine lv_aload_n hx hb dX8_doubt_14 rfl (lv_at hl 0 rfl) ?_
      refine va_get (D := D) (ci := 8) (v := .ref (xa 10)) (C := RX8) (T := TX8) (N := 14) hx hb htb iX8 hown hK.1 hP 0 rfl rfl 10 (by decide) (htb _ k_282) (fun _ h9 => h9) rfl dX8_doubt_15 ?_
      refine va_getN (D := D) (ci := 0) (v := .int dlisted) (C := RX0) (T := TX0) (N := 9) hx hb htb iX0 hown hK.1 hP 1 rfl rfl 5 (by decide) (va_Nw.use rfl (hK.2.1 (Cond.fieldLinkNest RX8 275 "SeaWatches$Dealing" "listed" "I" "SeaWatches") (by decide +kernel))) (fun _ h9 => h9) rfl dX8_doubt_18 ?_
      refine lv_bipush (v := 9) hx hb dX8_doubt_21 (by decide) ?_
      refine lv_icmp_lt (tgt := 29) hx hb dX8_doubt_23 (by decide) (fun c_3 => ?_) (fun c_3 => ?_)
      ·
        have ic_3 : dlisted.toInt < 9 := by first | exact (g_lt rfl t_9).mp c_3 | (have h := mt (g_le t_9 rfl).mpr c_3; omega)
        clear c_3
        refine lv_aload_n hx hb dX8_doubt_29 rfl (lv_at hl 0 rfl) ?_
        refine va_get (D := D) (ci := 8) (v := .ref (xa 10)) (C := RX8) (T := TX8) (N := 14) hx hb htb iX8 hown hK.1 hP 0 rfl rfl 10 (by decide) (htb _ k_282) (fun _ h9 => h9) rfl dX8_doubt_30 ?_
        refine lv_iload_n hx hb dX8_doubt_33 rfl (lv_at hl 1 rfl) ?_
        have hPc := hP.sub (ws' := [((xa 10), .inr (0, G0 da dlisted dshared dsailing dleastWorst)), ((da 0), .inl (E 0, 9, .inl df0))]) [1, 2] rfl
        have hDc := hD.sub (ws' := [((xa 10), .inr (0, G0 da dlisted dshared dsailing dleastWorst)), ((da 0), .inl (E 0, 9, .inl df0))]) [1, 2] (by decide) rfl
        refine aft_v (runMV (rest := []) (As := [.int p0]) hx hb hml hown htb hK (g_X0_add l D E (xa 10) da dlisted dshared dsailing dleastWorst df0 p0 _ (by (try dsimp only); omega)) ok_X0_add k_890 k_891 k_892 k_7 k_893 ⟨(Nat.le_of_ble_eq_true rfl), (Nat.le_of_ble_eq_true rfl)⟩ ⟨(Nat.le_of_ble_eq_true rfl), (Nat.le_of_ble_eq_true rfl)⟩ hl.1 (Nat.le_of_ble_eq_true rfl) rfl rfl dX8_doubt_34 hPc hDc rfl rfl 0 rfl) hP hD hS hA [1, 2] [0] (wr := [(xh, .inr (8, G8 xa xtrialRule xdropRule xtoday))]) rfl rfl (by decide) (by decide) (fun u_6 H locs hw_5 hP hD hS => ?_)
        clear hPc hDc
        obtain ⟨w_7, w_8⟩ := u_6
        try dsimp only at hw_5
        have hP : va_P D vwCl [(xh, .inr (8, G8 xa xtrialRule xdropRule xtoday)), ((xa 10), .inr (0, G0 da w_8 dshared dsailing dleastWorst)), ((da 0), .inl (E 0, 9, .inl w_7))] H := hP
        have hD := toW hP hD rfl
        obtain ⟨hw_5_0, hw_5_1⟩ := hw_5
        refine lv_aload_n hx hb dX8_doubt_37 rfl (lv_at hl 0 rfl) ?_
        refine va_get (D := D) (ci := 8) (v := .ref (xa 10)) (C := RX8) (T := TX8) (N := 14) hx hb htb iX8 hown hK.1 hP 0 rfl rfl 10 (by decide) (htb _ k_282) (fun _ h9 => h9) rfl dX8_doubt_38 ?_
        refine va_getN (D := D) (ci := 0) (v := .int w_8) (C := RX0) (T := TX0) (N := 9) hx hb htb iX0 hown hK.1 hP 1 rfl rfl 5 (by decide) (va_Nw.use rfl (hK.2.1 (Cond.fieldLinkNest RX8 275 "SeaWatches$Dealing" "listed" "I" "SeaWatches") (by decide +kernel))) (fun _ h9 => h9) rfl dX8_doubt_41 ?_
        have hP9 := hP.sub (ws' := [(xh, .inr (8, G8 xa xtrialRule xdropRule xtoday)), ((xa 10), .inr (0, G0 da w_8 dshared dsailing dleastWorst)), ((da 0), .inl (E 0, 9, .inl w_7))]) [0, 1, 2] rfl
        have hD9 := hD.sub (ws' := [(xh, .inr (8, G8 xa xtrialRule xdropRule xtoday)), ((xa 10), .inr (0, G0 da w_8 dshared dsailing dleastWorst)), ((da 0), .inl (E 0, 9, .inl w_7))]) [0, 1, 2] (by decide) rfl
        exact W.iret (v := w_8) hx hb hr (fun t ht hW => ⟨⟨w_8, (w_7, w_8), rfl, ⟨(by (try dsimp only); omega), (by (try dsimp only); omega)⟩, by rw [ht]; exact hP9, hD9⟩, hS.F ht⟩) hS.2.2 dX8_doubt_44
      ·
        have ic_3 : 9 ≤ dlisted.toInt := by first | exact (g_le t_9 rfl).mp c_3 | (have h := mt (g_lt rfl t_9).mpr c_3; omega)
        clear c_3
        refine lv_bipush (v := (-5)) hx hb dX8_doubt_26 (by decide) ?_
        have hP9 := hP.sub (ws' := [(xh, .inr (8, G8 xa xtrialRule xdropRule xtoday)), ((xa 10), .inr (0, G0 da dlisted dshared dsailing dleastWorst)), ((da 0), .inl (E 0, 9, .inl df0))]) [0, 1, 2] rfl
        have hD9 := hD.sub (ws' := [(xh, .inr (8, G8 xa xtrialRule xdropRule xtoday)), ((xa 10), .inr (0, G0 da dlisted dshared dsailing dleastWorst)), ((da 0), .inl (E 0, 9, .inl df0))]) [0, 1, 2] (by decide) rfl
        exact W.iret (v := (-5)) hx hb hr (fun t ht hW => ⟨⟨(-5), (df0, dlisted), rfl, ⟨(by (try dsimp only); omega), (by have h0 := t_m5; (try dsimp only); omega)⟩, by rw [ht]; exact hP9, hD9⟩, hS.F ht⟩) hS.2.2 dX8_doubt_28
    ·
      have ic_2 : 9999 < p0.toInt := by first | exact (g_lt t_9999 rfl).mp c_2 | (have h := mt (g_le rfl t_9999).mpr c_2; omega)
      clear c_2
      refine lv_iconst (v := (-1)) hx hb dX8_doubt_12 (by decide) ?_
      have hP9 := hP.sub (ws' := [(xh, .inr (8, G8 xa xtrialRule xdropRule xtoday)), ((xa 10), .inr (0, G0 da dlisted dshared dsailing dleastWorst)), ((da 0), .inl (E 0, 9, .inl df0))]) [0, 1, 2] rfl
      have hD9 := hD.sub (ws' := [(xh, .inr (8, G8 xa xtrialRule xdropRule xtoday)), ((xa 10), .inr (0, G0 da dlisted dshared dsailing dleastWorst)), ((da 0), .inl (E 0, 9, .inl df0))]) [0, 1, 2] (by decide) rfl
      exact W.iret (v := (-1)) hx hb hr (fun t ht hW => ⟨⟨(-1), (df0, dlisted), rfl, ⟨(by (try dsimp only); omega), (by have h0 := t_m1; (try dsimp only); omega)⟩, by rw [ht]; exact hP9, hD9⟩, hS.F ht⟩) hS.2.2 dX8_doubt_13
set_option maxHeartbeats 4000000 in
set_option maxRecDepth 100000 in
theorem g_X8_deal (l : Launch) (D : va_G) (E : Nat → Nat) (xh : Nat) (xa : Nat → Nat) (xtrialRule : Nat) (xdropRule : Nat) (xtoday : Int32) (da : Nat → Nat) (dlisted : Int32) (dshared : Int32) (dsailing : Int32) (dleastWorst : Int32) (df0 : Nat → Int32) (df1 : Nat → Int32) (df2 : Nat → Int32) (df3 : Nat → Int32) (df4 : Nat → Int32) (p0 : Int32) (p1 : Int32) (p2 : Int32) (sz : Nat) (hi_x : (0 ≤ xtoday.toInt ∧ xtoday.toInt ≤ 399)) (hi_d : (0 ≤ dlisted.toInt ∧ dlisted.toInt ≤ 9) ∧ (0 ≤ dshared.toInt ∧ dshared.toInt ≤ 9) ∧ (0 ≤ dsailing.toInt ∧ dsailing.toInt ≤ 3)) : Met l yX8_deal (wl yX8_deal cX8_deal 5 (some .int)) (RM 14 0 0) (mu_P D E [.ref xh, .int p0, .int p1, .int p2] [(xh, .inr (8, G8 xa xtrialRule xdropRule xtoday)), ((xa 10), .inr (0, G0 da dlisted dshared dsailing dleastWorst)), ((da 0), .inl (E 0, 9, .inl df0)), ((da 1), .inl (E 0, 9, .inl df1)), ((da 2), .inl (E 0, 9, .inl df2)), ((da 3), .inl (E 0, 3, .inl df3)), ((da 4), .inl (E 0, 3, .inl df4))] sz) (va_Qi (fun (r : Int32) (u : (Nat → Int32) × (Nat → Int32) × (Nat → Int32) × (Nat → Int32) × (Int32) × (Int32) × (Int32) × (Int32)) => (0 ≤ u.2.2.2.2.2.1.toInt ∧ u.2.2.2.2.2.1.toInt ≤ 9) ∧ (0 ≤ u.2.2.2.2.2.2.1.toInt ∧ u.2.2.2.2.2.2.1.toInt ≤ 3) ∧ (0 ≤ u.2.2.2.2.2.2.2.toInt ∧ u.2.2.2.2.2.2.2.toInt ≤ 9) ∧ ((¬ ((1 ≤ p0.toInt ∧ p0.toInt ≤ 400) ∧ (0 ≤ p1.toInt ∧ p1.toInt ≤ 400) ∧ (0 ≤ p2.toInt ∧ p2.toInt ≤ 400) ∧ ¬ (p1.toInt = 0 ∧ p2.toInt ≠ 0)) ∧ r.toInt = -1 ∧ u.2.2.2.2.2.1.toInt = dlisted.toInt) ∨ (((1 ≤ p0.toInt ∧ p0.toInt ≤ 400) ∧ (0 ≤ p1.toInt ∧ p1.toInt ≤ 400) ∧ (0 ≤ p2.toInt ∧ p2.toInt ≤ 400) ∧ ¬ (p1.toInt = 0 ∧ p2.toInt ≠ 0)) ∧ ((p1.toInt = 0 ∧ dlisted.toInt < 3) ∨ (p1.toInt ≠ 0 ∧ p2.toInt = 0 ∧ dlisted.toInt < 6) ∨ (p1.toInt ≠ 0 ∧ p2.toInt ≠ 0 ∧ dlisted.toInt < 9)) ∧ r.toInt = -4 ∧ u.2.2.2.2.2.1.toInt = dlisted.toInt) ∨ (((1 ≤ p0.toInt ∧ p0.toInt ≤ 400) ∧ (0 ≤ p1.toInt ∧ p1.toInt ≤ 400) ∧ (0 ≤ p2.toInt ∧ p2.toInt ≤ 400) ∧ ¬ (p1.toInt = 0 ∧ p2.toInt ≠ 0)) ∧ ¬ ((p1.toInt = 0 ∧ dlisted.toInt < 3) ∨ (p1.toInt ≠ 0 ∧ p2.toInt = 0 ∧ dlisted.toInt < 6) ∨ (p1.toInt ≠ 0 ∧ p2.toInt ≠ 0 ∧ dlisted.toInt < 9)) ∧ u.2.2.2.2.2.1.toInt = 0))) (mu_B D (va_A [(xh, .inr (8, G8 xa xtrialRule xdropRule xtoday)), ((xa 10), .inr (0, G0 da dlisted dshared dsailing dleastWorst)), ((da 0), .inl (E 0, 9, .inl df0)), ((da 1), .inl (E 0, 9, .inl df1)), ((da 2), .inl (E 0, 9, .inl df2)), ((da 3), .inl (E 0, 3, .inl df3)), ((da 4), .inl (E 0, 3, .inl df4))] sz) (fun (u : (Nat → Int32) × (Nat → Int32) × (Nat → Int32) × (Nat → Int32) × (Int32) × (Int32) × (Int32) × (Int32)) => [(xh, .inr (8, G8 xa xtrialRule xdropRule xtoday)), ((xa 10), .inr (0, G0 da u.2.2.2.2.2.1 u.2.2.2.2.2.2.2 u.2.2.2.2.2.2.1 u.2.2.2.2.1)), ((da 0), .inl (E 0, 9, .inl df0)), ((da 1), .inl (E 0, 9, .inl u.1)), ((da 2), .inl (E 0, 9, .inl u.2.1)), ((da 3), .inl (E 0, 3, .inl u.2.2.1)), ((da 4), .inl (E 0, 3, .inl u.2.2.2.1))])) (va_A [(xh, .inr (8, G8 xa xtrialRule xdropRule xtoday)), ((xa 10), .inr (0, G0 da dlisted dshared dsailing dleastWorst)), ((da 0), .inl (E 0, 9, .inl df0)), ((da 1), .inl (E 0, 9, .inl df1)), ((da 2), .inl (E 0, 9, .inl df2)), ((da 3), .inl (E 0, 3, .inl df3)), ((da 4), .inl (E 0, 3, .inl df4))] sz)) 0 0 (va_A [(xh, .inr (8, G8 xa xtrialRule xdropRule xtoday)), ((xa 10), .inr (0, G0 da dlisted dshared dsailing dleastWorst)), ((da 0), .inl (E 0, 9, .inl df0)), ((da 1), .inl (E 0, 9, .inl df1)), ((da 2), .inl (E 0, 9, .inl df2)), ((da 3), .inl (E 0, 3, .inl df3)), ((da 4), .inl (E 0, 3, .inl df4))] sz) := by
  refine Met.ofW (cc := cX8_deal) (maxL := 5) (ret := (some .int)) (by decide) rfl ?_
  intro p e s m args below meth c s₁ B hml hv
  obtain ⟨rfl, hsz, hP, hK, hD0⟩ := hv
  have hx := B.exec; have hb := B.bytes; have hr := B.returns
  have hts := atoms_spec (ws := wl yX8_deal cX8_deal 5 (some .int)) B.pre
  have htb : ∀ w ∈ tb, w.before _ s = true := fun w h => hts w (List.mem_cons_of_mem _ h)
  have hown : s.vm.findClass RX8 = some m.cls := findClass_of_methodNamed B.named
  have hlocks := B.notSynchronized
  subst hsz
  have hD := hD0.self (sz := s.heap.size)
  generalize hAe : va_A [(xh, .inr (8, G8 xa xtrialRule xdropRule xtoday)), ((xa 10), .inr (0, G0 da dlisted dshared dsailing dleastWorst)), ((da 0), .inl (E 0, 9, .inl df0)), ((da 1), .inl (E 0, 9, .inl df1)), ((da 2), .inl (E 0, 9, .inl df2)), ((da 3), .inl (E 0, 3, .inl df3)), ((da 4), .inl (E 0, 3, .inl df4))] s.heap.size = A at hD ⊢
  have hA : ∀ q : Nat, s.heap.size ≤ q → A q := fun q h => by rw [← hAe]; exact Or.inr h
  have hS : va_S A s.heap s.heap [] := va_S.rf
  have hP : va_P D vwCl [(xh, .inr (8, G8 xa xtrialRule xdropRule xtoday)), ((xa 10), .inr (0, G0 da dlisted dshared dsailing dleastWorst)), ((da 0), .inl (E 0, 9, .inl df0)), ((da 1), .inl (E 0, 9, .inl df1)), ((da 2), .inl (E 0, 9, .inl df2)), ((da 3), .inl (E 0, 3, .inl df3)), ((da 4), .inl (E 0, 3, .inl df4))] s.heap := hP
  have hl := lv_entry ([.ref xh, .int p0, .int p1, .int p2]) (n := 5) (Nat.le_of_ble_eq_true rfl)
  rw [lg_entry_eq]
  generalize (lg_sl ([.ref xh, .int p0, .int p1, .int p2]) ++ List.replicate (5 - (lg_sl ([.ref xh, .int p0, .int p1, .int p2])).length) Slot.unset).toArray = ls at hl ⊢
  have hl : lv_has ls 5 [(0, .ref xh), (1, .int p0), (2, .int p1), (3, .int p2)] := hl
  have lo_p0 := i_lo p0; have hi_p0 := i_hi p0
  have lo_p1 := i_lo p1; have hi_p1 := i_hi p1
  have lo_p2 := i_lo p2; have hi_p2 := i_hi p2
  refine lv_iload_n hx hb dX8_deal_0 rfl (lv_at hl 1 rfl) ?_
  refine lv_iconst (v := 1) hx hb dX8_deal_1 (by decide) ?_
  refine lv_icmp_lt (tgt := 42) hx hb dX8_deal_2 (by decide) (fun c_1 => ?_) (fun c_1 => ?_)
  ·
    have ic_1 : p0.toInt < 1 := by first | exact (g_lt rfl t_1).mp c_1 | (have h := mt (g_le t_1 rfl).mpr c_1; omega)
    clear c_1
    refine lv_iconst (v := (-1)) hx hb dX8_deal_42 (by decide) ?_
    have hP9 := hP.sub (ws' := [(xh, .inr (8, G8 xa xtrialRule xdropRule xtoday)), ((xa 10), .inr (0, G0 da dlisted dshared dsailing dleastWorst)), ((da 0), .inl (E 0, 9, .inl df0)), ((da 1), .inl (E 0, 9, .inl df1)), ((da 2), .inl (E 0, 9, .inl df2)), ((da 3), .inl (E 0, 3, .inl df3)), ((da 4), .inl (E 0, 3, .inl df4))]) [0, 1, 2, 3, 4, 5, 6] rfl
    have hD9 := hD.sub (ws' := [(xh, .inr (8, G8 xa xtrialRule xdropRule xtoday)), ((xa 10), .inr (0, G0 da dlisted dshared dsailing dleastWorst)), ((da 0), .inl (E 0, 9, .inl df0)), ((da 1), .inl (E 0, 9, .inl df1)), ((da 2), .inl (E 0, 9, .inl df2)), ((da 3), .inl (E 0, 3, .inl df3)), ((da 4), .inl (E 0, 3, .inl df4))]) [0, 1, 2, 3, 4, 5, 6] (by decide) rfl
    exact W.iret (v := (-1)) hx hb hr (fun t ht hW => ⟨⟨(-1), (df1, df2, df3, df4, dleastWorst, dlisted, dsailing, dshared), rfl, ⟨(by (try dsimp only); omega), (by (try dsimp only); omega), (by (try dsimp only); omega), (by have h0 := t_m1; (try dsimp only); omega)⟩, by rw [ht]; exact hP9, hD9⟩, hS.F ht⟩) hS.2.2 dX8_deal_43
  ·
    have ic_1 : 1 ≤ p0.toInt := by first | exact (g_le t_1 rfl).mp c_1 | (have h := mt (g_lt rfl t_1).mpr c_1; omega)
    clear c_1
    refine lv_iload_n hx hb dX8_deal_5 rfl (lv_at hl 1 rfl) ?_
    refine lv_sipush (v := 400) hx hb dX8_deal_6 (by decide) ?_
    refine lv_icmp_gt (tgt := 42) hx hb dX8_deal_9 (by decide) (fun c_2 => ?_) (fun c_2 => ?_)
    ·
      have ic_2 : 400 < p0.toInt := by first | exact (g_lt t_400 rfl).mp c_2 | (have h := mt (g_le rfl t_400).mpr c_2; omega)
      clear c_2
      refine lv_iconst (v := (-1)) hx hb dX8_deal_42 (by decide) ?_
      have hP9 := hP.sub (ws' := [(xh, .inr (8, G8 xa xtrialRule xdropRule xtoday)), ((xa 10), .inr (0, G0 da dlisted dshared dsailing dleastWorst)), ((da 0), .inl (E 0, 9, .inl df0)), ((da 1), .inl (E 0, 9, .inl df1)), ((da 2), .inl (E 0, 9, .inl df2)), ((da 3), .inl (E 0, 3, .inl df3)), ((da 4), .inl (E 0, 3, .inl df4))]) [0, 1, 2, 3, 4, 5, 6] rfl
      have hD9 := hD.sub (ws' := [(xh, .inr (8, G8 xa xtrialRule xdropRule xtoday)), ((xa 10), .inr (0, G0 da dlisted dshared dsailing dleastWorst)), ((da 0), .inl (E 0, 9, .inl df0)), ((da 1), .inl (E 0, 9, .inl df1)), ((da 2), .inl (E 0, 9, .inl df2)), ((da 3), .inl (E 0, 3, .inl df3)), ((da 4), .inl (E 0, 3, .inl df4))]) [0, 1, 2, 3, 4, 5, 6] (by decide) rfl
      exact W.iret (v := (-1)) hx hb hr (fun t ht hW => ⟨⟨(-1), (df1, df2, df3, df4, dleastWorst, dlisted, dsailing, dshared), rfl, ⟨(by (try dsimp only); omega), (by (try dsimp only); omega), (by (try dsimp only); omega), (by have h0 := t_m1; (try dsimp only); omega)⟩, by rw [ht]; exact hP9, hD9⟩, hS.F ht⟩) hS.2.2 dX8_deal_43
    ·
      have ic_2 : p0.toInt ≤ 400 := by first | exact (g_le rfl t_400).mp c_2 | (have h := mt (g_lt t_400 rfl).mpr c_2; omega)
      clear c_2
      refine lv_iload_n hx hb dX8_deal_12 rfl (lv_at hl 2 rfl) ?_
      refine lv_if_lt (tgt := 42) hx hb dX8_deal_13 (by decide) (fun c_3 => ?_) (fun c_3 => ?_)
      ·
        have ic_3 : p1.toInt < 0 := by first | exact (g_lt rfl t_0).mp c_3 | (have h := mt (g_le t_0 rfl).mpr c_3; omega)
        clear c_3
        refine lv_iconst (v := (-1)) hx hb dX8_deal_42 (by decide) ?_
        have hP9 := hP.sub (ws' := [(xh, .inr (8, G8 xa xtrialRule xdropRule xtoday)), ((xa 10), .inr (0, G0 da dlisted dshared dsailing dleastWorst)), ((da 0), .inl (E 0, 9, .inl df0)), ((da 1), .inl (E 0, 9, .inl df1)), ((da 2), .inl (E 0, 9, .inl df2)), ((da 3), .inl (E 0, 3, .inl df3)), ((da 4), .inl (E 0, 3, .inl df4))]) [0, 1, 2, 3, 4, 5, 6] rfl
        have hD9 := hD.sub (ws' := [(xh, .inr (8, G8 xa xtrialRule xdropRule xtoday)), ((xa 10), .inr (0, G0 da dlisted dshared dsailing dleastWorst)), ((da 0), .inl (E 0, 9, .inl df0)), ((da 1), .inl (E 0, 9, .inl df1)), ((da 2), .inl (E 0, 9, .inl df2)), ((da 3), .inl (E 0, 3, .inl df3)), ((da 4), .inl (E 0, 3, .inl df4))]) [0, 1, 2, 3, 4, 5, 6] (by decide) rfl
        exact W.iret (v := (-1)) hx hb hr (fun t ht hW => ⟨⟨(-1), (df1, df2, df3, df4, dleastWorst, dlisted, dsailing, dshared), rfl, ⟨(by (try dsimp only); omega), (by (try dsimp only); omega), (by (try dsimp only); omega), (by have h0 := t_m1; (try dsimp only); omega)⟩, by rw [ht]; exact hP9, hD9⟩, hS.F ht⟩) hS.2.2 dX8_deal_43
      ·
        have ic_3 : 0 ≤ p1.toInt := by first | exact (g_le t_0 rfl).mp c_3 | (have h := mt (g_lt rfl t_0).mpr c_3; omega)
        clear c_3
        refine lv_iload_n hx hb dX8_deal_16 rfl (lv_at hl 2 rfl) ?_
        refine lv_sipush (v := 400) hx hb dX8_deal_17 (by decide) ?_
        refine lv_icmp_gt (tgt := 42) hx hb dX8_deal_20 (by decide) (fun c_4 => ?_) (fun c_4 => ?_)
        ·
          have ic_4 : 400 < p1.toInt := by first | exact (g_lt t_400 rfl).mp c_4 | (have h := mt (g_le rfl t_400).mpr c_4; omega)
          clear c_4
          refine lv_iconst (v := (-1)) hx hb dX8_deal_42 (by decide) ?_
          have hP9 := hP.sub (ws' := [(xh, .inr (8, G8 xa xtrialRule xdropRule xtoday)), ((xa 10), .inr (0, G0 da dlisted dshared dsailing dleastWorst)), ((da 0), .inl (E 0, 9, .inl df0)), ((da 1), .inl (E 0, 9, .inl df1)), ((da 2), .inl (E 0, 9, .inl df2)), ((da 3), .inl (E 0, 3, .inl df3)), ((da 4), .inl (E 0, 3, .inl df4))]) [0, 1, 2, 3, 4, 5, 6] rfl
          have hD9 := hD.sub (ws' := [(xh, .inr (8, G8 xa xtrialRule xdropRule xtoday)), ((xa 10), .inr (0, G0 da dlisted dshared dsailing dleastWorst)), ((da 0), .inl (E 0, 9, .inl df0)), ((da 1), .inl (E 0, 9, .inl df1)), ((da 2), .inl (E 0, 9, .inl df2)), ((da 3), .inl (E 0, 3, .inl df3)), ((da 4), .inl (E 0, 3, .inl df4))]) [0, 1, 2, 3, 4, 5, 6] (by decide) rfl
          exact W.iret (v := (-1)) hx hb hr (fun t ht hW => ⟨⟨(-1), (df1, df2, df3, df4, dleastWorst, dlisted, dsailing, dshared), rfl, ⟨(by (try dsimp only); omega), (by (try dsimp only); omega), (by (try dsimp only); omega), (by have h0 := t_m1; (try dsimp only); omega)⟩, by rw [ht]; exact hP9, hD9⟩, hS.F ht⟩) hS.2.2 dX8_deal_43
        ·
          have ic_4 : p1.toInt ≤ 400 := by first | exact (g_le rfl t_400).mp c_4 | (have h := mt (g_lt t_400 rfl).mpr c_4; omega)
          clear c_4
          refine lv_iload_n hx hb dX8_deal_23 rfl (lv_at hl 3 rfl) ?_
          refine lv_if_lt (tgt := 42) hx hb dX8_deal_24 (by decide) (fun c_5 => ?_) (fun c_5 => ?_)
          ·
            have ic_5 : p2.toInt < 0 := by first | exact (g_lt rfl t_0).mp c_5 | (have h := mt (g_le t_0 rfl).mpr c_5; omega)
            clear c_5
            refine lv_iconst (v := (-1)) hx hb dX8_deal_42 (by decide) ?_
            have hP9 := hP.sub (ws' := [(xh, .inr (8, G8 xa xtrialRule xdropRule xtoday)), ((xa 10), .inr (0, G0 da dlisted dshared dsailing dleastWorst)), ((da 0), .inl (E 0, 9, .inl df0)), ((da 1), .inl (E 0, 9, .inl df1)), ((da 2), .inl (E 0, 9, .inl df2)), ((da 3), .inl (E 0, 3, .inl df3)), ((da 4), .inl (E 0, 3, .inl df4))]) [0, 1, 2, 3, 4, 5, 6] rfl
            have hD9 := hD.sub (ws' := [(xh, .inr (8, G8 xa xtrialRule xdropRule xtoday)), ((xa 10), .inr (0, G0 da dlisted dshared dsailing dleastWorst)), ((da 0), .inl (E 0, 9, .inl df0)), ((da 1), .inl (E 0, 9, .inl df1)), ((da 2), .inl (E 0, 9, .inl df2)), ((da 3), .inl (E 0, 3, .inl df3)), ((da 4), .inl (E 0, 3, .inl df4))]) [0, 1, 2, 3, 4, 5, 6] (by decide) rfl
            exact W.iret (v := (-1)) hx hb hr (fun t ht hW => ⟨⟨(-1), (df1, df2, df3, df4, dleastWorst, dlisted, dsailing, dshared), rfl, ⟨(by (try dsimp only); omega), (by (try dsimp only); omega), (by (try dsimp only); omega), (by have h0 := t_m1; (try dsimp only); omega)⟩, by rw [ht]; exact hP9, hD9⟩, hS.F ht⟩) hS.2.2 dX8_deal_43
          ·
            have ic_5 : 0 ≤ p2.toInt := by first | exact (g_le t_0 rfl).mp c_5 | (have h := mt (g_lt rfl t_0).mpr c_5; omega)
            clear c_5
            refine lv_iload_n hx hb dX8_deal_27 rfl (lv_at hl 3 rfl) ?_
            refine lv_sipush (v := 400) hx hb dX8_deal_28 (by decide) ?_
            refine lv_icmp_gt (tgt := 42) hx hb dX8_deal_31 (by decide) (fun c_6 => ?_) (fun c_6 => ?_)
            ·
              have ic_6 : 400 < p2.toInt := by first | exact (g_lt t_400 rfl).mp c_6 | (have h := mt (g_le rfl t_400).mpr c_6; omega)
              clear c_6
              refine lv_iconst (v := (-1)) hx hb dX8_deal_42 (by decide) ?_
              have hP9 := hP.sub (ws' := [(xh, .inr (8, G8 xa xtrialRule xdropRule xtoday)), ((xa 10), .inr (0, G0 da dlisted dshared dsailing dleastWorst)), ((da 0), .inl (E 0, 9, .inl df0)), ((da 1), .inl (E 0, 9, .inl df1)), ((da 2), .inl (E 0, 9, .inl df2)), ((da 3), .inl (E 0, 3, .inl df3)), ((da 4), .inl (E 0, 3, .inl df4))]) [0, 1, 2, 3, 4, 5, 6] rfl
              have hD9 := hD.sub (ws' := [(xh, .inr (8, G8 xa xtrialRule xdropRule xtoday)), ((xa 10), .inr (0, G0 da dlisted dshared dsailing dleastWorst)), ((da 0), .inl (E 0, 9, .inl df0)), ((da 1), .inl (E 0, 9, .inl df1)), ((da 2), .inl (E 0, 9, .inl df2)), ((da 3), .inl (E 0, 3, .inl df3)), ((da 4), .inl (E 0, 3, .inl df4))]) [0, 1, 2, 3, 4, 5, 6] (by decide) rfl
              exact W.iret (v := (-1)) hx hb hr (fun t ht hW => ⟨⟨(-1), (df1, df2, df3, df4, dleastWorst, dlisted, dsailing, dshared), rfl, ⟨(by (try dsimp only); omega), (by (try dsimp only); omega), (by (try dsimp only); omega), (by have h0 := t_m1; (try dsimp only); omega)⟩, by rw [ht]; exact hP9, hD9⟩, hS.F ht⟩) hS.2.2 dX8_deal_43
            ·
              have ic_6 : p2.toInt ≤ 400 := by first | exact (g_le rfl t_400).mp c_6 | (have h := mt (g_lt t_400 rfl).mpr c_6; omega)
              clear c_6
              refine lv_iload_n hx hb dX8_deal_34 rfl (lv_at hl 2 rfl) ?_
              refine lv_if_ne (tgt := 44) hx hb dX8_deal_35 (by decide) (fun c_7 => ?_) (fun c_7 => ?_)
              ·
                have ic_7 : p1.toInt ≠ 0 := mt (g_eq rfl t_0).mpr c_7
                clear c_7
                refine lv_iload_n hx hb dX8_deal_44 rfl (lv_at hl 2 rfl) ?_
                refine lv_if_ne (tgt := 52) hx hb dX8_deal_45 (by decide) (fun c_8 => ?_) (fun c_8 => absurd c_8 (by rw [g_eq rfl t_0]; omega))
                refine lv_iload_n hx hb dX8_deal_52 rfl (lv_at hl 3 rfl) ?_
                refine lv_if_ne (tgt := 60) hx hb dX8_deal_53 (by decide) (fun c_9 => ?_) (fun c_9 => ?_)
                ·
                  have ic_9 : p2.toInt ≠ 0 := mt (g_eq rfl t_0).mpr c_9
                  clear c_9
                  refine lv_iconst (v := 3) hx hb dX8_deal_60 (by decide) ?_
                  refine lv_istore (lv' := [(4, .int 3), (0, .ref xh), (1, .int p0), (2, .int p1), (3, .int p2)]) hx hb dX8_deal_61 hl (by decide) rfl (fun ls hl => ?_)
                  refine lv_aload_n hx hb dX8_deal_63 rfl (lv_at hl 1 rfl) ?_
                  refine va_get (D := D) (ci := 8) (v := .ref (xa 10)) (C := RX8) (T := TX8) (N := 14) hx hb htb iX8 hown hK.1 hP 0 rfl rfl 10 (by decide) (htb _ k_282) (fun _ h9 => h9) rfl dX8_deal_64 ?_
                  refine va_getN (D := D) (ci := 0) (v := .int dlisted) (C := RX0) (T := TX0) (N := 9) hx hb htb iX0 hown hK.1 hP 1 rfl rfl 5 (by decide) (va_Nw.use rfl (hK.2.1 (Cond.fieldLinkNest RX8 275 "SeaWatches$Dealing" "listed" "I" "SeaWatches") (by decide +kernel))) (fun _ h9 => h9) rfl dX8_deal_67 ?_
                  refine lv_iconst (v := 3) hx hb dX8_deal_70 (by decide) ?_
                  refine lv_iload hx hb dX8_deal_71 (lv_at hl 0 rfl) ?_
                  refine lv_imul hx hb dX8_deal_73 ?_
                  refine W_top (y := .int 9) (by decide) ?_
                  refine lv_icmp_ge (tgt := 80) hx hb dX8_deal_74 (by decide) (fun c_10 => ?_) (fun c_10 => ?_)
                  ·
                    have ic_10 : 9 ≤ dlisted.toInt := by first | exact (g_le t_9 rfl).mp c_10 | (have h := mt (g_lt rfl t_9).mpr c_10; omega)
                    clear c_10
                    refine lv_aload_n hx hb dX8_deal_80 rfl (lv_at hl 1 rfl) ?_
                    refine va_get (D := D) (ci := 8) (v := .ref (xa 10)) (C := RX8) (T := TX8) (N := 14) hx hb htb iX8 hown hK.1 hP 0 rfl rfl 10 (by decide) (htb _ k_282) (fun _ h9 => h9) rfl dX8_deal_81 ?_
                    refine lv_iload hx hb dX8_deal_84 (lv_at hl 0 rfl) ?_
                    refine lv_iload_n hx hb dX8_deal_86 rfl (lv_at hl 2 rfl) ?_
                    refine lv_iload_n hx hb dX8_deal_87 rfl (lv_at hl 3 rfl) ?_
                    refine lv_iload_n hx hb dX8_deal_88 rfl (lv_at hl 4 rfl) ?_
                    have hPc := hP.sub (ws' := [((xa 10), .inr (0, G0 da dlisted dshared dsailing dleastWorst)), ((da 0), .inl (E 0, 9, .inl df0)), ((da 1), .inl (E 0, 9, .inl df1)), ((da 2), .inl (E 0, 9, .inl df2)), ((da 3), .inl (E 0, 3, .inl df3)), ((da 4), .inl (E 0, 3, .inl df4))]) [1, 2, 3, 4, 5, 6] rfl
                    have hDc := hD.sub (ws' := [((xa 10), .inr (0, G0 da dlisted dshared dsailing dleastWorst)), ((da 0), .inl (E 0, 9, .inl df0)), ((da 1), .inl (E 0, 9, .inl df1)), ((da 2), .inl (E 0, 9, .inl df2)), ((da 3), .inl (E 0, 3, .inl df3)), ((da 4), .inl (E 0, 3, .inl df4))]) [1, 2, 3, 4, 5, 6] (by decide) rfl
                    refine aft_i (runMV (rest := []) (As := [.int 3, .int p0, .int p1, .int p2]) hx hb hml hown htb hK (g_X0_shareOut l D E (xa 10) da dlisted dshared dsailing dleastWorst df0 df1 df2 df3 df4 3 p0 p1 p2 _ (by (try dsimp only); omega)) ok_X0_shareOut k_898 k_899 k_900 k_7 k_901 ⟨(Nat.le_of_ble_eq_true rfl), (Nat.le_of_ble_eq_true rfl)⟩ ⟨(Nat.le_of_ble_eq_true rfl), (Nat.le_of_ble_eq_true rfl)⟩ hl.1 (Nat.le_of_ble_eq_true rfl) rfl rfl dX8_deal_89 hPc hDc rfl rfl 0 rfl) hP hD hS hA [1, 2, 3, 4, 5, 6] [0] (wr := [(xh, .inr (8, G8 xa xtrialRule xdropRule xtoday))]) rfl rfl (by decide) (by decide) (fun r_11 u_13 H locs hw_12 hP hD hS => ?_)
                    clear hPc hDc
                    obtain ⟨w_14, w_15, w_16, w_17, w_18, w_19, w_20, w_21⟩ := u_13
                    try dsimp only at hw_12
                    have hP : va_P D vwCl [(xh, .inr (8, G8 xa xtrialRule xdropRule xtoday)), ((xa 10), .inr (0, G0 da w_19 w_21 w_20 w_18)), ((da 0), .inl (E 0, 9, .inl df0)), ((da 1), .inl (E 0, 9, .inl w_14)), ((da 2), .inl (E 0, 9, .inl w_15)), ((da 3), .inl (E 0, 3, .inl w_16)), ((da 4), .inl (E 0, 3, .inl w_17))] H := hP
                    have hD := toW hP hD rfl
                    obtain ⟨hw_12_0, hw_12_1, hw_12_2, hw_12_3⟩ := hw_12
                    try simp only [t_3] at hw_12_0
                    try simp only [t_3] at hw_12_1
                    try simp only [t_3] at hw_12_2
                    try simp only [t_3] at hw_12_3
                    have hP9 := hP.sub (ws' := [(xh, .inr (8, G8 xa xtrialRule xdropRule xtoday)), ((xa 10), .inr (0, G0 da w_19 w_21 w_20 w_18)), ((da 0), .inl (E 0, 9, .inl df0)), ((da 1), .inl (E 0, 9, .inl w_14)), ((da 2), .inl (E 0, 9, .inl w_15)), ((da 3), .inl (E 0, 3, .inl w_16)), ((da 4), .inl (E 0, 3, .inl w_17))]) [0, 1, 2, 3, 4, 5, 6] rfl
                    have hD9 := hD.sub (ws' := [(xh, .inr (8, G8 xa xtrialRule xdropRule xtoday)), ((xa 10), .inr (0, G0 da w_19 w_21 w_20 w_18)), ((da 0), .inl (E 0, 9, .inl df0)), ((da 1), .inl (E 0, 9, .inl w_14)), ((da 2), .inl (E 0, 9, .inl w_15)), ((da 3), .inl (E 0, 3, .inl w_16)), ((da 4), .inl (E 0, 3, .inl w_17))]) [0, 1, 2, 3, 4, 5, 6] (by decide) rfl
                    exact W.iret (v := r_11) hx hb hr (fun t ht hW => ⟨⟨r_11, (w_14, w_15, w_16, w_17, w_18, w_19, w_20, w_21), rfl, ⟨(by (try dsimp only); omega), (by (try dsimp only); omega), (by (try dsimp only); omega), (by (try dsimp only); omega)⟩, by rw [ht]; exact hP9, hD9⟩, hS.F ht⟩) hS.2.2 dX8_deal_92
                  ·
                    have ic_10 : dlisted.toInt < 9 := by first | exact (g_lt rfl t_9).mp c_10 | (have h := mt (g_le t_9 rfl).mpr c_10; omega)
                    clear c_10
                    refine lv_bipush (v := (-4)) hx hb dX8_deal_77 (by decide) ?_
                    have hP9 := hP.sub (ws' := [(xh, .inr (8, G8 xa xtrialRule xdropRule xtoday)), ((xa 10), .inr (0, G0 da dlisted dshared dsailing dleastWorst)), ((da 0), .inl (E 0, 9, .inl df0)), ((da 1), .inl (E 0, 9, .inl df1)), ((da 2), .inl (E 0, 9, .inl df2)), ((da 3), .inl (E 0, 3, .inl df3)), ((da 4), .inl (E 0, 3, .inl df4))]) [0, 1, 2, 3, 4, 5, 6] rfl
                    have hD9 := hD.sub (ws' := [(xh, .inr (8, G8 xa xtrialRule xdropRule xtoday)), ((xa 10), .inr (0, G0 da dlisted dshared dsailing dleastWorst)), ((da 0), .inl (E 0, 9, .inl df0)), ((da 1), .inl (E 0, 9, .inl df1)), ((da 2), .inl (E 0, 9, .inl df2)), ((da 3), .inl (E 0, 3, .inl df3)), ((da 4), .inl (E 0, 3, .inl df4))]) [0, 1, 2, 3, 4, 5, 6] (by decide) rfl
                    exact W.iret (v := (-4)) hx hb hr (fun t ht hW => ⟨⟨(-4), (df1, df2, df3, df4, dleastWorst, dlisted, dsailing, dshared), rfl, ⟨(by (try dsimp only); omega), (by (try dsimp only); omega), (by (try dsimp only); omega), (by have h0 := t_m4; (try dsimp only); omega)⟩, by rw [ht]; exact hP9, hD9⟩, hS.F ht⟩) hS.2.2 dX8_deal_79
                ·
                  have ic_9 : p2.toInt = 0 := (g_eq rfl t_0).mp c_9
                  clear c_9
                  refine lv_iconst (v := 2) hx hb dX8_deal_56 (by decide) ?_
                  refine lv_goto (tgt := 61) hx hb dX8_deal_57 (by decide) ?_
                  refine lv_istore (lv' := [(4, .int 2), (0, .ref xh), (1, .int p0), (2, .int p1), (3, .int p2)]) hx hb dX8_deal_61 hl (by decide) rfl (fun ls hl => ?_)
                  refine lv_aload_n hx hb dX8_deal_63 rfl (lv_at hl 1 rfl) ?_
                  refine va_get (D := D) (ci := 8) (v := .ref (xa 10)) (C := RX8) (T := TX8) (N := 14) hx hb htb iX8 hown hK.1 hP 0 rfl rfl 10 (by decide) (htb _ k_282) (fun _ h9 => h9) rfl dX8_deal_64 ?_
                  refine va_getN (D := D) (ci := 0) (v := .int dlisted) (C := RX0) (T := TX0) (N := 9) hx hb htb iX0 hown hK.1 hP 1 rfl rfl 5 (by decide) (va_Nw.use rfl (hK.2.1 (Cond.fieldLinkNest RX8 275 "SeaWatches$Dealing" "listed" "I" "SeaWatches") (by decide +kernel))) (fun _ h9 => h9) rfl dX8_deal_67 ?_
                  refine lv_iconst (v := 3) hx hb dX8_deal_70 (by decide) ?_
                  refine lv_iload hx hb dX8_deal_71 (lv_at hl 0 rfl) ?_
                  refine lv_imul hx hb dX8_deal_73 ?_
                  refine W_top (y := .int 6) (by decide) ?_
                  refine lv_icmp_ge (tgt := 80) hx hb dX8_deal_74 (by decide) (fun c_22 => ?_) (fun c_22 => ?_)
                  ·
                    have ic_22 : 6 ≤ dlisted.toInt := by first | exact (g_le t_6 rfl).mp c_22 | (have h := mt (g_lt rfl t_6).mpr c_22; omega)
                    clear c_22
                    refine lv_aload_n hx hb dX8_deal_80 rfl (lv_at hl 1 rfl) ?_
                    refine va_get (D := D) (ci := 8) (v := .ref (xa 10)) (C := RX8) (T := TX8) (N := 14) hx hb htb iX8 hown hK.1 hP 0 rfl rfl 10 (by decide) (htb _ k_282) (fun _ h9 => h9) rfl dX8_deal_81 ?_
                    refine lv_iload hx hb dX8_deal_84 (lv_at hl 0 rfl) ?_
                    refine lv_iload_n hx hb dX8_deal_86 rfl (lv_at hl 2 rfl) ?_
                    refine lv_iload_n hx hb dX8_deal_87 rfl (lv_at hl 3 rfl) ?_
                    refine lv_iload_n hx hb dX8_deal_88 rfl (lv_at hl 4 rfl) ?_
                    have hPc := hP.sub (ws' := [((xa 10), .inr (0, G0 da dlisted dshared dsailing dleastWorst)), ((da 0), .inl (E 0, 9, .inl df0)), ((da 1), .inl (E 0, 9, .inl df1)), ((da 2), .inl (E 0, 9, .inl df2)), ((da 3), .inl (E 0, 3, .inl df3)), ((da 4), .inl (E 0, 3, .inl df4))]) [1, 2, 3, 4, 5, 6] rfl
                    have hDc := hD.sub (ws' := [((xa 10), .inr (0, G0 da dlisted dshared dsailing dleastWorst)), ((da 0), .inl (E 0, 9, .inl df0)), ((da 1), .inl (E 0, 9, .inl df1)), ((da 2), .inl (E 0, 9, .inl df2)), ((da 3), .inl (E 0, 3, .inl df3)), ((da 4), .inl (E 0, 3, .inl df4))]) [1, 2, 3, 4, 5, 6] (by decide) rfl
                    refine aft_i (runMV (rest := []) (As := [.int 2, .int p0, .int p1, .int p2]) hx hb hml hown htb hK (g_X0_shareOut l D E (xa 10) da dlisted dshared dsailing dleastWorst df0 df1 df2 df3 df4 2 p0 p1 p2 _ (by (try dsimp only); omega)) ok_X0_shareOut k_898 k_899 k_900 k_7 k_901 ⟨(Nat.le_of_ble_eq_true rfl), (Nat.le_of_ble_eq_true rfl)⟩ ⟨(Nat.le_of_ble_eq_true rfl), (Nat.le_of_ble_eq_true rfl)⟩ hl.1 (Nat.le_of_ble_eq_true rfl) rfl rfl dX8_deal_89 hPc hDc rfl rfl 0 rfl) hP hD hS hA [1, 2, 3, 4, 5, 6] [0] (wr := [(xh, .inr (8, G8 xa xtrialRule xdropRule xtoday))]) rfl rfl (by decide) (by decide) (fun r_23 u_25 H locs hw_24 hP hD hS => ?_)
                    clear hPc hDc
                    obtain ⟨w_26, w_27, w_28, w_29, w_30, w_31, w_32, w_33⟩ := u_25
                    try dsimp only at hw_24
                    have hP : va_P D vwCl [(xh, .inr (8, G8 xa xtrialRule xdropRule xtoday)), ((xa 10), .inr (0, G0 da w_31 w_33 w_32 w_30)), ((da 0), .inl (E 0, 9, .inl df0)), ((da 1), .inl (E 0, 9, .inl w_26)), ((da 2), .inl (E 0, 9, .inl w_27)), ((da 3), .inl (E 0, 3, .inl w_28)), ((da 4), .inl (E 0, 3, .inl w_29))] H := hP
                    have hD := toW hP hD rfl
                    obtain ⟨hw_24_0, hw_24_1, hw_24_2, hw_24_3⟩ := hw_24
                    try simp only [t_2] at hw_24_0
                    try simp only [t_2] at hw_24_1
                    try simp only [t_2] at hw_24_2
                    try simp only [t_2] at hw_24_3
                    have hP9 := hP.sub (ws' := [(xh, .inr (8, G8 xa xtrialRule xdropRule xtoday)), ((xa 10), .inr (0, G0 da w_31 w_33 w_32 w_30)), ((da 0), .inl (E 0, 9, .inl df0)), ((da 1), .inl (E 0, 9, .inl w_26)), ((da 2), .inl (E 0, 9, .inl w_27)), ((da 3), .inl (E 0, 3, .inl w_28)), ((da 4), .inl (E 0, 3, .inl w_29))]) [0, 1, 2, 3, 4, 5, 6] rfl
                    have hD9 := hD.sub (ws' := [(xh, .inr (8, G8 xa xtrialRule xdropRule xtoday)), ((xa 10), .inr (0, G0 da w_31 w_33 w_32 w_30)), ((da 0), .inl (E 0, 9, .inl df0)), ((da 1), .inl (E 0, 9, .inl w_26)), ((da 2), .inl (E 0, 9, .inl w_27)), ((da 3), .inl (E 0, 3, .inl w_28)), ((da 4), .inl (E 0, 3, .inl w_29))]) [0, 1, 2, 3, 4, 5, 6] (by decide) rfl
                    exact W.iret (v := r_23) hx hb hr (fun t ht hW => ⟨⟨r_23, (w_26, w_27, w_28, w_29, w_30, w_31, w_32, w_33), rfl, ⟨(by (try dsimp only); omega), (by (try dsimp only); omega), (by (try dsimp only); omega), (by (try dsimp only); omega)⟩, by rw [ht]; exact hP9, hD9⟩, hS.F ht⟩) hS.2.2 dX8_deal_92
                  ·
                    have ic_22 : dlisted.toInt < 6 := by first | exact (g_lt rfl t_6).mp c_22 | (have h := mt (g_le t_6 rfl).mpr c_22; omega)
                    clear c_22
                    refine lv_bipush (v := (-4)) hx hb dX8_deal_77 (by decide) ?_
                    have hP9 := hP.sub (ws' := [(xh, .inr (8, G8 xa xtrialRule xdropRule xtoday)), ((xa 10), .inr (0, G0 da dlisted dshared dsailing dleastWorst)), ((da 0), .inl (E 0, 9, .inl df0)), ((da 1), .inl (E 0, 9, .inl df1)), ((da 2), .inl (E 0, 9, .inl df2)), ((da 3), .inl (E 0, 3, .inl df3)), ((da 4), .inl (E 0, 3, .inl df4))]) [0, 1, 2, 3, 4, 5, 6] rfl
                    have hD9 := hD.sub (ws' := [(xh, .inr (8, G8 xa xtrialRule xdropRule xtoday)), ((xa 10), .inr (0, G0 da dlisted dshared dsailing dleastWorst)), ((da 0), .inl (E 0, 9, .inl df0)), ((da 1), .inl (E 0, 9, .inl df1)), ((da 2), .inl (E 0, 9, .inl df2)), ((da 3), .inl (E 0, 3, .inl df3)), ((da 4), .inl (E 0, 3, .inl df4))]) [0, 1, 2, 3, 4, 5, 6] (by decide) rfl
                    exact W.iret (v := (-4)) hx hb hr (fun t ht hW => ⟨⟨(-4), (df1, df2, df3, df4, dleastWorst, dlisted, dsailing, dshared), rfl, ⟨(by (try dsimp only); omega), (by (try dsimp only); omega), (by (try dsimp only); omega), (by have h0 := t_m4; (try dsimp only); omega)⟩, by rw [ht]; exact hP9, hD9⟩, hS.F ht⟩) hS.2.2 dX8_deal_79
              ·
                have ic_7 : p1.toInt = 0 := (g_eq rfl t_0).mp c_7
                clear c_7
                refine lv_iload_n hx hb dX8_deal_38 rfl (lv_at hl 3 rfl) ?_
                refine lv_if_eq (tgt := 44) hx hb dX8_deal_39 (by decide) (fun c_34 => ?_) (fun c_34 => ?_)
                ·
                  have ic_34 : p2.toInt = 0 := (g_eq rfl t_0).mp c_34
                  clear c_34
                  refine lv_iload_n hx hb dX8_deal_44 rfl (lv_at hl 2 rfl) ?_
                  refine lv_if_ne (tgt := 52) hx hb dX8_deal_45 (by decide) (fun c_35 => absurd (by rw [g_eq rfl t_0]; omega) c_35) (fun c_35 => ?_)
                  refine lv_iconst (v := 1) hx hb dX8_deal_48 (by decide) ?_
                  refine lv_goto (tgt := 61) hx hb dX8_deal_49 (by decide) ?_
                  refine lv_istore (lv' := [(4, .int 1), (0, .ref xh), (1, .int p0), (2, .int p1), (3, .int p2)]) hx hb dX8_deal_61 hl (by decide) rfl (fun ls hl => ?_)
                  refine lv_aload_n hx hb dX8_deal_63 rfl (lv_at hl 1 rfl) ?_
                  refine va_get (D := D) (ci := 8) (v := .ref (xa 10)) (C := RX8) (T := TX8) (N := 14) hx hb htb iX8 hown hK.1 hP 0 rfl rfl 10 (by decide) (htb _ k_282) (fun _ h9 => h9) rfl dX8_deal_64 ?_
                  refine va_getN (D := D) (ci := 0) (v := .int dlisted) (C := RX0) (T := TX0) (N := 9) hx hb htb iX0 hown hK.1 hP 1 rfl rfl 5 (by decide) (va_Nw.use rfl (hK.2.1 (Cond.fieldLinkNest RX8 275 "SeaWatches$Dealing" "listed" "I" "SeaWatches") (by decide +kernel))) (fun _ h9 => h9) rfl dX8_deal_67 ?_
                  refine lv_iconst (v := 3) hx hb dX8_deal_70 (by decide) ?_
                  refine lv_iload hx hb dX8_deal_71 (lv_at hl 0 rfl) ?_
                  refine lv_imul hx hb dX8_deal_73 ?_
                  refine W_top (y := .int 3) (by decide) ?_
                  refine lv_icmp_ge (tgt := 80) hx hb dX8_deal_74 (by decide) (fun c_36 => ?_) (fun c_36 => ?_)
                  ·
                    have ic_36 : 3 ≤ dlisted.toInt := by first | exact (g_le t_3 rfl).mp c_36 | (have h := mt (g_lt rfl t_3).mpr c_36; omega)
                    clear c_36
                    refine lv_aload_n hx hb dX8_deal_80 rfl (lv_at hl 1 rfl) ?_
                    refine va_get (D := D) (ci := 8) (v := .ref (xa 10)) (C := RX8) (T := TX8) (N := 14) hx hb htb iX8 hown hK.1 hP 0 rfl rfl 10 (by decide) (htb _ k_282) (fun _ h9 => h9) rfl dX8_deal_81 ?_
                    refine lv_iload hx hb dX8_deal_84 (lv_at hl 0 rfl) ?_
                    refine lv_iload_n hx hb dX8_deal_86 rfl (lv_at hl 2 rfl) ?_
                    refine lv_iload_n hx hb dX8_deal_87 rfl (lv_at hl 3 rfl) ?_
                    refine lv_iload_n hx hb dX8_deal_88 rfl (lv_at hl 4 rfl) ?_
                    have hPc := hP.sub (ws' := [((xa 10), .inr (0, G0 da dlisted dshared dsailing dleastWorst)), ((da 0), .inl (E 0, 9, .inl df0)), ((da 1), .inl (E 0, 9, .inl df1)), ((da 2), .inl (E 0, 9, .inl df2)), ((da 3), .inl (E 0, 3, .inl df3)), ((da 4), .inl (E 0, 3, .inl df4))]) [1, 2, 3, 4, 5, 6] rfl
                    have hDc := hD.sub (ws' := [((xa 10), .inr (0, G0 da dlisted dshared dsailing dleastWorst)), ((da 0), .inl (E 0, 9, .inl df0)), ((da 1), .inl (E 0, 9, .inl df1)), ((da 2), .inl (E 0, 9, .inl df2)), ((da 3), .inl (E 0, 3, .inl df3)), ((da 4), .inl (E 0, 3, .inl df4))]) [1, 2, 3, 4, 5, 6] (by decide) rfl
                    refine aft_i (runMV (rest := []) (As := [.int 1, .int p0, .int p1, .int p2]) hx hb hml hown htb hK (g_X0_shareOut l D E (xa 10) da dlisted dshared dsailing dleastWorst df0 df1 df2 df3 df4 1 p0 p1 p2 _ (by (try dsimp only); omega)) ok_X0_shareOut k_898 k_899 k_900 k_7 k_901 ⟨(Nat.le_of_ble_eq_true rfl), (Nat.le_of_ble_eq_true rfl)⟩ ⟨(Nat.le_of_ble_eq_true rfl), (Nat.le_of_ble_eq_true rfl)⟩ hl.1 (Nat.le_of_ble_eq_true rfl) rfl rfl dX8_deal_89 hPc hDc rfl rfl 0 rfl) hP hD hS hA [1, 2, 3, 4, 5, 6] [0] (wr := [(xh, .inr (8, G8 xa xtrialRule xdropRule xtoday))]) rfl rfl (by decide) (by decide) (fun r_37 u_39 H locs hw_38 hP hD hS => ?_)
                    clear hPc hDc
                    obtain ⟨w_40, w_41, w_42, w_43, w_44, w_45, w_46, w_47⟩ := u_39
                    try dsimp only at hw_38
                    have hP : va_P D vwCl [(xh, .inr (8, G8 xa xtrialRule xdropRule xtoday)), ((xa 10), .inr (0, G0 da w_45 w_47 w_46 w_44)), ((da 0), .inl (E 0, 9, .inl df0)), ((da 1), .inl (E 0, 9, .inl w_40)), ((da 2), .inl (E 0, 9, .inl w_41)), ((da 3), .inl (E 0, 3, .inl w_42)), ((da 4), .inl (E 0, 3, .inl w_43))] H := hP
                    have hD := toW hP hD rfl
                    obtain ⟨hw_38_0, hw_38_1, hw_38_2, hw_38_3⟩ := hw_38
                    try simp only [t_1] at hw_38_0
                    try simp only [t_1] at hw_38_1
                    try simp only [t_1] at hw_38_2
                    try simp only [t_1] at hw_38_3
                    have hP9 := hP.sub (ws' := [(xh, .inr (8, G8 xa xtrialRule xdropRule xtoday)), ((xa 10), .inr (0, G0 da w_45 w_47 w_46 w_44)), ((da 0), .inl (E 0, 9, .inl df0)), ((da 1), .inl (E 0, 9, .inl w_40)), ((da 2), .inl (E 0, 9, .inl w_41)), ((da 3), .inl (E 0, 3, .inl w_42)), ((da 4), .inl (E 0, 3, .inl w_43))]) [0, 1, 2, 3, 4, 5, 6] rfl
                    have hD9 := hD.sub (ws' := [(xh, .inr (8, G8 xa xtrialRule xdropRule xtoday)), ((xa 10), .inr (0, G0 da w_45 w_47 w_46 w_44)), ((da 0), .inl (E 0, 9, .inl df0)), ((da 1), .inl (E 0, 9, .inl w_40)), ((da 2), .inl (E 0, 9, .inl w_41)), ((da 3), .inl (E 0, 3, .inl w_42)), ((da 4), .inl (E 0, 3, .inl w_43))]) [0, 1, 2, 3, 4, 5, 6] (by decide) rfl
                    exact W.iret (v := r_37) hx hb hr (fun t ht hW => ⟨⟨r_37, (w_40, w_41, w_42, w_43, w_44, w_45, w_46, w_47), rfl, ⟨(by (try dsimp only); omega), (by (try dsimp only); omega), (by (try dsimp only); omega), (by (try dsimp only); omega)⟩, by rw [ht]; exact hP9, hD9⟩, hS.F ht⟩) hS.2.2 dX8_deal_92
                  ·
                    have ic_36 : dlisted.toInt < 3 := by first | exact (g_lt rfl t_3).mp c_36 | (have h := mt (g_le t_3 rfl).mpr c_36; omega)
                    clear c_36
                    refine lv_bipush (v := (-4)) hx hb dX8_deal_77 (by decide) ?_
                    have hP9 := hP.sub (ws' := [(xh, .inr (8, G8 xa xtrialRule xdropRule xtoday)), ((xa 10), .inr (0, G0 da dlisted dshared dsailing dleastWorst)), ((da 0), .inl (E 0, 9, .inl df0)), ((da 1), .inl (E 0, 9, .inl df1)), ((da 2), .inl (E 0, 9, .inl df2)), ((da 3), .inl (E 0, 3, .inl df3)), ((da 4), .inl (E 0, 3, .inl df4))]) [0, 1, 2, 3, 4, 5, 6] rfl
                    have hD9 := hD.sub (ws' := [(xh, .inr (8, G8 xa xtrialRule xdropRule xtoday)), ((xa 10), .inr (0, G0 da dlisted dshared dsailing dleastWorst)), ((da 0), .inl (E 0, 9, .inl df0)), ((da 1), .inl (E 0, 9, .inl df1)), ((da 2), .inl (E 0, 9, .inl df2)), ((da 3), .inl (E 0, 3, .inl df3)), ((da 4), .inl (E 0, 3, .inl df4))]) [0, 1, 2, 3, 4, 5, 6] (by decide) rfl
                    exact W.iret (v := (-4)) hx hb hr (fun t ht hW => ⟨⟨(-4), (df1, df2, df3, df4, dleastWorst, dlisted, dsailing, dshared), rfl, ⟨(by (try dsimp only); omega), (by (try dsimp only); omega), (by (try dsimp only); omega), (by have h0 := t_m4; (try dsimp only); omega)⟩, by rw [ht]; exact hP9, hD9⟩, hS.F ht⟩) hS.2.2 dX8_deal_79
                ·
                  have ic_34 : p2.toInt ≠ 0 := mt (g_eq rfl t_0).mpr c_34
                  clear c_34
                  refine lv_iconst (v := (-1)) hx hb dX8_deal_42 (by decide) ?_
                  have hP9 := hP.sub (ws' := [(xh, .inr (8, G8 xa xtrialRule xdropRule xtoday)), ((xa 10), .inr (0, G0 da dlisted dshared dsailing dleastWorst)), ((da 0), .inl (E 0, 9, .inl df0)), ((da 1), .inl (E 0, 9, .inl df1)), ((da 2), .inl (E 0, 9, .inl df2)), ((da 3), .inl (E 0, 3, .inl df3)), ((da 4), .inl (E 0, 3, .inl df4))]) [0, 1, 2, 3, 4, 5, 6] rfl
                  have hD9 := hD.sub (ws' := [(xh, .inr (8, G8 xa xtrialRule xdropRule xtoday)), ((xa 10), .inr (0, G0 da dlisted dshared dsailing dleastWorst)), ((da 0), .inl (E 0, 9, .inl df0)), ((da 1), .inl (E 0, 9, .inl df1)), ((da 2), .inl (E 0, 9, .inl df2)), ((da 3), .inl (E 0, 3, .inl df3)), ((da 4), .inl (E 0, 3, .inl df4))]) [0, 1, 2, 3, 4, 5, 6] (by decide) rfl
                  exact W.iret (v := (-1)) hx hb hr (fun t ht hW => ⟨⟨(-1), (df1, df2, df3, df4, dleastWorst, dlisted, dsailing, dshared), rfl, ⟨(by (try dsimp only); omega), (by (try dsimp only); omega), (by (try dsimp only); omega), (by have h0 := t_m1; (try dsimp only); omega)⟩, by rw [ht]; exact hP9, hD9⟩, hS.F ht⟩) hS.2.2 dX8_deal_43
set_option maxHeartbeats 4000000 in
set_option maxRecDepth 100000 in
theorem g_X8_dealt (l : Launch) (D : va_G) (E : Nat → Nat) (xh : Nat) (xa : Nat → Nat) (xtrialRule : Nat) (xdropRule : Nat) (xtoday : Int32) (da : Nat → Nat) (dlisted : Int32) (dshared : Int32) (dsailing : Int32) (dleastWorst : Int32) (df2 : Nat → Int32) (p0 : Int32) (hi_x : (0 ≤ xtoday.toInt ∧ xtoday.toInt ≤ 399)) (hi_d : (0 ≤ dlisted.toInt ∧ dlisted.toInt ≤ 9) ∧ (0 ≤ dshared.toInt ∧ dshared.toInt ≤ 9) ∧ (0 ≤ dsailing.toInt ∧ dsailing.toInt ≤ 3)) : Met l yX8_dealt (wl yX8_dealt cX8_dealt 2 (some .int)) (RM 0 0 0) (rd_P D E [.ref xh, .int p0] [(xh, .inr (8, G8 xa xtrialRule xdropRule xtoday)), ((xa 10), .inr (0, G0 da dlisted dshared dsailing dleastWorst)), ((da 2), .inl (E 0, 9, .inl df2))]) (rd_Q (fun r => True)) 0 0 (fun _ => False) := by
  refine Met.ofW (cc := cX8_dealt) (maxL := 2) (ret := (some .int)) (by decide) rfl ?_
  intro p e s m args below meth c s₁ B hml hv
  obtain ⟨rfl, hP, hK⟩ := hv
  have hx := B.exec; have hb := B.bytes; have hr := B.returns
  have hts := atoms_spec (ws := wl yX8_dealt cX8_dealt 2 (some .int)) B.pre
  have htb : ∀ w ∈ tb, w.before _ s = true := fun w h => hts w (List.mem_cons_of_mem _ h)
  have hown : s.vm.findClass RX8 = some m.cls := findClass_of_methodNamed B.named
  have hlocks := B.notSynchronized
  have hP : va_P D vwCl [(xh, .inr (8, G8 xa xtrialRule xdropRule xtoday)), ((xa 10), .inr (0, G0 da dlisted dshared dsailing dleastWorst)), ((da 2), .inl (E 0, 9, .inl df2))] s.heap := hP
  have hl := lv_entry ([.ref xh, .int p0]) (n := 2) (Nat.le_of_ble_eq_true rfl)
  rw [lg_entry_eq]
  generalize (lg_sl ([.ref xh, .int p0]) ++ List.replicate (2 - (lg_sl ([.ref xh, .int p0])).length) Slot.unset).toArray = ls at hl ⊢
  have hl : lv_has ls 2 [(0, .ref xh), (1, .int p0)] := hl
  have lo_p0 := i_lo p0; have hi_p0 := i_hi p0
  refine lv_iload_n hx hb dX8_dealt_0 rfl (lv_at hl 1 rfl) ?_
  refine lv_if_lt (tgt := 15) hx hb dX8_dealt_1 (by decide) (fun c_1 => ?_) (fun c_1 => ?_)
  ·
    have ic_1 : p0.toInt < 0 := by first | exact (g_lt rfl t_0).mp c_1 | (have h := mt (g_le t_0 rfl).mpr c_1; omega)
    clear c_1
    refine lv_ldc hx hb hown (htb _ k_386) dX8_dealt_15 ?_
    refine lv_goto (tgt := 29) hx hb dX8_dealt_17 (by decide) ?_
    exact W.iret (v := (-2000000000)) hx hb hr (fun t ht hW => ⟨(-2000000000), rfl, trivial, ht⟩) (fun q h => by cases h) dX8_dealt_29
  ·
    have ic_1 : 0 ≤ p0.toInt := by first | exact (g_le t_0 rfl).mp c_1 | (have h := mt (g_lt rfl t_0).mpr c_1; omega)
    clear c_1
    refine lv_iload_n hx hb dX8_dealt_4 rfl (lv_at hl 1 rfl) ?_
    refine lv_aload_n hx hb dX8_dealt_5 rfl (lv_at hl 0 rfl) ?_
    refine va_get (D := D) (ci := 8) (v := .ref (xa 10)) (C := RX8) (T := TX8) (N := 14) hx hb htb iX8 hown hK.1 hP 0 rfl rfl 10 (by decide) (htb _ k_282) (fun _ h9 => h9) rfl dX8_dealt_6 ?_
    refine va_getN (D := D) (ci := 0) (v := .int dshared) (C := RX0) (T := TX0) (N := 9) hx hb htb iX0 hown hK.1 hP 1 rfl rfl 6 (by decide) (va_Nw.use rfl (hK.2.1 (Cond.fieldLinkNest RX8 282 "SeaWatches$Dealing" "shared" "I" "SeaWatches") (by decide +kernel))) (fun _ h9 => h9) rfl dX8_dealt_9 ?_
    refine lv_icmp_lt (tgt := 20) hx hb dX8_dealt_12 (by decide) (fun c_2 => ?_) (fun c_2 => ?_)
    ·
      have ic_2 : p0.toInt < dshared.toInt := by first | exact (g_lt rfl rfl).mp c_2 | (have h := mt (g_le rfl rfl).mpr c_2; omega)
      clear c_2
      refine lv_aload_n hx hb dX8_dealt_20 rfl (lv_at hl 0 rfl) ?_
      refine va_get (D := D) (ci := 8) (v := .ref (xa 10)) (C := RX8) (T := TX8) (N := 14) hx hb htb iX8 hown hK.1 hP 0 rfl rfl 10 (by decide) (htb _ k_282) (fun _ h9 => h9) rfl dX8_dealt_21 ?_
      refine va_getN (D := D) (ci := 0) (v := .ref (da 2)) (C := RX0) (T := TX0) (N := 9) hx hb htb iX0 hown hK.1 hP 1 rfl rfl 2 (by decide) (va_Nw.use rfl (hK.2.1 (Cond.fieldLinkNest RX8 285 "SeaWatches$Dealing" "best" "[I" "SeaWatches") (by decide +kernel))) (fun _ h9 => h9) rfl dX8_dealt_24 ?_
      refine lv_iload_n hx hb dX8_dealt_27 rfl (lv_at hl 1 rfl) ?_
      refine va_iald hx hb hK.1 hP 2 0 rfl rfl (g_in rfl (by omega) (by omega)) dX8_dealt_28 ?_
      refine lv_topi (fun z_3 ez_3 => ?_)
      have kz_3 := congrArg Int32.toInt ez_3
      exact W.iret (v := z_3) hx hb hr (fun t ht hW => ⟨z_3, rfl, trivial, ht⟩) (fun q h => by cases h) dX8_dealt_29
    ·
      have ic_2 : dshared.toInt ≤ p0.toInt := by first | exact (g_le rfl rfl).mp c_2 | (have h := mt (g_lt rfl rfl).mpr c_2; omega)
      clear c_2
      refine lv_ldc hx hb hown (htb _ k_386) dX8_dealt_15 ?_
      refine lv_goto (tgt := 29) hx hb dX8_dealt_17 (by decide) ?_
      exact W.iret (v := (-2000000000)) hx hb hr (fun t ht hW => ⟨(-2000000000), rfl, trivial, ht⟩) (fun q h => by cases h) dX8_dealt_29
set_option maxHeartbeats 4000000 in
set_option maxRecDepth 100000 in
theorem g_X8_count (l : Launch) (D : va_G) (E : Nat → Nat) (xh : Nat) (xa : Nat → Nat) (xtrialRule : Nat) (xdropRule : Nat) (xtoday : Int32) (xf1 : Nat → Int32) (xf4 : Nat → Option Nat) (y0h : Nat) (y0a : Nat → Nat) (y0sights : Int32) (y0stage : Int32) (y0sailed : Int32) (y0voyage : Int32) (y1h : Nat) (y1a : Nat → Nat) (y1sights : Int32) (y1stage : Int32) (y1sailed : Int32) (y1voyage : Int32) (y2h : Nat) (y2a : Nat → Nat) (y2sights : Int32) (y2stage : Int32) (y2sailed : Int32) (y2voyage : Int32) (y3h : Nat) (y3a : Nat → Nat) (y3sights : Int32) (y3stage : Int32) (y3sailed : Int32) (y3voyage : Int32) (y4h : Nat) (y4a : Nat → Nat) (y4sights : Int32) (y4stage : Int32) (y4sailed : Int32) (y4voyage : Int32) (oa : Nat → Nat) (osize : Int32) (ta : Nat → Nat) (tsize : Int32) (trule : Nat) (twords : Nat) (tat : Int32) (tword : Int32) (twordAt : Int32) (tvalue : Int32) (da : Nat → Nat) (dlisted : Int32) (dshared : Int32) (dsailing : Int32) (dleastWorst : Int32) (p0 : Int32) (hi_x : (0 ≤ xtoday.toInt ∧ xtoday.toInt ≤ 399)) (hi_y0 : (0 ≤ y0sights.toInt ∧ y0sights.toInt ≤ 40)) (hi_y1 : (0 ≤ y1sights.toInt ∧ y1sights.toInt ≤ 40)) (hi_y2 : (0 ≤ y2sights.toInt ∧ y2sights.toInt ≤ 40)) (hi_y3 : (0 ≤ y3sights.toInt ∧ y3sights.toInt ≤ 40)) (hi_y4 : (0 ≤ y4sights.toInt ∧ y4sights.toInt ≤ 40)) (hi_o : (0 ≤ osize.toInt ∧ osize.toInt ≤ 60)) (hi_t : (0 ≤ tsize.toInt ∧ tsize.toInt ≤ 120)) (hi_d : (0 ≤ dlisted.toInt ∧ dlisted.toInt ≤ 9) ∧ (0 ≤ dshared.toInt ∧ dshared.toInt ≤ 9) ∧ (0 ≤ dsailing.toInt ∧ dsailing.toInt ≤ 3)) (hq0 : xf4 (0 : Int32).toNatClampNeg = some y0h) (hq1 : xf4 (1 : Int32).toNatClampNeg = some y1h) (hq2 : xf4 (2 : Int32).toNatClampNeg = some y2h) (hq3 : xf4 (3 : Int32).toNatClampNeg = some y3h) (hq4 : xf4 (4 : Int32).toNatClampNeg = some y4h) : Met l yX8_count (wl yX8_count cX8_count 2 (some .int)) (RM 1 0 0) (rd_P D E [.ref xh, .int p0] [(xh, .inr (8, G8 xa xtrialRule xdropRule xtoday)), ((xa 1), .inl (E 0, 16, .inl xf1)), ((xa 4), .inl (E 4, 5, .inr (.inr (.inr (.inr xf4))))), (y0h, .inr (5, G5 y0a y0sights y0stage y0sailed y0voyage)), (y1h, .inr (5, G5 y1a y1sights y1stage y1sailed y1voyage)), (y2h, .inr (5, G5 y2a y2sights y2stage y2sailed y2voyage)), (y3h, .inr (5, G5 y3a y3sights y3stage y3sailed y3voyage)), (y4h, .inr (5, G5 y4a y4sights y4stage y4sailed y4voyage)), ((xa 6), .inr (2, G2 oa osize)), ((xa 9), .inr (6, G6 ta tsize trule twords tat tword twordAt tvalue)), ((xa 10), .inr (0, G0 da dlisted dshared dsailing dleastWorst))]) (rd_Q (fun r => ((p0.toInt = 0 ∧ r.toInt = cnK xf1 0 16 + cnK xf1 1 16) ∨ (p0.toInt = 1 ∧ r.toInt = xtoday.toInt) ∨ (p0.toInt = 2 ∧ r.toInt = osize.toInt) ∨ (p0.toInt = 3 ∧ r.toInt = (if y0stage.toInt = 1 then 1 else 0) + (if y1stage.toInt = 1 then 1 else 0) + (if y2stage.toInt = 1 then 1 else 0) + (if y3stage.toInt = 1 then 1 else 0) + (if y4stage.toInt = 1 then 1 else 0)) ∨ (p0.toInt = 4 ∧ r.toInt = tsize.toInt) ∨ (p0.toInt = 5 ∧ r.toInt = cnK xf1 2 16) ∨ (p0.toInt = 6 ∧ r.toInt = dlisted.toInt) ∨ (¬ (0 ≤ p0.toInt ∧ p0.toInt ≤ 6) ∧ r.toInt = -1)))) 0 0 (fun _ => False) := by
  refine Met.ofW (cc := cX8_count) (maxL := 2) (ret := (some .int)) (by decide) rfl ?_
  intro p e s m args below meth c s₁ B hml hv
  obtain ⟨rfl, hP, hK⟩ := hv
  have hx := B.exec; have hb := B.bytes; have hr := B.returns
  have hts := atoms_spec (ws := wl yX8_count cX8_count 2 (some .int)) B.pre
  have htb : ∀ w ∈ tb, w.before _ s = true := fun w h => hts w (List.mem_cons_of_mem _ h)
  have hown : s.vm.findClass RX8 = some m.cls := findClass_of_methodNamed B.named
  have hlocks := B.notSynchronized
  have hP : va_P D vwCl [(xh, .inr (8, G8 xa xtrialRule xdropRule xtoday)), ((xa 1), .inl (E 0, 16, .inl xf1)), ((xa 4), .inl (E 4, 5, .inr (.inr (.inr (.inr xf4))))), (y0h, .inr (5, G5 y0a y0sights y0stage y0sailed y0voyage)), (y1h, .inr (5, G5 y1a y1sights y1stage y1sailed y1voyage)), (y2h, .inr (5, G5 y2a y2sights y2stage y2sailed y2voyage)), (y3h, .inr (5, G5 y3a y3sights y3stage y3sailed y3voyage)), (y4h, .inr (5, G5 y4a y4sights y4stage y4sailed y4voyage)), ((xa 6), .inr (2, G2 oa osize)), ((xa 9), .inr (6, G6 ta tsize trule twords tat tword twordAt tvalue)), ((xa 10), .inr (0, G0 da dlisted dshared dsailing dleastWorst))] s.heap := hP
  have hl := lv_entry ([.ref xh, .int p0]) (n := 2) (Nat.le_of_ble_eq_true rfl)
  rw [lg_entry_eq]
  generalize (lg_sl ([.ref xh, .int p0]) ++ List.replicate (2 - (lg_sl ([.ref xh, .int p0])).length) Slot.unset).toArray = ls at hl ⊢
  have hl : lv_has ls 2 [(0, .ref xh), (1, .int p0)] := hl
  have lo_p0 := i_lo p0; have hi_p0 := i_hi p0
  refine lv_iload_n hx hb dX8_count_0 rfl (lv_at hl 1 rfl) ?_
  by_cases h_1 : p0.toInt < 0 ∨ 6 < p0.toInt
  ·
    refine lv_tableOut (tgt := 96) hx hb dX8_count_1 h_1 (by decide) ?_
    refine lv_iconst (v := (-1)) hx hb dX8_count_96 (by decide) ?_
    exact W.iret (v := (-1)) hx hb hr (fun t ht hW => ⟨(-1), rfl, (by have hl0 := t_m1; (try dsimp only); first | exact Or.inl ⟨by omega, by omega⟩ | exact Or.inr (Or.inl ⟨by omega, by omega⟩) | exact Or.inr (Or.inr (Or.inl ⟨by omega, by omega⟩)) | exact Or.inr (Or.inr (Or.inr (Or.inl ⟨by omega, by assumption⟩))) | exact Or.inr (Or.inr (Or.inr (Or.inr (Or.inl ⟨by omega, by omega⟩)))) | exact Or.inr (Or.inr (Or.inr (Or.inr (Or.inr (Or.inl ⟨by omega, by omega⟩))))) | exact Or.inr (Or.inr (Or.inr (Or.inr (Or.inr (Or.inr (Or.inl ⟨by omega, by omega⟩)))))) | exact Or.inr (Or.inr (Or.inr (Or.inr (Or.inr (Or.inr (Or.inr ⟨by omega, by omega⟩))))))), ht⟩) (fun q h => by cases h) dX8_count_97
  ·
    have h_2 : p0.toInt = 0 ∨ p0.toInt = 1 ∨ p0.toInt = 2 ∨ p0.toInt = 3 ∨ p0.toInt = 4 ∨ p0.toInt = 5 ∨ p0.toInt = 6 := by omega
    rcases h_2 with h_2 | h_2 | h_2 | h_2 | h_2 | h_2 | h_2
    ·
      refine lv_tableIn (off := 43) (tgt := 44) hx hb dX8_count_1 (by omega) (by omega) (by rw [h_2]; decide) (by decide) ?_
      refine lv_aload_n hx hb dX8_count_44 rfl (lv_at hl 0 rfl) ?_
      refine lv_iconst (v := 0) hx hb dX8_count_45 (by decide) ?_
      refine callRV (rest := []) (As := [.int 0]) hx hb hml hown htb hK (g_X8_placesWith l D E xh xa xtrialRule xdropRule xtoday xf1 0 (by (try dsimp only); omega)) ok_X8_placesWith k_945 k_947 ks_37 k_1 k_948 ⟨(Nat.le_of_ble_eq_true rfl), (Nat.le_of_ble_eq_true rfl)⟩ ⟨(Nat.le_of_ble_eq_true rfl), (Nat.le_of_ble_eq_true rfl)⟩ hl.1 (Nat.le_of_ble_eq_true rfl) rfl rfl dX8_count_46 (hP.sub (ws' := [(xh, .inr (8, G8 xa xtrialRule xdropRule xtoday)), ((xa 1), .inl (E 0, 16, .inl xf1))]) [0, 1] rfl) rfl rfl 0 rfl (fun r_3 hw_4 => ?_)
      try simp only [t_0] at hw_4
      refine lv_aload_n hx hb dX8_count_49 rfl (lv_at hl 0 rfl) ?_
      refine lv_iconst (v := 1) hx hb dX8_count_50 (by decide) ?_
      refine callRV (rest := [.int r_3]) (As := [.int 1]) hx hb hml hown htb hK (g_X8_placesWith l D E xh xa xtrialRule xdropRule xtoday xf1 1 (by (try dsimp only); omega)) ok_X8_placesWith k_945 k_947 ks_37 k_1 k_948 ⟨(Nat.le_of_ble_eq_true rfl), (Nat.le_of_ble_eq_true rfl)⟩ ⟨(Nat.le_of_ble_eq_true rfl), (Nat.le_of_ble_eq_true rfl)⟩ hl.1 (Nat.le_of_ble_eq_true rfl) rfl rfl dX8_count_51 (hP.sub (ws' := [(xh, .inr (8, G8 xa xtrialRule xdropRule xtoday)), ((xa 1), .inl (E 0, 16, .inl xf1))]) [0, 1] rfl) rfl rfl 0 rfl (fun r_6 hw_7 => ?_)
      try simp only [t_1] at hw_7
      refine lv_iadd hx hb dX8_count_54 ?_
      refine lv_topi (fun z_9 ez_9 => ?_)
      have jz_9 : z_9.toInt = r_3.toInt + r_6.toInt := by rw [ez_9]; exact g_add rfl rfl (by omega) (by omega)
      exact W.iret (v := z_9) hx hb hr (fun t ht hW => ⟨z_9, rfl, (by (try dsimp only); first | exact Or.inl ⟨by omega, by omega⟩ | exact Or.inr (Or.inl ⟨by omega, by omega⟩) | exact Or.inr (Or.inr (Or.inl ⟨by omega, by omega⟩)) | exact Or.inr (Or.inr (Or.inr (Or.inl ⟨by omega, by assumption⟩))) | exact Or.inr (Or.inr (Or.inr (Or.inr (Or.inl ⟨by omega, by omega⟩)))) | exact Or.inr (Or.inr (Or.inr (Or.inr (Or.inr (Or.inl ⟨by omega, by omega⟩))))) | exact Or.inr (Or.inr (Or.inr (Or.inr (Or.inr (Or.inr (Or.inl ⟨by omega, by omega⟩)))))) | exact Or.inr (Or.inr (Or.inr (Or.inr (Or.inr (Or.inr (Or.inr ⟨by omega, by omega⟩))))))), ht⟩) (fun q h => by cases h) dX8_count_55
    ·
      refine lv_tableIn (off := 55) (tgt := 56) hx hb dX8_count_1 (by omega) (by omega) (by rw [h_2]; decide) (by decide) ?_
      refine lv_aload_n hx hb dX8_count_56 rfl (lv_at hl 0 rfl) ?_
      refine va_get (D := D) (ci := 8) (v := .int xtoday) (C := RX8) (T := TX8) (N := 14) hx hb htb iX8 hown hK.1 hP 0 rfl rfl 13 (by decide) (htb _ k_285) (fun _ h9 => h9) rfl dX8_count_57 ?_
      exact W.iret (v := xtoday) hx hb hr (fun t ht hW => ⟨xtoday, rfl, (by (try dsimp only); first | exact Or.inl ⟨by omega, by omega⟩ | exact Or.inr (Or.inl ⟨by omega, by omega⟩) | exact Or.inr (Or.inr (Or.inl ⟨by omega, by omega⟩)) | exact Or.inr (Or.inr (Or.inr (Or.inl ⟨by omega, by assumption⟩))) | exact Or.inr (Or.inr (Or.inr (Or.inr (Or.inl ⟨by omega, by omega⟩)))) | exact Or.inr (Or.inr (Or.inr (Or.inr (Or.inr (Or.inl ⟨by omega, by omega⟩))))) | exact Or.inr (Or.inr (Or.inr (Or.inr (Or.inr (Or.inr (Or.inl ⟨by omega, by omega⟩)))))) | exact Or.inr (Or.inr (Or.inr (Or.inr (Or.inr (Or.inr (Or.inr ⟨by omega, by omega⟩))))))), ht⟩) (fun q h => by cases h) dX8_count_60
    ·
      refine lv_tableIn (off := 60) (tgt := 61) hx hb dX8_count_1 (by omega) (by omega) (by rw [h_2]; decide) (by decide) ?_
      refine lv_aload_n hx hb dX8_count_61 rfl (lv_at hl 0 rfl) ?_
      refine va_get (D := D) (ci := 8) (v := .ref (xa 6)) (C := RX8) (T := TX8) (N := 14) hx hb htb iX8 hown hK.1 hP 0 rfl rfl 6 (by decide) (htb _ k_278) (fun _ h9 => h9) rfl dX8_count_62 ?_
      refine va_getN (D := D) (ci := 2) (v := .int osize) (C := RX2) (T := TX2) (N := 6) hx hb htb iX2 hown hK.1 hP 8 rfl rfl 5 (by decide) (va_Nw.use rfl (hK.2.1 (Cond.fieldLinkNest RX8 142 "SeaWatches$Offs" "size" "I" "SeaWatches") (by decide +kernel))) (fun _ h9 => h9) rfl dX8_count_65 ?_
      exact W.iret (v := osize) hx hb hr (fun t ht hW => ⟨osize, rfl, (by (try dsimp only); first | exact Or.inl ⟨by omega, by omega⟩ | exact Or.inr (Or.inl ⟨by omega, by omega⟩) | exact Or.inr (Or.inr (Or.inl ⟨by omega, by omega⟩)) | exact Or.inr (Or.inr (Or.inr (Or.inl ⟨by omega, by assumption⟩))) | exact Or.inr (Or.inr (Or.inr (Or.inr (Or.inl ⟨by omega, by omega⟩)))) | exact Or.inr (Or.inr (Or.inr (Or.inr (Or.inr (Or.inl ⟨by omega, by omega⟩))))) | exact Or.inr (Or.inr (Or.inr (Or.inr (Or.inr (Or.inr (Or.inl ⟨by omega, by omega⟩)))))) | exact Or.inr (Or.inr (Or.inr (Or.inr (Or.inr (Or.inr (Or.inr ⟨by omega, by omega⟩))))))), ht⟩) (fun q h => by cases h) dX8_count_68
    ·
      refine lv_tableIn (off := 68) (tgt := 69) hx hb dX8_count_1 (by omega) (by omega) (by rw [h_2]; decide) (by decide) ?_
      refine lv_aload_n hx hb dX8_count_69 rfl (lv_at hl 0 rfl) ?_
      refine callRV (rest := []) (As := []) hx hb hml hown htb hK (g_X8_shipsAtSea l D E xh xa xtrialRule xdropRule xtoday xf4 y0h y0a y0sights y0stage y0sailed y0voyage y1h y1a y1sights y1stage y1sailed y1voyage y2h y2a y2sights y2stage y2sailed y2voyage y3h y3a y3sights y3stage y3sailed y3voyage y4h y4a y4sights y4stage y4sailed y4voyage (by (try dsimp only); omega) (by (try dsimp only); omega) (by (try dsimp only); omega) (by (try dsimp only); omega) (by (try dsimp only); omega) (by (try dsimp only); omega) hq0 hq1 hq2 hq3 hq4) ok_X8_shipsAtSea k_949 k_951 ks_38 k_1 k_952 ⟨(Nat.le_of_ble_eq_true rfl), (Nat.le_of_ble_eq_true rfl)⟩ ⟨(Nat.le_of_ble_eq_true rfl), (Nat.le_of_ble_eq_true rfl)⟩ hl.1 (Nat.le_of_ble_eq_true rfl) rfl rfl dX8_count_70 (hP.sub (ws' := [(xh, .inr (8, G8 xa xtrialRule xdropRule xtoday)), ((xa 4), .inl (E 4, 5, .inr (.inr (.inr (.inr xf4))))), (y0h, .inr (5, G5 y0a y0sights y0stage y0sailed y0voyage)), (y1h, .inr (5, G5 y1a y1sights y1stage y1sailed y1voyage)), (y2h, .inr (5, G5 y2a y2sights y2stage y2sailed y2voyage)), (y3h, .inr (5, G5 y3a y3sights y3stage y3sailed y3voyage)), (y4h, .inr (5, G5 y4a y4sights y4stage y4sailed y4voyage))]) [0, 2, 3, 4, 5, 6, 7] rfl) rfl rfl 0 rfl (fun r_10 hw_11 => ?_)
      exact W.iret (v := r_10) hx hb hr (fun t ht hW => ⟨r_10, rfl, (by (try dsimp only); first | exact Or.inl ⟨by omega, by omega⟩ | exact Or.inr (Or.inl ⟨by omega, by omega⟩) | exact Or.inr (Or.inr (Or.inl ⟨by omega, by omega⟩)) | exact Or.inr (Or.inr (Or.inr (Or.inl ⟨by omega, by assumption⟩))) | exact Or.inr (Or.inr (Or.inr (Or.inr (Or.inl ⟨by omega, by omega⟩)))) | exact Or.inr (Or.inr (Or.inr (Or.inr (Or.inr (Or.inl ⟨by omega, by omega⟩))))) | exact Or.inr (Or.inr (Or.inr (Or.inr (Or.inr (Or.inr (Or.inl ⟨by omega, by omega⟩)))))) | exact Or.inr (Or.inr (Or.inr (Or.inr (Or.inr (Or.inr (Or.inr ⟨by omega, by omega⟩))))))), ht⟩) (fun q h => by cases h) dX8_count_73
    ·
      refine lv_tableIn (off := 73) (tgt := 74) hx hb dX8_count_1 (by omega) (by omega) (by rw [h_2]; decide) (by decide) ?_
      refine lv_aload_n hx hb dX8_count_74 rfl (lv_at hl 0 rfl) ?_
      refine va_get (D := D) (ci := 8) (v := .ref (xa 9)) (C := RX8) (T := TX8) (N := 14) hx hb htb iX8 hown hK.1 hP 0 rfl rfl 9 (by decide) (htb _ k_281) (fun _ h9 => h9) rfl dX8_count_75 ?_
      refine va_getN (D := D) (ci := 6) (v := .int tsize) (C := RX6) (T := TX6) (N := 8) hx hb htb iX6 hown hK.1 hP 9 rfl rfl 1 (by decide) (va_Nw.use rfl (hK.2.1 (Cond.fieldLinkNest RX8 179 "SeaWatches$Tape" "size" "I" "SeaWatches") (by decide +kernel))) (fun _ h9 => h9) rfl dX8_count_78 ?_
      exact W.iret (v := tsize) hx hb hr (fun t ht hW => ⟨tsize, rfl, (by (try dsimp only); first | exact Or.inl ⟨by omega, by omega⟩ | exact Or.inr (Or.inl ⟨by omega, by omega⟩) | exact Or.inr (Or.inr (Or.inl ⟨by omega, by omega⟩)) | exact Or.inr (Or.inr (Or.inr (Or.inl ⟨by omega, by assumption⟩))) | exact Or.inr (Or.inr (Or.inr (Or.inr (Or.inl ⟨by omega, by omega⟩)))) | exact Or.inr (Or.inr (Or.inr (Or.inr (Or.inr (Or.inl ⟨by omega, by omega⟩))))) | exact Or.inr (Or.inr (Or.inr (Or.inr (Or.inr (Or.inr (Or.inl ⟨by omega, by omega⟩)))))) | exact Or.inr (Or.inr (Or.inr (Or.inr (Or.inr (Or.inr (Or.inr ⟨by omega, by omega⟩))))))), ht⟩) (fun q h => by cases h) dX8_count_81
    ·
      refine lv_tableIn (off := 81) (tgt := 82) hx hb dX8_count_1 (by omega) (by omega) (by rw [h_2]; decide) (by decide) ?_
      refine lv_aload_n hx hb dX8_count_82 rfl (lv_at hl 0 rfl) ?_
      refine lv_iconst (v := 2) hx hb dX8_count_83 (by decide) ?_
      refine callRV (rest := []) (As := [.int 2]) hx hb hml hown htb hK (g_X8_placesWith l D E xh xa xtrialRule xdropRule xtoday xf1 2 (by (try dsimp only); omega)) ok_X8_placesWith k_945 k_947 ks_37 k_1 k_948 ⟨(Nat.le_of_ble_eq_true rfl), (Nat.le_of_ble_eq_true rfl)⟩ ⟨(Nat.le_of_ble_eq_true rfl), (Nat.le_of_ble_eq_true rfl)⟩ hl.1 (Nat.le_of_ble_eq_true rfl) rfl rfl dX8_count_84 (hP.sub (ws' := [(xh, .inr (8, G8 xa xtrialRule xdropRule xtoday)), ((xa 1), .inl (E 0, 16, .inl xf1))]) [0, 1] rfl) rfl rfl 0 rfl (fun r_13 hw_14 => ?_)
      try simp only [t_2] at hw_14
      exact W.iret (v := r_13) hx hb hr (fun t ht hW => ⟨r_13, rfl, (by (try dsimp only); first | exact Or.inl ⟨by omega, by omega⟩ | exact Or.inr (Or.inl ⟨by omega, by omega⟩) | exact Or.inr (Or.inr (Or.inl ⟨by omega, by omega⟩)) | exact Or.inr (Or.inr (Or.inr (Or.inl ⟨by omega, by assumption⟩))) | exact Or.inr (Or.inr (Or.inr (Or.inr (Or.inl ⟨by omega, by omega⟩)))) | exact Or.inr (Or.inr (Or.inr (Or.inr (Or.inr (Or.inl ⟨by omega, by omega⟩))))) | exact Or.inr (Or.inr (Or.inr (Or.inr (Or.inr (Or.inr (Or.inl ⟨by omega, by omega⟩)))))) | exact Or.inr (Or.inr (Or.inr (Or.inr (Or.inr (Or.inr (Or.inr ⟨by omega, by omega⟩))))))), ht⟩) (fun q h => by cases h) dX8_count_87
    ·
      refine lv_tableIn (off := 87) (tgt := 88) hx hb dX8_count_1 (by omega) (by omega) (by rw [h_2]; decide) (by decide) ?_
      refine lv_aload_n hx hb dX8_count_88 rfl (lv_at hl 0 rfl) ?_
      refine va_get (D := D) (ci := 8) (v := .ref (xa 10)) (C := RX8) (T := TX8) (N := 14) hx hb htb iX8 hown hK.1 hP 0 rfl rfl 10 (by decide) (htb _ k_282) (fun _ h9 => h9) rfl dX8_count_89 ?_
      refine va_getN (D := D) (ci := 0) (v := .int dlisted) (C := RX0) (T := TX0) (N := 9) hx hb htb iX0 hown hK.1 hP 10 rfl rfl 5 (by decide) (va_Nw.use rfl (hK.2.1 (Cond.fieldLinkNest RX8 275 "SeaWatches$Dealing" "listed" "I" "SeaWatches") (by decide +kernel))) (fun _ h9 => h9) rfl dX8_count_92 ?_
      exact W.iret (v := dlisted) hx hb hr (fun t ht hW => ⟨dlisted, rfl, (by (try dsimp only); first | exact Or.inl ⟨by omega, by omega⟩ | exact Or.inr (Or.inl ⟨by omega, by omega⟩) | exact Or.inr (Or.inr (Or.inl ⟨by omega, by omega⟩)) | exact Or.inr (Or.inr (Or.inr (Or.inl ⟨by omega, by assumption⟩))) | exact Or.inr (Or.inr (Or.inr (Or.inr (Or.inl ⟨by omega, by omega⟩)))) | exact Or.inr (Or.inr (Or.inr (Or.inr (Or.inr (Or.inl ⟨by omega, by omega⟩))))) | exact Or.inr (Or.inr (Or.inr (Or.inr (Or.inr (Or.inr (Or.inl ⟨by omega, by omega⟩)))))) | exact Or.inr (Or.inr (Or.inr (Or.inr (Or.inr (Or.inr (Or.inr ⟨by omega, by omega⟩))))))), ht⟩) (fun q h => by cases h) dX8_count_95
end
