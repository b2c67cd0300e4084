def M_X6_readOperand (l : Launch) (b : Nat) (p0 : Int32) : Prop := ∀ (D : va_G) (E : Nat → Nat) (th : Nat) (ta : Nat → Nat) (tsize : Int32) (trule : Nat) (twords : Nat) (tat : Int32) (tword : Int32) (twordAt : Int32) (tvalue : Int32) (tf0 : Nat → Int32) (ua : Nat → Nat) (usize : Int32) (uf0 : Nat → Int32) (uf1 : Nat → Int32) (sv : Nat) (sn : Nat) (sf : Nat → Int32) (sz : Nat) (hi_t : (0 ≤ tsize.toInt ∧ tsize.toInt ≤ 120)) (hi_u : (0 ≤ usize.toInt ∧ usize.toInt ≤ 120)) (hsn : sn < 2147483647) (g0 : 0 ≤ tat.toInt ∧ tat.toInt ≤ tsize.toInt ∧ 0 ≤ twordAt.toInt ∧ twordAt.toInt ≤ tat.toInt) (g1 : sn ≤ 900), Met l yX6_readOperand (wl yX6_readOperand cX6_readOperand 4 (some .boolean)) (RM (b + 1) 0 0) (muS_P D E [.ref th, .int p0] [(th, .inr (6, G6 ta tsize trule twords tat tword twordAt tvalue)), ((ta 0), .inl (E 0, 120, .inl tf0)), (trule, .inr (4, G4 ua usize)), ((ua 0), .inl (E 0, 120, .inl uf0)), ((ua 1), .inl (E 0, 120, .inl uf1))] sz [(twords, sv, sn, sf)]) (va_Qi (fun (r : Int32) (u : (Int32) × (Int32) × (Int32) × (Int32) × (Nat → Int32) × (Nat → Int32) × (Int32)) => (0 ≤ u.2.2.2.2.2.2.toInt ∧ u.2.2.2.2.2.2.toInt ≤ 120) ∧ (0 ≤ u.1.toInt ∧ u.1.toInt ≤ tsize.toInt ∧ 0 ≤ u.2.2.2.1.toInt ∧ u.2.2.2.1.toInt ≤ u.1.toInt) ∧ ((0 ≤ r.toInt ∧ r.toInt ≤ 1) ∧ RKP sn sf tf0 (tsize).toNatClampNeg 7 7 p0.toInt 0 tat twordAt tword tvalue usize uf0 uf1 u.1 u.2.2.2.1 u.2.2.1 u.2.1 u.2.2.2.2.2.2 u.2.2.2.2.1 u.2.2.2.2.2.1 r)) (mu_B D (va_A [(th, .inr (6, G6 ta tsize trule twords tat tword twordAt tvalue)), ((ta 0), .inl (E 0, 120, .inl tf0)), (trule, .inr (4, G4 ua usize)), ((ua 0), .inl (E 0, 120, .inl uf0)), ((ua 1), .inl (E 0, 120, .inl uf1))] sz) (fun (u : (Int32) × (Int32) × (Int32) × (Int32) × (Nat → Int32) × (Nat → Int32) × (Int32)) => [(th, .inr (6, G6 ta tsize trule twords u.1 u.2.2.1 u.2.2.2.1 u.2.1)), ((ta 0), .inl (E 0, 120, .inl tf0)), (trule, .inr (4, G4 ua u.2.2.2.2.2.2)), ((ua 0), .inl (E 0, 120, .inl u.2.2.2.2.1)), ((ua 1), .inl (E 0, 120, .inl u.2.2.2.2.2.1))])) (va_A [(th, .inr (6, G6 ta tsize trule twords tat tword twordAt tvalue)), ((ta 0), .inl (E 0, 120, .inl tf0)), (trule, .inr (4, G4 ua usize)), ((ua 0), .inl (E 0, 120, .inl uf0)), ((ua 1), .inl (E 0, 120, .inl uf1))] sz)) 0 0 (va_A [(th, .inr (6, G6 ta tsize trule twords tat tword twordAt tvalue)), ((ta 0), .inl (E 0, 120, .inl tf0)), (trule, .inr (4, G4 ua usize)), ((ua 0), .inl (E 0, 120, .inl uf0)), ((ua 1), .inl (E 0, 120, .inl uf1))] sz)
def M_X6_readProduct (l : Launch) (b : Nat) (p0 : Int32) : Prop := ∀ (D : va_G) (E : Nat → Nat) (th : Nat) (ta : Nat → Nat) (tsize : Int32) (trule : Nat) (twords : Nat) (tat : Int32) (tword : Int32) (twordAt : Int32) (tvalue : Int32) (tf0 : Nat → Int32) (ua : Nat → Nat) (usize : Int32) (uf0 : Nat → Int32) (uf1 : Nat → Int32) (sv : Nat) (sn : Nat) (sf : Nat → Int32) (sz : Nat) (hi_t : (0 ≤ tsize.toInt ∧ tsize.toInt ≤ 120)) (hi_u : (0 ≤ usize.toInt ∧ usize.toInt ≤ 120)) (hsn : sn < 2147483647) (g0 : 0 ≤ tat.toInt ∧ tat.toInt ≤ tsize.toInt ∧ 0 ≤ twordAt.toInt ∧ twordAt.toInt ≤ tat.toInt) (g1 : sn ≤ 900), Met l yX6_readProduct (wl yX6_readProduct cX6_readProduct 5 (some .boolean)) (RM (b + 2) 0 0) (muS_P D E [.ref th, .int p0] [(th, .inr (6, G6 ta tsize trule twords tat tword twordAt tvalue)), ((ta 0), .inl (E 0, 120, .inl tf0)), (trule, .inr (4, G4 ua usize)), ((ua 0), .inl (E 0, 120, .inl uf0)), ((ua 1), .inl (E 0, 120, .inl uf1))] sz [(twords, sv, sn, sf)]) (va_Qi (fun (r : Int32) (u : (Int32) × (Int32) × (Int32) × (Int32) × (Nat → Int32) × (Nat → Int32) × (Int32)) => (0 ≤ u.2.2.2.2.2.2.toInt ∧ u.2.2.2.2.2.2.toInt ≤ 120) ∧ (0 ≤ u.1.toInt ∧ u.1.toInt ≤ tsize.toInt ∧ 0 ≤ u.2.2.2.1.toInt ∧ u.2.2.2.1.toInt ≤ u.1.toInt) ∧ ((0 ≤ r.toInt ∧ r.toInt ≤ 1) ∧ RKP sn sf tf0 (tsize).toNatClampNeg 6 6 p0.toInt 0 tat twordAt tword tvalue usize uf0 uf1 u.1 u.2.2.2.1 u.2.2.1 u.2.1 u.2.2.2.2.2.2 u.2.2.2.2.1 u.2.2.2.2.2.1 r)) (mu_B D (va_A [(th, .inr (6, G6 ta tsize trule twords tat tword twordAt tvalue)), ((ta 0), .inl (E 0, 120, .inl tf0)), (trule, .inr (4, G4 ua usize)), ((ua 0), .inl (E 0, 120, .inl uf0)), ((ua 1), .inl (E 0, 120, .inl uf1))] sz) (fun (u : (Int32) × (Int32) × (Int32) × (Int32) × (Nat → Int32) × (Nat → Int32) × (Int32)) => [(th, .inr (6, G6 ta tsize trule twords u.1 u.2.2.1 u.2.2.2.1 u.2.1)), ((ta 0), .inl (E 0, 120, .inl tf0)), (trule, .inr (4, G4 ua u.2.2.2.2.2.2)), ((ua 0), .inl (E 0, 120, .inl u.2.2.2.2.1)), ((ua 1), .inl (E 0, 120, .inl u.2.2.2.2.2.1))])) (va_A [(th, .inr (6, G6 ta tsize trule twords tat tword twordAt tvalue)), ((ta 0), .inl (E 0, 120, .inl tf0)), (trule, .inr (4, G4 ua usize)), ((ua 0), .inl (E 0, 120, .inl uf0)), ((ua 1), .inl (E 0, 120, .inl uf1))] sz)) 0 0 (va_A [(th, .inr (6, G6 ta tsize trule twords tat tword twordAt tvalue)), ((ta 0), .inl (E 0, 120, .inl tf0)), (trule, .inr (4, G4 ua usize)), ((ua 0), .inl (E 0, 120, .inl uf0)), ((ua 1), .inl (E 0, 120, .inl uf1))] sz)
def M_X6_readSum (l : Launch) (b : Nat) (p0 : Int32) : Prop := ∀ (D : va_G) (E : Nat → Nat) (th : Nat) (ta : Nat → Nat) (tsize : Int32) (trule : Nat) (twords : Nat) (tat : Int32) (tword : Int32) (twordAt : Int32) (tvalue : Int32) (tf0 : Nat → Int32) (ua : Nat → Nat) (usize : Int32) (uf0 : Nat → Int32) (uf1 : Nat → Int32) (sv : Nat) (sn : Nat) (sf : Nat → Int32) (sz : Nat) (hi_t : (0 ≤ tsize.toInt ∧ tsize.toInt ≤ 120)) (hi_u : (0 ≤ usize.toInt ∧ usize.toInt ≤ 120)) (hsn : sn < 2147483647) (g0 : 0 ≤ tat.toInt ∧ tat.toInt ≤ tsize.toInt ∧ 0 ≤ twordAt.toInt ∧ twordAt.toInt ≤ tat.toInt) (g1 : sn ≤ 900), Met l yX6_readSum (wl yX6_readSum cX6_readSum 5 (some .boolean)) (RM (b + 3) 0 0) (muS_P D E [.ref th, .int p0] [(th, .inr (6, G6 ta tsize trule twords tat tword twordAt tvalue)), ((ta 0), .inl (E 0, 120, .inl tf0)), (trule, .inr (4, G4 ua usize)), ((ua 0), .inl (E 0, 120, .inl uf0)), ((ua 1), .inl (E 0, 120, .inl uf1))] sz [(twords, sv, sn, sf)]) (va_Qi (fun (r : Int32) (u : (Int32) × (Int32) × (Int32) × (Int32) × (Nat → Int32) × (Nat → Int32) × (Int32)) => (0 ≤ u.2.2.2.2.2.2.toInt ∧ u.2.2.2.2.2.2.toInt ≤ 120) ∧ (0 ≤ u.1.toInt ∧ u.1.toInt ≤ tsize.toInt ∧ 0 ≤ u.2.2.2.1.toInt ∧ u.2.2.2.1.toInt ≤ u.1.toInt) ∧ ((0 ≤ r.toInt ∧ r.toInt ≤ 1) ∧ RKP sn sf tf0 (tsize).toNatClampNeg 5 5 p0.toInt 0 tat twordAt tword tvalue usize uf0 uf1 u.1 u.2.2.2.1 u.2.2.1 u.2.1 u.2.2.2.2.2.2 u.2.2.2.2.1 u.2.2.2.2.2.1 r)) (mu_B D (va_A [(th, .inr (6, G6 ta tsize trule twords tat tword twordAt tvalue)), ((ta 0), .inl (E 0, 120, .inl tf0)), (trule, .inr (4, G4 ua usize)), ((ua 0), .inl (E 0, 120, .inl uf0)), ((ua 1), .inl (E 0, 120, .inl uf1))] sz) (fun (u : (Int32) × (Int32) × (Int32) × (Int32) × (Nat → Int32) × (Nat → Int32) × (Int32)) => [(th, .inr (6, G6 ta tsize trule twords u.1 u.2.2.1 u.2.2.2.1 u.2.1)), ((ta 0), .inl (E 0, 120, .inl tf0)), (trule, .inr (4, G4 ua u.2.2.2.2.2.2)), ((ua 0), .inl (E 0, 120, .inl u.2.2.2.2.1)), ((ua 1), .inl (E 0, 120, .inl u.2.2.2.2.2.1))])) (va_A [(th, .inr (6, G6 ta tsize trule twords tat tword twordAt tvalue)), ((ta 0), .inl (E 0, 120, .inl tf0)), (trule, .inr (4, G4 ua usize)), ((ua 0), .inl (E 0, 120, .inl uf0)), ((ua 1), .inl (E 0, 120, .inl uf1))] sz)) 0 0 (va_A [(th, .inr (6, G6 ta tsize trule twords tat tword twordAt tvalue)), ((ta 0), .inl (E 0, 120, .inl tf0)), (trule, .inr (4, G4 ua usize)), ((ua 0), .inl (E 0, 120, .inl uf0)), ((ua 1), .inl (E 0, 120, .inl uf1))] sz)
def M_X6_readComparison (l : Launch) (b : Nat) (p0 : Int32) : Prop := ∀ (D : va_G) (E : Nat → Nat) (th : Nat) (ta : Nat → Nat) (tsize : Int32) (trule : Nat) (twords : Nat) (tat : Int32) (tword : Int32) (twordAt : Int32) (tvalue : Int32) (tf0 : Nat → Int32) (ua : Nat → Nat) (usize : Int32) (uf0 : Nat → Int32) (uf1 : Nat → Int32) (sv : Nat) (sn : Nat) (sf : Nat → Int32) (sz : Nat) (hi_t : (0 ≤ tsize.toInt ∧ tsize.toInt ≤ 120)) (hi_u : (0 ≤ usize.toInt ∧ usize.toInt ≤ 120)) (hsn : sn < 2147483647) (g0 : 0 ≤ tat.toInt ∧ tat.toInt ≤ tsize.toInt ∧ 0 ≤ twordAt.toInt ∧ twordAt.toInt ≤ tat.toInt) (g1 : sn ≤ 900), Met l yX6_readComparison (wl yX6_readComparison cX6_readComparison 4 (some .boolean)) (RM (b + 4) 0 0) (muS_P D E [.ref th, .int p0] [(th, .inr (6, G6 ta tsize trule twords tat tword twordAt tvalue)), ((ta 0), .inl (E 0, 120, .inl tf0)), (trule, .inr (4, G4 ua usize)), ((ua 0), .inl (E 0, 120, .inl uf0)), ((ua 1), .inl (E 0, 120, .inl uf1))] sz [(twords, sv, sn, sf)]) (va_Qi (fun (r : Int32) (u : (Int32) × (Int32) × (Int32) × (Int32) × (Nat → Int32) × (Nat → Int32) × (Int32)) => (0 ≤ u.2.2.2.2.2.2.toInt ∧ u.2.2.2.2.2.2.toInt ≤ 120) ∧ (0 ≤ u.1.toInt ∧ u.1.toInt ≤ tsize.toInt ∧ 0 ≤ u.2.2.2.1.toInt ∧ u.2.2.2.1.toInt ≤ u.1.toInt) ∧ ((0 ≤ r.toInt ∧ r.toInt ≤ 1) ∧ RKP sn sf tf0 (tsize).toNatClampNeg 4 4 p0.toInt 0 tat twordAt tword tvalue usize uf0 uf1 u.1 u.2.2.2.1 u.2.2.1 u.2.1 u.2.2.2.2.2.2 u.2.2.2.2.1 u.2.2.2.2.2.1 r)) (mu_B D (va_A [(th, .inr (6, G6 ta tsize trule twords tat tword twordAt tvalue)), ((ta 0), .inl (E 0, 120, .inl tf0)), (trule, .inr (4, G4 ua usize)), ((ua 0), .inl (E 0, 120, .inl uf0)), ((ua 1), .inl (E 0, 120, .inl uf1))] sz) (fun (u : (Int32) × (Int32) × (Int32) × (Int32) × (Nat → Int32) × (Nat → Int32) × (Int32)) => [(th, .inr (6, G6 ta tsize trule twords u.1 u.2.2.1 u.2.2.2.1 u.2.1)), ((ta 0), .inl (E 0, 120, .inl tf0)), (trule, .inr (4, G4 ua u.2.2.2.2.2.2)), ((ua 0), .inl (E 0, 120, .inl u.2.2.2.2.1)), ((ua 1), .inl (E 0, 120, .inl u.2.2.2.2.2.1))])) (va_A [(th, .inr (6, G6 ta tsize trule twords tat tword twordAt tvalue)), ((ta 0), .inl (E 0, 120, .inl tf0)), (trule, .inr (4, G4 ua usize)), ((ua 0), .inl (E 0, 120, .inl uf0)), ((ua 1), .inl (E 0, 120, .inl uf1))] sz)) 0 0 (va_A [(th, .inr (6, G6 ta tsize trule twords tat tword twordAt tvalue)), ((ta 0), .inl (E 0, 120, .inl tf0)), (trule, .inr (4, G4 ua usize)), ((ua 0), .inl (E 0, 120, .inl uf0)), ((ua 1), .inl (E 0, 120, .inl uf1))] sz)
def M_X6_readNegation (l : Launch) (b : Nat) (p0 : Int32) : Prop := ∀ (D : va_G) (E : Nat → Nat) (th : Nat) (ta : Nat → Nat) (tsize : Int32) (trule : Nat) (twords : Nat) (tat : Int32) (tword : Int32) (twordAt : Int32) (tvalue : Int32) (tf0 : Nat → Int32) (ua : Nat → Nat) (usize : Int32) (uf0 : Nat → Int32) (uf1 : Nat → Int32) (sv : Nat) (sn : Nat) (sf : Nat → Int32) (sz : Nat) (hi_t : (0 ≤ tsize.toInt ∧ tsize.toInt ≤ 120)) (hi_u : (0 ≤ usize.toInt ∧ usize.toInt ≤ 120)) (hsn : sn < 2147483647) (g0 : 0 ≤ tat.toInt ∧ tat.toInt ≤ tsize.toInt ∧ 0 ≤ twordAt.toInt ∧ twordAt.toInt ≤ tat.toInt) (g1 : sn ≤ 900), Met l yX6_readNegation (wl yX6_readNegation cX6_readNegation 3 (some .boolean)) (RM (b + 5) 0 0) (muS_P D E [.ref th, .int p0] [(th, .inr (6, G6 ta tsize trule twords tat tword twordAt tvalue)), ((ta 0), .inl (E 0, 120, .inl tf0)), (trule, .inr (4, G4 ua usize)), ((ua 0), .inl (E 0, 120, .inl uf0)), ((ua 1), .inl (E 0, 120, .inl uf1))] sz [(twords, sv, sn, sf)]) (va_Qi (fun (r : Int32) (u : (Int32) × (Int32) × (Int32) × (Int32) × (Nat → Int32) × (Nat → Int32) × (Int32)) => (0 ≤ u.2.2.2.2.2.2.toInt ∧ u.2.2.2.2.2.2.toInt ≤ 120) ∧ (0 ≤ u.1.toInt ∧ u.1.toInt ≤ tsize.toInt ∧ 0 ≤ u.2.2.2.1.toInt ∧ u.2.2.2.1.toInt ≤ u.1.toInt) ∧ ((0 ≤ r.toInt ∧ r.toInt ≤ 1) ∧ RKP sn sf tf0 (tsize).toNatClampNeg 3 3 p0.toInt 0 tat twordAt tword tvalue usize uf0 uf1 u.1 u.2.2.2.1 u.2.2.1 u.2.1 u.2.2.2.2.2.2 u.2.2.2.2.1 u.2.2.2.2.2.1 r)) (mu_B D (va_A [(th, .inr (6, G6 ta tsize trule twords tat tword twordAt tvalue)), ((ta 0), .inl (E 0, 120, .inl tf0)), (trule, .inr (4, G4 ua usize)), ((ua 0), .inl (E 0, 120, .inl uf0)), ((ua 1), .inl (E 0, 120, .inl uf1))] sz) (fun (u : (Int32) × (Int32) × (Int32) × (Int32) × (Nat → Int32) × (Nat → Int32) × (Int32)) => [(th, .inr (6, G6 ta tsize trule twords u.1 u.2.2.1 u.2.2.2.1 u.2.1)), ((ta 0), .inl (E 0, 120, .inl tf0)), (trule, .inr (4, G4 ua u.2.2.2.2.2.2)), ((ua 0), .inl (E 0, 120, .inl u.2.2.2.2.1)), ((ua 1), .inl (E 0, 120, .inl u.2.2.2.2.2.1))])) (va_A [(th, .inr (6, G6 ta tsize trule twords tat tword twordAt tvalue)), ((ta 0), .inl (E 0, 120, .inl tf0)), (trule, .inr (4, G4 ua usize)), ((ua 0), .inl (E 0, 120, .inl uf0)), ((ua 1), .inl (E 0, 120, .inl uf1))] sz)) 0 0 (va_A [(th, .inr (6, G6 ta tsize trule twords tat tword twordAt tvalue)), ((ta 0), .inl (E 0, 120, .inl tf0)), (trule, .inr (4, G4 ua usize)), ((ua 0), .inl (E 0, 120, .inl uf0)), ((ua 1), .inl (E 0, 120, .inl uf1))] sz)
def M_X6_readBoth (l : Launch) (b : Nat) (p0 : Int32) : Prop := ∀ (D : va_G) (E : Nat → Nat) (th : Nat) (ta : Nat → Nat) (tsize : Int32) (trule : Nat) (twords : Nat) (tat : Int32) (tword : Int32) (twordAt : Int32) (tvalue : Int32) (tf0 : Nat → Int32) (ua : Nat → Nat) (usize : Int32) (uf0 : Nat → Int32) (uf1 : Nat → Int32) (sv : Nat) (sn : Nat) (sf : Nat → Int32) (sz : Nat) (hi_t : (0 ≤ tsize.toInt ∧ tsize.toInt ≤ 120)) (hi_u : (0 ≤ usize.toInt ∧ usize.toInt ≤ 120)) (hsn : sn < 2147483647) (g0 : 0 ≤ tat.toInt ∧ tat.toInt ≤ tsize.toInt ∧ 0 ≤ twordAt.toInt ∧ twordAt.toInt ≤ tat.toInt) (g1 : sn ≤ 900), Met l yX6_readBoth (wl yX6_readBoth cX6_readBoth 4 (some .boolean)) (RM (b + 6) 0 0) (muS_P D E [.ref th, .int p0] [(th, .inr (6, G6 ta tsize trule twords tat tword twordAt tvalue)), ((ta 0), .inl (E 0, 120, .inl tf0)), (trule, .inr (4, G4 ua usize)), ((ua 0), .inl (E 0, 120, .inl uf0)), ((ua 1), .inl (E 0, 120, .inl uf1))] sz [(twords, sv, sn, sf)]) (va_Qi (fun (r : Int32) (u : (Int32) × (Int32) × (Int32) × (Int32) × (Nat → Int32) × (Nat → Int32) × (Int32)) => (0 ≤ u.2.2.2.2.2.2.toInt ∧ u.2.2.2.2.2.2.toInt ≤ 120) ∧ (0 ≤ u.1.toInt ∧ u.1.toInt ≤ tsize.toInt ∧ 0 ≤ u.2.2.2.1.toInt ∧ u.2.2.2.1.toInt ≤ u.1.toInt) ∧ ((0 ≤ r.toInt ∧ r.toInt ≤ 1) ∧ RKP sn sf tf0 (tsize).toNatClampNeg 2 2 p0.toInt 0 tat twordAt tword tvalue usize uf0 uf1 u.1 u.2.2.2.1 u.2.2.1 u.2.1 u.2.2.2.2.2.2 u.2.2.2.2.1 u.2.2.2.2.2.1 r)) (mu_B D (va_A [(th, .inr (6, G6 ta tsize trule twords tat tword twordAt tvalue)), ((ta 0), .inl (E 0, 120, .inl tf0)), (trule, .inr (4, G4 ua usize)), ((ua 0), .inl (E 0, 120, .inl uf0)), ((ua 1), .inl (E 0, 120, .inl uf1))] sz) (fun (u : (Int32) × (Int32) × (Int32) × (Int32) × (Nat → Int32) × (Nat → Int32) × (Int32)) => [(th, .inr (6, G6 ta tsize trule twords u.1 u.2.2.1 u.2.2.2.1 u.2.1)), ((ta 0), .inl (E 0, 120, .inl tf0)), (trule, .inr (4, G4 ua u.2.2.2.2.2.2)), ((ua 0), .inl (E 0, 120, .inl u.2.2.2.2.1)), ((ua 1), .inl (E 0, 120, .inl u.2.2.2.2.2.1))])) (va_A [(th, .inr (6, G6 ta tsize trule twords tat tword twordAt tvalue)), ((ta 0), .inl (E 0, 120, .inl tf0)), (trule, .inr (4, G4 ua usize)), ((ua 0), .inl (E 0, 120, .inl uf0)), ((ua 1), .inl (E 0, 120, .inl uf1))] sz)) 0 0 (va_A [(th, .inr (6, G6 ta tsize trule twords tat tword twordAt tvalue)), ((ta 0), .inl (E 0, 120, .inl tf0)), (trule, .inr (4, G4 ua usize)), ((ua 0), .inl (E 0, 120, .inl uf0)), ((ua 1), .inl (E 0, 120, .inl uf1))] sz)
def M_X6_readEither (l : Launch) (b : Nat) (p0 : Int32) : Prop := ∀ (D : va_G) (E : Nat → Nat) (th : Nat) (ta : Nat → Nat) (tsize : Int32) (trule : Nat) (twords : Nat) (tat : Int32) (tword : Int32) (twordAt : Int32) (tvalue : Int32) (tf0 : Nat → Int32) (ua : Nat → Nat) (usize : Int32) (uf0 : Nat → Int32) (uf1 : Nat → Int32) (sv : Nat) (sn : Nat) (sf : Nat → Int32) (sz : Nat) (hi_t : (0 ≤ tsize.toInt ∧ tsize.toInt ≤ 120)) (hi_u : (0 ≤ usize.toInt ∧ usize.toInt ≤ 120)) (hsn : sn < 2147483647) (g0 : 0 ≤ tat.toInt ∧ tat.toInt ≤ tsize.toInt ∧ 0 ≤ twordAt.toInt ∧ twordAt.toInt ≤ tat.toInt) (g1 : sn ≤ 900), Met l yX6_readEither (wl yX6_readEither cX6_readEither 4 (some .boolean)) (RM (b + 7) 0 0) (muS_P D E [.ref th, .int p0] [(th, .inr (6, G6 ta tsize trule twords tat tword twordAt tvalue)), ((ta 0), .inl (E 0, 120, .inl tf0)), (trule, .inr (4, G4 ua usize)), ((ua 0), .inl (E 0, 120, .inl uf0)), ((ua 1), .inl (E 0, 120, .inl uf1))] sz [(twords, sv, sn, sf)]) (va_Qi (fun (r : Int32) (u : (Int32) × (Int32) × (Int32) × (Int32) × (Nat → Int32) × (Nat → Int32) × (Int32)) => (0 ≤ u.2.2.2.2.2.2.toInt ∧ u.2.2.2.2.2.2.toInt ≤ 120) ∧ (0 ≤ u.1.toInt ∧ u.1.toInt ≤ tsize.toInt ∧ 0 ≤ u.2.2.2.1.toInt ∧ u.2.2.2.1.toInt ≤ u.1.toInt) ∧ ((0 ≤ r.toInt ∧ r.toInt ≤ 1) ∧ RKP sn sf tf0 (tsize).toNatClampNeg 1 1 p0.toInt 0 tat twordAt tword tvalue usize uf0 uf1 u.1 u.2.2.2.1 u.2.2.1 u.2.1 u.2.2.2.2.2.2 u.2.2.2.2.1 u.2.2.2.2.2.1 r)) (mu_B D (va_A [(th, .inr (6, G6 ta tsize trule twords tat tword twordAt tvalue)), ((ta 0), .inl (E 0, 120, .inl tf0)), (trule, .inr (4, G4 ua usize)), ((ua 0), .inl (E 0, 120, .inl uf0)), ((ua 1), .inl (E 0, 120, .inl uf1))] sz) (fun (u : (Int32) × (Int32) × (Int32) × (Int32) × (Nat → Int32) × (Nat → Int32) × (Int32)) => [(th, .inr (6, G6 ta tsize trule twords u.1 u.2.2.1 u.2.2.2.1 u.2.1)), ((ta 0), .inl (E 0, 120, .inl tf0)), (trule, .inr (4, G4 ua u.2.2.2.2.2.2)), ((ua 0), .inl (E 0, 120, .inl u.2.2.2.2.1)), ((ua 1), .inl (E 0, 120, .inl u.2.2.2.2.2.1))])) (va_A [(th, .inr (6, G6 ta tsize trule twords tat tword twordAt tvalue)), ((ta 0), .inl (E 0, 120, .inl tf0)), (trule, .inr (4, G4 ua usize)), ((ua 0), .inl (E 0, 120, .inl uf0)), ((ua 1), .inl (E 0, 120, .inl uf1))] sz)) 0 0 (va_A [(th, .inr (6, G6 ta tsize trule twords tat tword twordAt tvalue)), ((ta 0), .inl (E 0, 120, .inl tf0)), (trule, .inr (4, G4 ua usize)), ((ua 0), .inl (E 0, 120, .inl uf0)), ((ua 1), .inl (E 0, 120, .inl uf1))] sz)
def M_X6_readInBrackets (l : Launch) (b : Nat) (p0 : Int32) : Prop := ∀ (D : va_G) (E : Nat → Nat) (th : Nat) (ta : Nat → Nat) (tsize : Int32) (trule : Nat) (twords : Nat) (tat : Int32) (tword : Int32) (twordAt : Int32) (tvalue : Int32) (tf0 : Nat → Int32) (ua : Nat → Nat) (usize : Int32) (uf0 : Nat → Int32) (uf1 : Nat → Int32) (sv : Nat) (sn : Nat) (sf : Nat → Int32) (sz : Nat) (hi_t : (0 ≤ tsize.toInt ∧ tsize.toInt ≤ 120)) (hi_u : (0 ≤ usize.toInt ∧ usize.toInt ≤ 120)) (hsn : sn < 2147483647) (g0 : 0 ≤ tat.toInt ∧ tat.toInt ≤ tsize.toInt ∧ 0 ≤ twordAt.toInt ∧ twordAt.toInt ≤ tat.toInt) (g1 : sn ≤ 900), Met l yX6_readInBrackets (wl yX6_readInBrackets cX6_readInBrackets 2 (some .boolean)) (RM (b + 8) 0 0) (muS_P D E [.ref th, .int p0] [(th, .inr (6, G6 ta tsize trule twords tat tword twordAt tvalue)), ((ta 0), .inl (E 0, 120, .inl tf0)), (trule, .inr (4, G4 ua usize)), ((ua 0), .inl (E 0, 120, .inl uf0)), ((ua 1), .inl (E 0, 120, .inl uf1))] sz [(twords, sv, sn, sf)]) (va_Qi (fun (r : Int32) (u : (Int32) × (Int32) × (Int32) × (Int32) × (Nat → Int32) × (Nat → Int32) × (Int32)) => (0 ≤ u.2.2.2.2.2.2.toInt ∧ u.2.2.2.2.2.2.toInt ≤ 120) ∧ (0 ≤ u.1.toInt ∧ u.1.toInt ≤ tsize.toInt ∧ 0 ≤ u.2.2.2.1.toInt ∧ u.2.2.2.1.toInt ≤ u.1.toInt) ∧ ((0 ≤ r.toInt ∧ r.toInt ≤ 1) ∧ RKB sn sf tf0 (tsize).toNatClampNeg p0.toInt tat twordAt tword tvalue usize uf0 uf1 u.1 u.2.2.2.1 u.2.2.1 u.2.1 u.2.2.2.2.2.2 u.2.2.2.2.1 u.2.2.2.2.2.1 r)) (mu_B D (va_A [(th, .inr (6, G6 ta tsize trule twords tat tword twordAt tvalue)), ((ta 0), .inl (E 0, 120, .inl tf0)), (trule, .inr (4, G4 ua usize)), ((ua 0), .inl (E 0, 120, .inl uf0)), ((ua 1), .inl (E 0, 120, .inl uf1))] sz) (fun (u : (Int32) × (Int32) × (Int32) × (Int32) × (Nat → Int32) × (Nat → Int32) × (Int32)) => [(th, .inr (6, G6 ta tsize trule twords u.1 u.2.2.1 u.2.2.2.1 u.2.1)), ((ta 0), .inl (E 0, 120, .inl tf0)), (trule, .inr (4, G4 ua u.2.2.2.2.2.2)), ((ua 0), .inl (E 0, 120, .inl u.2.2.2.2.1)), ((ua 1), .inl (E 0, 120, .inl u.2.2.2.2.2.1))])) (va_A [(th, .inr (6, G6 ta tsize trule twords tat tword twordAt tvalue)), ((ta 0), .inl (E 0, 120, .inl tf0)), (trule, .inr (4, G4 ua usize)), ((ua 0), .inl (E 0, 120, .inl uf0)), ((ua 1), .inl (E 0, 120, .inl uf1))] sz)) 0 0 (va_A [(th, .inr (6, G6 ta tsize trule twords tat tword twordAt tvalue)), ((ta 0), .inl (E 0, 120, .inl tf0)), (trule, .inr (4, G4 ua usize)), ((ua 0), .inl (E 0, 120, .inl uf0)), ((ua 1), .inl (E 0, 120, .inl uf1))] sz)
set_option maxHeartbeats 4000000 in
set_option maxRecDepth 100000 in
theorem g_X6_readOperand (l : Launch) (b : Nat) (p0 : Int32) (hb8 : 8 ≤ b) (h15 : 0 ≤ p0.toInt ∧ p0.toInt ≤ 15) (hO : p0.toInt < 15 → ∀ q : Int32, q.toInt = p0.toInt + 1 → M_X6_readOperand l b q) (hB : p0.toInt < 15 → ∀ q : Int32, q.toInt = p0.toInt + 1 → M_X6_readInBrackets l b q) : M_X6_readOperand l (b + 8) p0 := by
  intro D E th ta tsize trule twords tat tword twordAt tvalue tf0 ua usize uf0 uf1 sv sn sf sz hi_t hi_u hsn g0 g1
  refine Met.ofW (cc := cX6_readOperand) (maxL := 4) (ret := (some .boolean)) (by decide) rfl ?_
  intro p e s m args below meth c s₁ B hml hv
  obtain ⟨rfl, hsz, hP, hK, hD0, hG⟩ := hv
  have hx := B.exec; have hb := B.bytes; have hr := B.returns
  have hts := atoms_spec (ws := wl yX6_readOperand cX6_readOperand 4 (some .boolean)) B.pre
  have htb : ∀ w ∈ tb, w.before _ s = true := fun w h => hts w (List.mem_cons_of_mem _ h)
  have hown : s.vm.findClass RX6 = some m.cls := findClass_of_methodNamed B.named
  have hlocks := B.notSynchronized
  subst hsz
  have hD := hD0.self (sz := s.heap.size)
  generalize hAe : va_A [(th, .inr (6, G6 ta tsize trule twords tat tword twordAt tvalue)), ((ta 0), .inl (E 0, 120, .inl tf0)), (trule, .inr (4, G4 ua usize)), ((ua 0), .inl (E 0, 120, .inl uf0)), ((ua 1), .inl (E 0, 120, .inl uf1))] s.heap.size = A at hD hG ⊢
  have hA : ∀ q : Nat, s.heap.size ≤ q → A q := fun q h => by rw [← hAe]; exact Or.inr h
  have hS : va_S A s.heap s.heap [] := va_S.rf
  have hP : va_P D vwCl [(th, .inr (6, G6 ta tsize trule twords tat tword twordAt tvalue)), ((ta 0), .inl (E 0, 120, .inl tf0)), (trule, .inr (4, G4 ua usize)), ((ua 0), .inl (E 0, 120, .inl uf0)), ((ua 1), .inl (E 0, 120, .inl uf1))] s.heap := hP
  have hl := lv_entry ([.ref th, .int p0]) (n := 4) (Nat.le_of_ble_eq_true rfl)
  rw [lg_entry_eq]
  generalize (lg_sl ([.ref th, .int p0]) ++ List.replicate (4 - (lg_sl ([.ref th, .int p0])).length) Slot.unset).toArray = ls at hl ⊢
  have hl : lv_has ls 4 [(0, .ref th), (1, .int p0)] := hl
  have lo_p0 := i_lo p0; have hi_p0 := i_hi p0
  refine lv_aload_n hx hb dX6_readOperand_0 rfl (lv_at hl 0 rfl) ?_
  refine va_get (D := D) (ci := 6) (v := .int tword) (C := RX6) (T := TX6) (N := 8) hx hb htb iX6 hown hK.1 hP 0 rfl rfl 5 (by decide) (htb _ k_163) (fun _ h9 => h9) rfl dX6_readOperand_1 ?_
  refine lv_iconst (v := 2) hx hb dX6_readOperand_4 (by decide) ?_
  refine lv_icmp_eq (tgt := 16) hx hb dX6_readOperand_5 (by decide) (fun c_1 => ?_) (fun c_1 => ?_)
  ·
    have ic_1 : tword.toInt = 2 := (g_eq rfl t_2).mp c_1
    clear c_1
    refine lv_aload_n hx hb dX6_readOperand_16 rfl (lv_at hl 0 rfl) ?_
    refine va_get (D := D) (ci := 6) (v := .ref trule) (C := RX6) (T := TX6) (N := 8) hx hb htb iX6 hown hK.1 hP 0 rfl rfl 2 (by decide) (htb _ k_160) (fun _ h9 => h9) rfl dX6_readOperand_17 ?_
    refine lv_aload_n hx hb dX6_readOperand_20 rfl (lv_at hl 0 rfl) ?_
    refine va_get (D := D) (ci := 6) (v := .int tword) (C := RX6) (T := TX6) (N := 8) hx hb htb iX6 hown hK.1 hP 0 rfl rfl 5 (by decide) (htb _ k_163) (fun _ h9 => h9) rfl dX6_readOperand_21 ?_
    refine lv_aload_n hx hb dX6_readOperand_24 rfl (lv_at hl 0 rfl) ?_
    refine va_get (D := D) (ci := 6) (v := .int tvalue) (C := RX6) (T := TX6) (N := 8) hx hb htb iX6 hown hK.1 hP 0 rfl rfl 7 (by decide) (htb _ k_165) (fun _ h9 => h9) rfl dX6_readOperand_25 ?_
    have hPc := hP.sub (ws' := [(trule, .inr (4, G4 ua usize)), ((ua 0), .inl (E 0, 120, .inl uf0)), ((ua 1), .inl (E 0, 120, .inl uf1))]) [2, 3, 4] rfl
    have hDc := hD.sub (ws' := [(trule, .inr (4, G4 ua usize)), ((ua 0), .inl (E 0, 120, .inl uf0)), ((ua 1), .inl (E 0, 120, .inl uf1))]) [2, 3, 4] (by decide) rfl
    refine aft_v (runMV (rest := []) (As := [.int tword, .int tvalue]) hx hb hml hown htb hK (g_X4_add l D E trule ua usize uf0 uf1 tword tvalue _ (by (try dsimp only); omega)) ok_X4_add k_696 k_697 k_698 k_6 k_699 ⟨show 0 + 1 ≤ b + 8 + 1 from by omega, show 8 + (3 + 11) + 40 * (0) ≤ 40 * (b + 8 + 1) from by omega⟩ ⟨(Nat.le_of_ble_eq_true rfl), (Nat.le_of_ble_eq_true rfl)⟩ hl.1 (Nat.le_of_ble_eq_true rfl) rfl rfl dX6_readOperand_28 hPc hDc rfl rfl 0 rfl) hP hD hS hA [2, 3, 4] [0, 1] (wr := [(th, .inr (6, G6 ta tsize trule twords tat tword twordAt tvalue)), ((ta 0), .inl (E 0, 120, .inl tf0))]) rfl rfl (by decide) (by decide) (fun u_4 H locs hw_3 hP hD hS => ?_)
    clear hPc hDc
    obtain ⟨w_5, w_6, w_7⟩ := u_4
    try dsimp only at hw_3
    have hP : va_P D vwCl [(th, .inr (6, G6 ta tsize trule twords tat tword twordAt tvalue)), ((ta 0), .inl (E 0, 120, .inl tf0)), (trule, .inr (4, G4 ua w_7)), ((ua 0), .inl (E 0, 120, .inl w_5)), ((ua 1), .inl (E 0, 120, .inl w_6))] H := hP
    have hD := toW hP hD rfl
    obtain ⟨hw_3_0, hw_3_1⟩ := hw_3
    refine lv_aload_n hx hb dX6_readOperand_31 rfl (lv_at hl 0 rfl) ?_
    have hPc := hP.sub (ws' := [(th, .inr (6, G6 ta tsize trule twords tat tword twordAt tvalue)), ((ta 0), .inl (E 0, 120, .inl tf0))]) [0, 1] rfl
    have hDc := hD.sub (ws' := [(th, .inr (6, G6 ta tsize trule twords tat tword twordAt tvalue)), ((ta 0), .inl (E 0, 120, .inl tf0))]) [0, 1] (by decide) rfl
    refine aft_v (runMG (rest := []) (As := []) hx hb hml hown htb (g_X6_goOn l D E th ta tsize trule twords tat tword twordAt tvalue tf0 sv sn sf _ (by (try dsimp only); omega) hsn (by (try dsimp only); omega) g1) ok_X6_goOn k_591 k_593 ks_11 k_5 k_594 ⟨show 7 + 1 ≤ b + 8 + 1 from by omega, show 8 + (1 + 11) + 40 * (7) ≤ 40 * (b + 8 + 1) from by omega⟩ ⟨(Nat.le_of_ble_eq_true rfl), (Nat.le_of_ble_eq_true rfl)⟩ hl.1 (Nat.le_of_ble_eq_true rfl) rfl rfl dX6_readOperand_32 (pmVS hPc hDc hK rfl rfl 0 rfl hG hS (va_free hD hS hA [0, 1] rfl))) hP hD hS hA [0, 1] [2, 3, 4] (wr := [(trule, .inr (4, G4 ua w_7)), ((ua 0), .inl (E 0, 120, .inl w_5)), ((ua 1), .inl (E 0, 120, .inl w_6))]) rfl rfl (by decide) (by decide) (fun u_10 H locs hw_9 hP hD hS => ?_)
    clear hPc hDc
    obtain ⟨w_11, w_12, w_13, w_14⟩ := u_10
    try dsimp only at hw_9
    have hP : va_P D vwCl [(trule, .inr (4, G4 ua w_7)), ((ua 0), .inl (E 0, 120, .inl w_5)), ((ua 1), .inl (E 0, 120, .inl w_6)), (th, .inr (6, G6 ta tsize trule twords w_11 w_13 w_14 w_12)), ((ta 0), .inl (E 0, 120, .inl tf0))] H := hP
    have hD := toW hP hD rfl
    obtain ⟨hw_9_0, hw_9_1⟩ := hw_9
    refine lv_iconst (v := 1) hx hb dX6_readOperand_35 (by decide) ?_
    have hP9 := hP.sub (ws' := [(th, .inr (6, G6 ta tsize trule twords w_11 w_13 w_14 w_12)), ((ta 0), .inl (E 0, 120, .inl tf0)), (trule, .inr (4, G4 ua w_7)), ((ua 0), .inl (E 0, 120, .inl w_5)), ((ua 1), .inl (E 0, 120, .inl w_6))]) [3, 4, 0, 1, 2] rfl
    have hD9 := hD.sub (ws' := [(th, .inr (6, G6 ta tsize trule twords w_11 w_13 w_14 w_12)), ((ta 0), .inl (E 0, 120, .inl tf0)), (trule, .inr (4, G4 ua w_7)), ((ua 0), .inl (E 0, 120, .inl w_5)), ((ua 1), .inl (E 0, 120, .inl w_6))]) [3, 4, 0, 1, 2] (by decide) rfl
    exact W.zret (v := 1) hx hb hr rfl (fun t ht hW => ⟨⟨1, (w_11, w_12, w_13, w_14, w_5, w_6, w_7), rfl, ⟨(by (try dsimp only); omega), (by (try dsimp only); omega), (by have hl := t_1; have hl4 := t_4; have hl5 := t_5; have hl6 := t_6; have hl7 := t_7; have hl8 := t_8; have hl40 := t_40; have hl41 := t_41; have hl42 := t_42; have hl43 := t_43; have hl45 := t_45; have hl47 := t_47; have hl60 := t_60; have hl61 := t_61; have hl62 := t_62; (try dsimp only); exact ⟨by omega, RO_val (by omega) hw_3_1 hw_9_1 (by omega) (by have c0 := i_clamp0 (x := tsize) (by omega); omega) (by omega)⟩)⟩, by rw [ht]; exact hP9, hD9⟩, hS.F ht⟩) hS.2.2 dX6_readOperand_36
  ·
    have ic_1 : tword.toInt ≠ 2 := mt (g_eq rfl t_2).mpr c_1
    clear c_1
    refine lv_aload_n hx hb dX6_readOperand_8 rfl (lv_at hl 0 rfl) ?_
    refine va_get (D := D) (ci := 6) (v := .int tword) (C := RX6) (T := TX6) (N := 8) hx hb htb iX6 hown hK.1 hP 0 rfl rfl 5 (by decide) (htb _ k_163) (fun _ h9 => h9) rfl dX6_readOperand_9 ?_
    refine lv_iconst (v := 3) hx hb dX6_readOperand_12 (by decide) ?_
    refine lv_icmp_ne (tgt := 37) hx hb dX6_readOperand_13 (by decide) (fun c_15 => ?_) (fun c_15 => ?_)
    ·
      have ic_15 : tword.toInt ≠ 3 := mt (g_eq rfl t_3).mpr c_15
      clear c_15
      refine lv_aload_n hx hb dX6_readOperand_37 rfl (lv_at hl 0 rfl) ?_
      refine va_get (D := D) (ci := 6) (v := .int tword) (C := RX6) (T := TX6) (N := 8) hx hb htb iX6 hown hK.1 hP 0 rfl rfl 5 (by decide) (htb _ k_163) (fun _ h9 => h9) rfl dX6_readOperand_38 ?_
      refine lv_bipush (v := 40) hx hb dX6_readOperand_41 (by decide) ?_
      refine lv_icmp_eq (tgt := 64) hx hb dX6_readOperand_43 (by decide) (fun c_16 => ?_) (fun c_16 => ?_)
      ·
        have ic_16 : tword.toInt = 40 := (g_eq rfl t_40).mp c_16
        clear c_16
        refine lv_iload_n hx hb dX6_readOperand_64 rfl (lv_at hl 1 rfl) ?_
        refine lv_bipush (v := 15) hx hb dX6_readOperand_65 (by decide) ?_
        refine lv_icmp_lt (tgt := 72) hx hb dX6_readOperand_67 (by decide) (fun c_17 => ?_) (fun c_17 => ?_)
        ·
          have ic_17 : p0.toInt < 15 := by first | exact (g_lt rfl t_15).mp c_17 | (have h := mt (g_le t_15 rfl).mpr c_17; omega)
          clear c_17
          refine lv_aload_n hx hb dX6_readOperand_72 rfl (lv_at hl 0 rfl) ?_
          refine va_get (D := D) (ci := 6) (v := .int tword) (C := RX6) (T := TX6) (N := 8) hx hb htb iX6 hown hK.1 hP 0 rfl rfl 5 (by decide) (htb _ k_163) (fun _ h9 => h9) rfl dX6_readOperand_73 ?_
          refine lv_istore_n (lv' := [(2, .int tword), (0, .ref th), (1, .int p0)]) hx hb dX6_readOperand_76 rfl hl (by decide) rfl (fun ls hl => ?_)
          refine lv_aload_n hx hb dX6_readOperand_77 rfl (lv_at hl 1 rfl) ?_
          have hPc := hP.sub (ws' := [(th, .inr (6, G6 ta tsize trule twords tat tword twordAt tvalue)), ((ta 0), .inl (E 0, 120, .inl tf0))]) [0, 1] rfl
          have hDc := hD.sub (ws' := [(th, .inr (6, G6 ta tsize trule twords tat tword twordAt tvalue)), ((ta 0), .inl (E 0, 120, .inl tf0))]) [0, 1] (by decide) rfl
          refine aft_v (runMG (rest := []) (As := []) hx hb hml hown htb (g_X6_goOn l D E th ta tsize trule twords tat tword twordAt tvalue tf0 sv sn sf _ (by (try dsimp only); omega) hsn (by (try dsimp only); omega) g1) ok_X6_goOn k_591 k_593 ks_11 k_5 k_594 ⟨show 7 + 1 ≤ b + 8 + 1 from by omega, show 8 + (1 + 11) + 40 * (7) ≤ 40 * (b + 8 + 1) from by omega⟩ ⟨(Nat.le_of_ble_eq_true rfl), (Nat.le_of_ble_eq_true rfl)⟩ hl.1 (Nat.le_of_ble_eq_true rfl) rfl rfl dX6_readOperand_78 (pmVS hPc hDc hK rfl rfl 0 rfl hG hS (va_free hD hS hA [0, 1] rfl))) hP hD hS hA [0, 1] [2, 3, 4] (wr := [(trule, .inr (4, G4 ua usize)), ((ua 0), .inl (E 0, 120, .inl uf0)), ((ua 1), .inl (E 0, 120, .inl uf1))]) rfl rfl (by decide) (by decide) (fun u_20 H locs hw_19 hP hD hS => ?_)
          clear hPc hDc
          obtain ⟨w_21, w_22, w_23, w_24⟩ := u_20
          try dsimp only at hw_19
          have hP : va_P D vwCl [(trule, .inr (4, G4 ua usize)), ((ua 0), .inl (E 0, 120, .inl uf0)), ((ua 1), .inl (E 0, 120, .inl uf1)), (th, .inr (6, G6 ta tsize trule twords w_21 w_23 w_24 w_22)), ((ta 0), .inl (E 0, 120, .inl tf0))] H := hP
          have hD := toW hP hD rfl
          obtain ⟨hw_19_0, hw_19_1⟩ := hw_19
          refine lv_iload_n hx hb dX6_readOperand_81 rfl (lv_at hl 0 rfl) ?_
          refine lv_bipush (v := 40) hx hb dX6_readOperand_82 (by decide) ?_
          refine lv_icmp_ne (tgt := 95) hx hb dX6_readOperand_84 (by decide) (fun c_25 => absurd (by rw [g_eq rfl t_40]; omega) c_25) (fun c_25 => ?_)
          refine lv_aload_n hx hb dX6_readOperand_87 rfl (lv_at hl 1 rfl) ?_
          refine lv_iload_n hx hb dX6_readOperand_88 rfl (lv_at hl 2 rfl) ?_
          refine lv_iconst (v := 1) hx hb dX6_readOperand_89 (by decide) ?_
          refine lv_iadd hx hb dX6_readOperand_90 ?_
          refine lv_topi (fun z_26 ez_26 => ?_)
          have jz_26 : z_26.toInt = p0.toInt + 1 := by rw [ez_26]; exact g_add rfl t_1 (by omega) (by omega)
          have hPc := hP.sub (ws' := [(th, .inr (6, G6 ta tsize trule twords w_21 w_23 w_24 w_22)), ((ta 0), .inl (E 0, 120, .inl tf0)), (trule, .inr (4, G4 ua usize)), ((ua 0), .inl (E 0, 120, .inl uf0)), ((ua 1), .inl (E 0, 120, .inl uf1))]) [3, 4, 0, 1, 2] rfl
          have hDc := hD.sub (ws' := [(th, .inr (6, G6 ta tsize trule twords w_21 w_23 w_24 w_22)), ((ta 0), .inl (E 0, 120, .inl tf0)), (trule, .inr (4, G4 ua usize)), ((ua 0), .inl (E 0, 120, .inl uf0)), ((ua 1), .inl (E 0, 120, .inl uf1))]) [3, 4, 0, 1, 2] (by decide) rfl
          refine aft_i (runMG (rest := []) (As := [.int z_26]) hx hb hml hown htb ((hB (by omega) z_26 (by omega)) D E th ta tsize trule twords w_21 w_23 w_24 w_22 tf0 ua usize uf0 uf1 sv sn sf _ (by (try dsimp only); omega) (by (try dsimp only); omega) hsn (by (try dsimp only); omega) g1) ok_X6_readInBrackets k_700 k_702 ks_23 k_5 k_703 ⟨show b + 8 + 1 ≤ b + 8 + 1 from by omega, show 8 + (2 + 11) + 40 * (b + 8) ≤ 40 * (b + 8 + 1) from by omega⟩ ⟨(Nat.le_of_ble_eq_true rfl), (Nat.le_of_ble_eq_true rfl)⟩ hl.1 (Nat.le_of_ble_eq_true rfl) rfl rfl dX6_readOperand_91 (pmVS hPc hDc hK rfl rfl 0 rfl hG hS (va_free hD hS hA [3, 4, 0, 1, 2] rfl))) hP hD hS hA [3, 4, 0, 1, 2] [] (wr := ([] : va_W)) rfl rfl (by decide) (by decide) (fun r_27 u_29 H locs hw_28 hP hD hS => ?_)
          clear hPc hDc
          obtain ⟨w_30, w_31, w_32, w_33, w_34, w_35, w_36⟩ := u_29
          try dsimp only at hw_28
          have hP : va_P D vwCl [(th, .inr (6, G6 ta tsize trule twords w_30 w_32 w_33 w_31)), ((ta 0), .inl (E 0, 120, .inl tf0)), (trule, .inr (4, G4 ua w_36)), ((ua 0), .inl (E 0, 120, .inl w_34)), ((ua 1), .inl (E 0, 120, .inl w_35))] H := hP
          have hD := toW hP hD rfl
          obtain ⟨hw_28_0, hw_28_1, hw_28_2⟩ := hw_28
          obtain ⟨hw_28_2r, hw_28_2k⟩ := hw_28_2
          have hP9 := hP.sub (ws' := [(th, .inr (6, G6 ta tsize trule twords w_30 w_32 w_33 w_31)), ((ta 0), .inl (E 0, 120, .inl tf0)), (trule, .inr (4, G4 ua w_36)), ((ua 0), .inl (E 0, 120, .inl w_34)), ((ua 1), .inl (E 0, 120, .inl w_35))]) [0, 1, 2, 3, 4] rfl
          have hD9 := hD.sub (ws' := [(th, .inr (6, G6 ta tsize trule twords w_30 w_32 w_33 w_31)), ((ta 0), .inl (E 0, 120, .inl tf0)), (trule, .inr (4, G4 ua w_36)), ((ua 0), .inl (E 0, 120, .inl w_34)), ((ua 1), .inl (E 0, 120, .inl w_35))]) [0, 1, 2, 3, 4] (by decide) rfl
          exact W.zret (v := r_27) hx hb hr (nar_z (by omega) (by omega)) (fun t ht hW => ⟨⟨r_27, (w_30, w_31, w_32, w_33, w_34, w_35, w_36), rfl, ⟨(by (try dsimp only); omega), (by (try dsimp only); omega), (by have hl4 := t_4; have hl5 := t_5; have hl6 := t_6; have hl7 := t_7; have hl8 := t_8; have hl40 := t_40; have hl41 := t_41; have hl42 := t_42; have hl43 := t_43; have hl45 := t_45; have hl47 := t_47; have hl60 := t_60; have hl61 := t_61; have hl62 := t_62; (try dsimp only); exact ⟨by omega, RO_br (by omega) (by omega) hw_19_1 (RKB_o hw_28_2k (by omega))⟩)⟩, by rw [ht]; exact hP9, hD9⟩, hS.F ht⟩) hS.2.2 dX6_readOperand_94
        ·
          have ic_17 : 15 ≤ p0.toInt := by first | exact (g_le t_15 rfl).mp c_17 | (have h := mt (g_lt rfl t_15).mpr c_17; omega)
          clear c_17
          refine lv_iconst (v := 0) hx hb dX6_readOperand_70 (by decide) ?_
          have hP9 := hP.sub (ws' := [(th, .inr (6, G6 ta tsize trule twords tat tword twordAt tvalue)), ((ta 0), .inl (E 0, 120, .inl tf0)), (trule, .inr (4, G4 ua usize)), ((ua 0), .inl (E 0, 120, .inl uf0)), ((ua 1), .inl (E 0, 120, .inl uf1))]) [0, 1, 2, 3, 4] rfl
          have hD9 := hD.sub (ws' := [(th, .inr (6, G6 ta tsize trule twords tat tword twordAt tvalue)), ((ta 0), .inl (E 0, 120, .inl tf0)), (trule, .inr (4, G4 ua usize)), ((ua 0), .inl (E 0, 120, .inl uf0)), ((ua 1), .inl (E 0, 120, .inl uf1))]) [0, 1, 2, 3, 4] (by decide) rfl
          exact W.zret (v := 0) hx hb hr rfl (fun t ht hW => ⟨⟨0, (tat, tvalue, tword, twordAt, uf0, uf1, usize), rfl, ⟨(by (try dsimp only); omega), (by (try dsimp only); omega), (by have hl := t_0; have hl4 := t_4; have hl5 := t_5; have hl6 := t_6; have hl7 := t_7; have hl8 := t_8; have hl40 := t_40; have hl41 := t_41; have hl42 := t_42; have hl43 := t_43; have hl45 := t_45; have hl47 := t_47; have hl60 := t_60; have hl61 := t_61; have hl62 := t_62; (try dsimp only); exact ⟨by omega, (by first | exact RO_no (by omega) (by omega) | exact RO_deep (by omega) (by omega) (by omega))⟩)⟩, by rw [ht]; exact hP9, hD9⟩, hS.F ht⟩) hS.2.2 dX6_readOperand_71
      ·
        have ic_16 : tword.toInt ≠ 40 := mt (g_eq rfl t_40).mpr c_16
        clear c_16
        refine lv_aload_n hx hb dX6_readOperand_46 rfl (lv_at hl 0 rfl) ?_
        refine va_get (D := D) (ci := 6) (v := .int tword) (C := RX6) (T := TX6) (N := 8) hx hb htb iX6 hown hK.1 hP 0 rfl rfl 5 (by decide) (htb _ k_163) (fun _ h9 => h9) rfl dX6_readOperand_47 ?_
        refine lv_bipush (v := 7) hx hb dX6_readOperand_50 (by decide) ?_
        refine lv_icmp_eq (tgt := 64) hx hb dX6_readOperand_52 (by decide) (fun c_37 => ?_) (fun c_37 => ?_)
        ·
          have ic_37 : tword.toInt = 7 := (g_eq rfl t_7).mp c_37
          clear c_37
          refine lv_iload_n hx hb dX6_readOperand_64 rfl (lv_at hl 1 rfl) ?_
          refine lv_bipush (v := 15) hx hb dX6_readOperand_65 (by decide) ?_
          refine lv_icmp_lt (tgt := 72) hx hb dX6_readOperand_67 (by decide) (fun c_38 => ?_) (fun c_38 => ?_)
          ·
            have ic_38 : p0.toInt < 15 := by first | exact (g_lt rfl t_15).mp c_38 | (have h := mt (g_le t_15 rfl).mpr c_38; omega)
            clear c_38
            refine lv_aload_n hx hb dX6_readOperand_72 rfl (lv_at hl 0 rfl) ?_
            refine va_get (D := D) (ci := 6) (v := .int tword) (C := RX6) (T := TX6) (N := 8) hx hb htb iX6 hown hK.1 hP 0 rfl rfl 5 (by decide) (htb _ k_163) (fun _ h9 => h9) rfl dX6_readOperand_73 ?_
            refine lv_istore_n (lv' := [(2, .int tword), (0, .ref th), (1, .int p0)]) hx hb dX6_readOperand_76 rfl hl (by decide) rfl (fun ls hl => ?_)
            refine lv_aload_n hx hb dX6_readOperand_77 rfl (lv_at hl 1 rfl) ?_
            have hPc := hP.sub (ws' := [(th, .inr (6, G6 ta tsize trule twords tat tword twordAt tvalue)), ((ta 0), .inl (E 0, 120, .inl tf0))]) [0, 1] rfl
            have hDc := hD.sub (ws' := [(th, .inr (6, G6 ta tsize trule twords tat tword twordAt tvalue)), ((ta 0), .inl (E 0, 120, .inl tf0))]) [0, 1] (by decide) rfl
            refine aft_v (runMG (rest := []) (As := []) hx hb hml hown htb (g_X6_goOn l D E th ta tsize trule twords tat tword twordAt tvalue tf0 sv sn sf _ (by (try dsimp only); omega) hsn (by (try dsimp only); omega) g1) ok_X6_goOn k_591 k_593 ks_11 k_5 k_594 ⟨show 7 + 1 ≤ b + 8 + 1 from by omega, show 8 + (1 + 11) + 40 * (7) ≤ 40 * (b + 8 + 1) from by omega⟩ ⟨(Nat.le_of_ble_eq_true rfl), (Nat.le_of_ble_eq_true rfl)⟩ hl.1 (Nat.le_of_ble_eq_true rfl) rfl rfl dX6_readOperand_78 (pmVS hPc hDc hK rfl rfl 0 rfl hG hS (va_free hD hS hA [0, 1] rfl))) hP hD hS hA [0, 1] [2, 3, 4] (wr := [(trule, .inr (4, G4 ua usize)), ((ua 0), .inl (E 0, 120, .inl uf0)), ((ua 1), .inl (E 0, 120, .inl uf1))]) rfl rfl (by decide) (by decide) (fun u_41 H locs hw_40 hP hD hS => ?_)
            clear hPc hDc
            obtain ⟨w_42, w_43, w_44, w_45⟩ := u_41
            try dsimp only at hw_40
            have hP : va_P D vwCl [(trule, .inr (4, G4 ua usize)), ((ua 0), .inl (E 0, 120, .inl uf0)), ((ua 1), .inl (E 0, 120, .inl uf1)), (th, .inr (6, G6 ta tsize trule twords w_42 w_44 w_45 w_43)), ((ta 0), .inl (E 0, 120, .inl tf0))] H := hP
            have hD := toW hP hD rfl
            obtain ⟨hw_40_0, hw_40_1⟩ := hw_40
            refine lv_iload_n hx hb dX6_readOperand_81 rfl (lv_at hl 0 rfl) ?_
            refine lv_bipush (v := 40) hx hb dX6_readOperand_82 (by decide) ?_
            refine lv_icmp_ne (tgt := 95) hx hb dX6_readOperand_84 (by decide) (fun c_46 => ?_) (fun c_46 => absurd c_46 (by rw [g_eq rfl t_40]; omega))
            refine lv_aload_n hx hb dX6_readOperand_95 rfl (lv_at hl 1 rfl) ?_
            refine lv_iload_n hx hb dX6_readOperand_96 rfl (lv_at hl 2 rfl) ?_
            refine lv_iconst (v := 1) hx hb dX6_readOperand_97 (by decide) ?_
            refine lv_iadd hx hb dX6_readOperand_98 ?_
            refine lv_topi (fun z_47 ez_47 => ?_)
            have jz_47 : z_47.toInt = p0.toInt + 1 := by rw [ez_47]; exact g_add rfl t_1 (by omega) (by omega)
            have hPc := hP.sub (ws' := [(th, .inr (6, G6 ta tsize trule twords w_42 w_44 w_45 w_43)), ((ta 0), .inl (E 0, 120, .inl tf0)), (trule, .inr (4, G4 ua usize)), ((ua 0), .inl (E 0, 120, .inl uf0)), ((ua 1), .inl (E 0, 120, .inl uf1))]) [3, 4, 0, 1, 2] rfl
            have hDc := hD.sub (ws' := [(th, .inr (6, G6 ta tsize trule twords w_42 w_44 w_45 w_43)), ((ta 0), .inl (E 0, 120, .inl tf0)), (trule, .inr (4, G4 ua usize)), ((ua 0), .inl (E 0, 120, .inl uf0)), ((ua 1), .inl (E 0, 120, .inl uf1))]) [3, 4, 0, 1, 2] (by decide) rfl
            refine aft_i (runMG (rest := []) (As := [.int z_47]) hx hb hml hown htb ((hO (by omega) z_47 (by omega)) D E th ta tsize trule twords w_42 w_44 w_45 w_43 tf0 ua usize uf0 uf1 sv sn sf _ (by (try dsimp only); omega) (by (try dsimp only); omega) hsn (by (try dsimp only); omega) g1) ok_X6_readOperand k_692 k_694 ks_22 k_5 k_695 ⟨show b + 1 + 1 ≤ b + 8 + 1 from by omega, show 8 + (4 + 11) + 40 * (b + 1) ≤ 40 * (b + 8 + 1) from by omega⟩ ⟨(Nat.le_of_ble_eq_true rfl), (Nat.le_of_ble_eq_true rfl)⟩ hl.1 (Nat.le_of_ble_eq_true rfl) rfl rfl dX6_readOperand_99 (pmVS hPc hDc hK rfl rfl 0 rfl hG hS (va_free hD hS hA [3, 4, 0, 1, 2] rfl))) hP hD hS hA [3, 4, 0, 1, 2] [] (wr := ([] : va_W)) rfl rfl (by decide) (by decide) (fun r_48 u_50 H locs hw_49 hP hD hS => ?_)
            clear hPc hDc
            obtain ⟨w_51, w_52, w_53, w_54, w_55, w_56, w_57⟩ := u_50
            try dsimp only at hw_49
            have hP : va_P D vwCl [(th, .inr (6, G6 ta tsize trule twords w_51 w_53 w_54 w_52)), ((ta 0), .inl (E 0, 120, .inl tf0)), (trule, .inr (4, G4 ua w_57)), ((ua 0), .inl (E 0, 120, .inl w_55)), ((ua 1), .inl (E 0, 120, .inl w_56))] H := hP
            have hD := toW hP hD rfl
            obtain ⟨hw_49_0, hw_49_1, hw_49_2⟩ := hw_49
            obtain ⟨hw_49_2r, hw_49_2k⟩ := hw_49_2
            refine lv_istore_n (lv' := [(3, .int r_48), (2, .int tword), (0, .ref th), (1, .int p0)]) hx hb dX6_readOperand_102 rfl hl (by decide) rfl (fun ls hl => ?_)
            refine lv_aload_n hx hb dX6_readOperand_103 rfl (lv_at hl 2 rfl) ?_
            refine va_get (D := D) (ci := 6) (v := .ref trule) (C := RX6) (T := TX6) (N := 8) hx hb htb iX6 hown hK.1 hP 0 rfl rfl 2 (by decide) (htb _ k_160) (fun _ h9 => h9) rfl dX6_readOperand_104 ?_
            refine lv_iload_n hx hb dX6_readOperand_107 rfl (lv_at hl 1 rfl) ?_
            refine lv_bipush (v := 45) hx hb dX6_readOperand_108 (by decide) ?_
            refine lv_icmp_ne (tgt := 118) hx hb dX6_readOperand_110 (by decide) (fun c_58 => ?_) (fun c_58 => absurd c_58 (by rw [g_eq rfl t_45]; omega))
            refine lv_bipush (v := 7) hx hb dX6_readOperand_118 (by decide) ?_
            refine lv_iconst (v := 0) hx hb dX6_readOperand_120 (by decide) ?_
            have hPc := hP.sub (ws' := [(trule, .inr (4, G4 ua w_57)), ((ua 0), .inl (E 0, 120, .inl w_55)), ((ua 1), .inl (E 0, 120, .inl w_56))]) [2, 3, 4] rfl
            have hDc := hD.sub (ws' := [(trule, .inr (4, G4 ua w_57)), ((ua 0), .inl (E 0, 120, .inl w_55)), ((ua 1), .inl (E 0, 120, .inl w_56))]) [2, 3, 4] (by decide) rfl
            refine aft_v (runMV (rest := []) (As := [.int 7, .int 0]) hx hb hml hown htb hK (g_X4_add l D E trule ua w_57 w_55 w_56 7 0 _ (by (try dsimp only); omega)) ok_X4_add k_696 k_697 k_698 k_6 k_699 ⟨show 0 + 1 ≤ b + 8 + 1 from by omega, show 8 + (3 + 11) + 40 * (0) ≤ 40 * (b + 8 + 1) from by omega⟩ ⟨(Nat.le_of_ble_eq_true rfl), (Nat.le_of_ble_eq_true rfl)⟩ hl.1 (Nat.le_of_ble_eq_true rfl) rfl rfl dX6_readOperand_121 hPc hDc rfl rfl 0 rfl) hP hD hS hA [2, 3, 4] [0, 1] (wr := [(th, .inr (6, G6 ta tsize trule twords w_51 w_53 w_54 w_52)), ((ta 0), .inl (E 0, 120, .inl tf0))]) rfl rfl (by decide) (by decide) (fun u_61 H locs hw_60 hP hD hS => ?_)
            clear hPc hDc
            obtain ⟨w_62, w_63, w_64⟩ := u_61
            try dsimp only at hw_60
            have hP : va_P D vwCl [(th, .inr (6, G6 ta tsize trule twords w_51 w_53 w_54 w_52)), ((ta 0), .inl (E 0, 120, .inl tf0)), (trule, .inr (4, G4 ua w_64)), ((ua 0), .inl (E 0, 120, .inl w_62)), ((ua 1), .inl (E 0, 120, .inl w_63))] H := hP
            have hD := toW hP hD rfl
            obtain ⟨hw_60_0, hw_60_1⟩ := hw_60
            try simp only [t_0, t_7] at hw_60_0
            try simp only [t_0, t_7] at hw_60_1
            refine lv_iload_n hx hb dX6_readOperand_124 rfl (lv_at hl 0 rfl) ?_
            have hP9 := hP.sub (ws' := [(th, .inr (6, G6 ta tsize trule twords w_51 w_53 w_54 w_52)), ((ta 0), .inl (E 0, 120, .inl tf0)), (trule, .inr (4, G4 ua w_64)), ((ua 0), .inl (E 0, 120, .inl w_62)), ((ua 1), .inl (E 0, 120, .inl w_63))]) [0, 1, 2, 3, 4] rfl
            have hD9 := hD.sub (ws' := [(th, .inr (6, G6 ta tsize trule twords w_51 w_53 w_54 w_52)), ((ta 0), .inl (E 0, 120, .inl tf0)), (trule, .inr (4, G4 ua w_64)), ((ua 0), .inl (E 0, 120, .inl w_62)), ((ua 1), .inl (E 0, 120, .inl w_63))]) [0, 1, 2, 3, 4] (by decide) rfl
            exact W.zret (v := r_48) hx hb hr (nar_z (by omega) (by omega)) (fun t ht hW => ⟨⟨r_48, (w_51, w_52, w_53, w_54, w_62, w_63, w_64), rfl, ⟨(by (try dsimp only); omega), (by (try dsimp only); omega), (by have hl4 := t_4; have hl5 := t_5; have hl6 := t_6; have hl7 := t_7; have hl8 := t_8; have hl40 := t_40; have hl41 := t_41; have hl42 := t_42; have hl43 := t_43; have hl45 := t_45; have hl47 := t_47; have hl60 := t_60; have hl61 := t_61; have hl62 := t_62; (try dsimp only); exact ⟨by omega, RO_sgn (by omega) (by omega) hw_40_1 (RKP_o hw_49_2k (by omega)) hw_60_1 (by omega) (by omega) (by have c0 := i_clamp0 (x := tsize) (by omega); omega)⟩)⟩, by rw [ht]; exact hP9, hD9⟩, hS.F ht⟩) hS.2.2 dX6_readOperand_125
          ·
            have ic_38 : 15 ≤ p0.toInt := by first | exact (g_le t_15 rfl).mp c_38 | (have h := mt (g_lt rfl t_15).mpr c_38; omega)
            clear c_38
            refine lv_iconst (v := 0) hx hb dX6_readOperand_70 (by decide) ?_
            have hP9 := hP.sub (ws' := [(th, .inr (6, G6 ta tsize trule twords tat tword twordAt tvalue)), ((ta 0), .inl (E 0, 120, .inl tf0)), (trule, .inr (4, G4 ua usize)), ((ua 0), .inl (E 0, 120, .inl uf0)), ((ua 1), .inl (E 0, 120, .inl uf1))]) [0, 1, 2, 3, 4] rfl
            have hD9 := hD.sub (ws' := [(th, .inr (6, G6 ta tsize trule twords tat tword twordAt tvalue)), ((ta 0), .inl (E 0, 120, .inl tf0)), (trule, .inr (4, G4 ua usize)), ((ua 0), .inl (E 0, 120, .inl uf0)), ((ua 1), .inl (E 0, 120, .inl uf1))]) [0, 1, 2, 3, 4] (by decide) rfl
            exact W.zret (v := 0) hx hb hr rfl (fun t ht hW => ⟨⟨0, (tat, tvalue, tword, twordAt, uf0, uf1, usize), rfl, ⟨(by (try dsimp only); omega), (by (try dsimp only); omega), (by have hl := t_0; have hl4 := t_4; have hl5 := t_5; have hl6 := t_6; have hl7 := t_7; have hl8 := t_8; have hl40 := t_40; have hl41 := t_41; have hl42 := t_42; have hl43 := t_43; have hl45 := t_45; have hl47 := t_47; have hl60 := t_60; have hl61 := t_61; have hl62 := t_62; (try dsimp only); exact ⟨by omega, (by first | exact RO_no (by omega) (by omega) | exact RO_deep (by omega) (by omega) (by omega))⟩)⟩, by rw [ht]; exact hP9, hD9⟩, hS.F ht⟩) hS.2.2 dX6_readOperand_71
        ·
          have ic_37 : tword.toInt ≠ 7 := mt (g_eq rfl t_7).mpr c_37
          clear c_37
          refine lv_aload_n hx hb dX6_readOperand_55 rfl (lv_at hl 0 rfl) ?_
          refine va_get (D := D) (ci := 6) (v := .int tword) (C := RX6) (T := TX6) (N := 8) hx hb htb iX6 hown hK.1 hP 0 rfl rfl 5 (by decide) (htb _ k_163) (fun _ h9 => h9) rfl dX6_readOperand_56 ?_
          refine lv_bipush (v := 45) hx hb dX6_readOperand_59 (by decide) ?_
          refine lv_icmp_ne (tgt := 70) hx hb dX6_readOperand_61 (by decide) (fun c_65 => ?_) (fun c_65 => ?_)
          ·
            have ic_65 : tword.toInt ≠ 45 := mt (g_eq rfl t_45).mpr c_65
            clear c_65
            refine lv_iconst (v := 0) hx hb dX6_readOperand_70 (by decide) ?_
            have hP9 := hP.sub (ws' := [(th, .inr (6, G6 ta tsize trule twords tat tword twordAt tvalue)), ((ta 0), .inl (E 0, 120, .inl tf0)), (trule, .inr (4, G4 ua usize)), ((ua 0), .inl (E 0, 120, .inl uf0)), ((ua 1), .inl (E 0, 120, .inl uf1))]) [0, 1, 2, 3, 4] rfl
            have hD9 := hD.sub (ws' := [(th, .inr (6, G6 ta tsize trule twords tat tword twordAt tvalue)), ((ta 0), .inl (E 0, 120, .inl tf0)), (trule, .inr (4, G4 ua usize)), ((ua 0), .inl (E 0, 120, .inl uf0)), ((ua 1), .inl (E 0, 120, .inl uf1))]) [0, 1, 2, 3, 4] (by decide) rfl
            exact W.zret (v := 0) hx hb hr rfl (fun t ht hW => ⟨⟨0, (tat, tvalue, tword, twordAt, uf0, uf1, usize), rfl, ⟨(by (try dsimp only); omega), (by (try dsimp only); omega), (by have hl := t_0; have hl4 := t_4; have hl5 := t_5; have hl6 := t_6; have hl7 := t_7; have hl8 := t_8; have hl40 := t_40; have hl41 := t_41; have hl42 := t_42; have hl43 := t_43; have hl45 := t_45; have hl47 := t_47; have hl60 := t_60; have hl61 := t_61; have hl62 := t_62; (try dsimp only); exact ⟨by omega, (by first | exact RO_no (by omega) (by omega) | exact RO_deep (by omega) (by omega) (by omega))⟩)⟩, by rw [ht]; exact hP9, hD9⟩, hS.F ht⟩) hS.2.2 dX6_readOperand_71
          ·
            have ic_65 : tword.toInt = 45 := (g_eq rfl t_45).mp c_65
            clear c_65
            refine lv_iload_n hx hb dX6_readOperand_64 rfl (lv_at hl 1 rfl) ?_
            refine lv_bipush (v := 15) hx hb dX6_readOperand_65 (by decide) ?_
            refine lv_icmp_lt (tgt := 72) hx hb dX6_readOperand_67 (by decide) (fun c_66 => ?_) (fun c_66 => ?_)
            ·
              have ic_66 : p0.toInt < 15 := by first | exact (g_lt rfl t_15).mp c_66 | (have h := mt (g_le t_15 rfl).mpr c_66; omega)
              clear c_66
              refine lv_aload_n hx hb dX6_readOperand_72 rfl (lv_at hl 0 rfl) ?_
              refine va_get (D := D) (ci := 6) (v := .int tword) (C := RX6) (T := TX6) (N := 8) hx hb htb iX6 hown hK.1 hP 0 rfl rfl 5 (by decide) (htb _ k_163) (fun _ h9 => h9) rfl dX6_readOperand_73 ?_
              refine lv_istore_n (lv' := [(2, .int tword), (0, .ref th), (1, .int p0)]) hx hb dX6_readOperand_76 rfl hl (by decide) rfl (fun ls hl => ?_)
              refine lv_aload_n hx hb dX6_readOperand_77 rfl (lv_at hl 1 rfl) ?_
              have hPc := hP.sub (ws' := [(th, .inr (6, G6 ta tsize trule twords tat tword twordAt tvalue)), ((ta 0), .inl (E 0, 120, .inl tf0))]) [0, 1] rfl
              have hDc := hD.sub (ws' := [(th, .inr (6, G6 ta tsize trule twords tat tword twordAt tvalue)), ((ta 0), .inl (E 0, 120, .inl tf0))]) [0, 1] (by decide) rfl
              refine aft_v (runMG (rest := []) (As := []) hx hb hml hown htb (g_X6_goOn l D E th ta tsize trule twords tat tword twordAt tvalue tf0 sv sn sf _ (by (try dsimp only); omega) hsn (by (try dsimp only); omega) g1) ok_X6_goOn k_591 k_593 ks_11 k_5 k_594 ⟨show 7 + 1 ≤ b + 8 + 1 from by omega, show 8 + (1 + 11) + 40 * (7) ≤ 40 * (b + 8 + 1) from by omega⟩ ⟨(Nat.le_of_ble_eq_true rfl), (Nat.le_of_ble_eq_true rfl)⟩ hl.1 (Nat.le_of_ble_eq_true rfl) rfl rfl dX6_readOperand_78 (pmVS hPc hDc hK rfl rfl 0 rfl hG hS (va_free hD hS hA [0, 1] rfl))) hP hD hS hA [0, 1] [2, 3, 4] (wr := [(trule, .inr (4, G4 ua usize)), ((ua 0), .inl (E 0, 120, .inl uf0)), ((ua 1), .inl (E 0, 120, .inl uf1))]) rfl rfl (by decide) (by decide) (fun u_69 H locs hw_68 hP hD hS => ?_)
              clear hPc hDc
              obtain ⟨w_70, w_71, w_72, w_73⟩ := u_69
              try dsimp only at hw_68
              have hP : va_P D vwCl [(trule, .inr (4, G4 ua usize)), ((ua 0), .inl (E 0, 120, .inl uf0)), ((ua 1), .inl (E 0, 120, .inl uf1)), (th, .inr (6, G6 ta tsize trule twords w_70 w_72 w_73 w_71)), ((ta 0), .inl (E 0, 120, .inl tf0))] H := hP
              have hD := toW hP hD rfl
              obtain ⟨hw_68_0, hw_68_1⟩ := hw_68
              refine lv_iload_n hx hb dX6_readOperand_81 rfl (lv_at hl 0 rfl) ?_
              refine lv_bipush (v := 40) hx hb dX6_readOperand_82 (by decide) ?_
              refine lv_icmp_ne (tgt := 95) hx hb dX6_readOperand_84 (by decide) (fun c_74 => ?_) (fun c_74 => absurd c_74 (by rw [g_eq rfl t_40]; omega))
              refine lv_aload_n hx hb dX6_readOperand_95 rfl (lv_at hl 1 rfl) ?_
              refine lv_iload_n hx hb dX6_readOperand_96 rfl (lv_at hl 2 rfl) ?_
              refine lv_iconst (v := 1) hx hb dX6_readOperand_97 (by decide) ?_
              refine lv_iadd hx hb dX6_readOperand_98 ?_
              refine lv_topi (fun z_75 ez_75 => ?_)
              have jz_75 : z_75.toInt = p0.toInt + 1 := by rw [ez_75]; exact g_add rfl t_1 (by omega) (by omega)
              have hPc := hP.sub (ws' := [(th, .inr (6, G6 ta tsize trule twords w_70 w_72 w_73 w_71)), ((ta 0), .inl (E 0, 120, .inl tf0)), (trule, .inr (4, G4 ua usize)), ((ua 0), .inl (E 0, 120, .inl uf0)), ((ua 1), .inl (E 0, 120, .inl uf1))]) [3, 4, 0, 1, 2] rfl
              have hDc := hD.sub (ws' := [(th, .inr (6, G6 ta tsize trule twords w_70 w_72 w_73 w_71)), ((ta 0), .inl (E 0, 120, .inl tf0)), (trule, .inr (4, G4 ua usize)), ((ua 0), .inl (E 0, 120, .inl uf0)), ((ua 1), .inl (E 0, 120, .inl uf1))]) [3, 4, 0, 1, 2] (by decide) rfl
              refine aft_i (runMG (rest := []) (As := [.int z_75]) hx hb hml hown htb ((hO (by omega) z_75 (by omega)) D E th ta tsize trule twords w_70 w_72 w_73 w_71 tf0 ua usize uf0 uf1 sv sn sf _ (by (try dsimp only); omega) (by (try dsimp only); omega) hsn (by (try dsimp only); omega) g1) ok_X6_readOperand k_692 k_694 ks_22 k_5 k_695 ⟨show b + 1 + 1 ≤ b + 8 + 1 from by omega, show 8 + (4 + 11) + 40 * (b + 1) ≤ 40 * (b + 8 + 1) from by omega⟩ ⟨(Nat.le_of_ble_eq_true rfl), (Nat.le_of_ble_eq_true rfl)⟩ hl.1 (Nat.le_of_ble_eq_true rfl) rfl rfl dX6_readOperand_99 (pmVS hPc hDc hK rfl rfl 0 rfl hG hS (va_free hD hS hA [3, 4, 0, 1, 2] rfl))) hP hD hS hA [3, 4, 0, 1, 2] [] (wr := ([] : va_W)) rfl rfl (by decide) (by decide) (fun r_76 u_78 H locs hw_77 hP hD hS => ?_)
              clear hPc hDc
              obtain ⟨w_79, w_80, w_81, w_82, w_83, w_84, w_85⟩ := u_78
              try dsimp only at hw_77
              have hP : va_P D vwCl [(th, .inr (6, G6 ta tsize trule twords w_79 w_81 w_82 w_80)), ((ta 0), .inl (E 0, 120, .inl tf0)), (trule, .inr (4, G4 ua w_85)), ((ua 0), .inl (E 0, 120, .inl w_83)), ((ua 1), .inl (E 0, 120, .inl w_84))] H := hP
              have hD := toW hP hD rfl
              obtain ⟨hw_77_0, hw_77_1, hw_77_2⟩ := hw_77
              obtain ⟨hw_77_2r, hw_77_2k⟩ := hw_77_2
              refine lv_istore_n (lv' := [(3, .int r_76), (2, .int tword), (0, .ref th), (1, .int p0)]) hx hb dX6_readOperand_102 rfl hl (by decide) rfl (fun ls hl => ?_)
              refine lv_aload_n hx hb dX6_readOperand_103 rfl (lv_at hl 2 rfl) ?_
              refine va_get (D := D) (ci := 6) (v := .ref trule) (C := RX6) (T := TX6) (N := 8) hx hb htb iX6 hown hK.1 hP 0 rfl rfl 2 (by decide) (htb _ k_160) (fun _ h9 => h9) rfl dX6_readOperand_104 ?_
              refine lv_iload_n hx hb dX6_readOperand_107 rfl (lv_at hl 1 rfl) ?_
              refine lv_bipush (v := 45) hx hb dX6_readOperand_108 (by decide) ?_
              refine lv_icmp_ne (tgt := 118) hx hb dX6_readOperand_110 (by decide) (fun c_86 => absurd (by rw [g_eq rfl t_45]; omega) c_86) (fun c_86 => ?_)
              refine lv_bipush (v := 8) hx hb dX6_readOperand_113 (by decide) ?_
              refine lv_goto (tgt := 120) hx hb dX6_readOperand_115 (by decide) ?_
              refine lv_iconst (v := 0) hx hb dX6_readOperand_120 (by decide) ?_
              have hPc := hP.sub (ws' := [(trule, .inr (4, G4 ua w_85)), ((ua 0), .inl (E 0, 120, .inl w_83)), ((ua 1), .inl (E 0, 120, .inl w_84))]) [2, 3, 4] rfl
              have hDc := hD.sub (ws' := [(trule, .inr (4, G4 ua w_85)), ((ua 0), .inl (E 0, 120, .inl w_83)), ((ua 1), .inl (E 0, 120, .inl w_84))]) [2, 3, 4] (by decide) rfl
              refine aft_v (runMV (rest := []) (As := [.int 8, .int 0]) hx hb hml hown htb hK (g_X4_add l D E trule ua w_85 w_83 w_84 8 0 _ (by (try dsimp only); omega)) ok_X4_add k_696 k_697 k_698 k_6 k_699 ⟨show 0 + 1 ≤ b + 8 + 1 from by omega, show 8 + (3 + 11) + 40 * (0) ≤ 40 * (b + 8 + 1) from by omega⟩ ⟨(Nat.le_of_ble_eq_true rfl), (Nat.le_of_ble_eq_true rfl)⟩ hl.1 (Nat.le_of_ble_eq_true rfl) rfl rfl dX6_readOperand_121 hPc hDc rfl rfl 0 rfl) hP hD hS hA [2, 3, 4] [0, 1] (wr := [(th, .inr (6, G6 ta tsize trule twords w_79 w_81 w_82 w_80)), ((ta 0), .inl (E 0, 120, .inl tf0))]) rfl rfl (by decide) (by decide) (fun u_89 H locs hw_88 hP hD hS => ?_)
              clear hPc hDc
              obtain ⟨w_90, w_91, w_92⟩ := u_89
              try dsimp only at hw_88
              have hP : va_P D vwCl [(th, .inr (6, G6 ta tsize trule twords w_79 w_81 w_82 w_80)), ((ta 0), .inl (E 0, 120, .inl tf0)), (trule, .inr (4, G4 ua w_92)), ((ua 0), .inl (E 0, 120, .inl w_90)), ((ua 1), .inl (E 0, 120, .inl w_91))] H := hP
              have hD := toW hP hD rfl
              obtain ⟨hw_88_0, hw_88_1⟩ := hw_88
              try simp only [t_0, t_8] at hw_88_0
              try simp only [t_0, t_8] at hw_88_1
              refine lv_iload_n hx hb dX6_readOperand_124 rfl (lv_at hl 0 rfl) ?_
              have hP9 := hP.sub (ws' := [(th, .inr (6, G6 ta tsize trule twords w_79 w_81 w_82 w_80)), ((ta 0), .inl (E 0, 120, .inl tf0)), (trule, .inr (4, G4 ua w_92)), ((ua 0), .inl (E 0, 120, .inl w_90)), ((ua 1), .inl (E 0, 120, .inl w_91))]) [0, 1, 2, 3, 4] rfl
              have hD9 := hD.sub (ws' := [(th, .inr (6, G6 ta tsize trule twords w_79 w_81 w_82 w_80)), ((ta 0), .inl (E 0, 120, .inl tf0)), (trule, .inr (4, G4 ua w_92)), ((ua 0), .inl (E 0, 120, .inl w_90)), ((ua 1), .inl (E 0, 120, .inl w_91))]) [0, 1, 2, 3, 4] (by decide) rfl
              exact W.zret (v := r_76) hx hb hr (nar_z (by omega) (by omega)) (fun t ht hW => ⟨⟨r_76, (w_79, w_80, w_81, w_82, w_90, w_91, w_92), rfl, ⟨(by (try dsimp only); omega), (by (try dsimp only); omega), (by have hl4 := t_4; have hl5 := t_5; have hl6 := t_6; have hl7 := t_7; have hl8 := t_8; have hl40 := t_40; have hl41 := t_41; have hl42 := t_42; have hl43 := t_43; have hl45 := t_45; have hl47 := t_47; have hl60 := t_60; have hl61 := t_61; have hl62 := t_62; (try dsimp only); exact ⟨by omega, RO_sgn (by omega) (by omega) hw_68_1 (RKP_o hw_77_2k (by omega)) hw_88_1 (by omega) (by omega) (by have c0 := i_clamp0 (x := tsize) (by omega); omega)⟩)⟩, by rw [ht]; exact hP9, hD9⟩, hS.F ht⟩) hS.2.2 dX6_readOperand_125
            ·
              have ic_66 : 15 ≤ p0.toInt := by first | exact (g_le t_15 rfl).mp c_66 | (have h := mt (g_lt rfl t_15).mpr c_66; omega)
              clear c_66
              refine lv_iconst (v := 0) hx hb dX6_readOperand_70 (by decide) ?_
              have hP9 := hP.sub (ws' := [(th, .inr (6, G6 ta tsize trule twords tat tword twordAt tvalue)), ((ta 0), .inl (E 0, 120, .inl tf0)), (trule, .inr (4, G4 ua usize)), ((ua 0), .inl (E 0, 120, .inl uf0)), ((ua 1), .inl (E 0, 120, .inl uf1))]) [0, 1, 2, 3, 4] rfl
              have hD9 := hD.sub (ws' := [(th, .inr (6, G6 ta tsize trule twords tat tword twordAt tvalue)), ((ta 0), .inl (E 0, 120, .inl tf0)), (trule, .inr (4, G4 ua usize)), ((ua 0), .inl (E 0, 120, .inl uf0)), ((ua 1), .inl (E 0, 120, .inl uf1))]) [0, 1, 2, 3, 4] (by decide) rfl
              exact W.zret (v := 0) hx hb hr rfl (fun t ht hW => ⟨⟨0, (tat, tvalue, tword, twordAt, uf0, uf1, usize), rfl, ⟨(by (try dsimp only); omega), (by (try dsimp only); omega), (by have hl := t_0; have hl4 := t_4; have hl5 := t_5; have hl6 := t_6; have hl7 := t_7; have hl8 := t_8; have hl40 := t_40; have hl41 := t_41; have hl42 := t_42; have hl43 := t_43; have hl45 := t_45; have hl47 := t_47; have hl60 := t_60; have hl61 := t_61; have hl62 := t_62; (try dsimp only); exact ⟨by omega, (by first | exact RO_no (by omega) (by omega) | exact RO_deep (by omega) (by omega) (by omega))⟩)⟩, by rw [ht]; exact hP9, hD9⟩, hS.F ht⟩) hS.2.2 dX6_readOperand_71
    ·
      have ic_15 : tword.toInt = 3 := (g_eq rfl t_3).mp c_15
      clear c_15
      refine lv_aload_n hx hb dX6_readOperand_16 rfl (lv_at hl 0 rfl) ?_
      refine va_get (D := D) (ci := 6) (v := .ref trule) (C := RX6) (T := TX6) (N := 8) hx hb htb iX6 hown hK.1 hP 0 rfl rfl 2 (by decide) (htb _ k_160) (fun _ h9 => h9) rfl dX6_readOperand_17 ?_
      refine lv_aload_n hx hb dX6_readOperand_20 rfl (lv_at hl 0 rfl) ?_
      refine va_get (D := D) (ci := 6) (v := .int tword) (C := RX6) (T := TX6) (N := 8) hx hb htb iX6 hown hK.1 hP 0 rfl rfl 5 (by decide) (htb _ k_163) (fun _ h9 => h9) rfl dX6_readOperand_21 ?_
      refine lv_aload_n hx hb dX6_readOperand_24 rfl (lv_at hl 0 rfl) ?_
      refine va_get (D := D) (ci := 6) (v := .int tvalue) (C := RX6) (T := TX6) (N := 8) hx hb htb iX6 hown hK.1 hP 0 rfl rfl 7 (by decide) (htb _ k_165) (fun _ h9 => h9) rfl dX6_readOperand_25 ?_
      have hPc := hP.sub (ws' := [(trule, .inr (4, G4 ua usize)), ((ua 0), .inl (E 0, 120, .inl uf0)), ((ua 1), .inl (E 0, 120, .inl uf1))]) [2, 3, 4] rfl
      have hDc := hD.sub (ws' := [(trule, .inr (4, G4 ua usize)), ((ua 0), .inl (E 0, 120, .inl uf0)), ((ua 1), .inl (E 0, 120, .inl uf1))]) [2, 3, 4] (by decide) rfl
      refine aft_v (runMV (rest := []) (As := [.int tword, .int tvalue]) hx hb hml hown htb hK (g_X4_add l D E trule ua usize uf0 uf1 tword tvalue _ (by (try dsimp only); omega)) ok_X4_add k_696 k_697 k_698 k_6 k_699 ⟨show 0 + 1 ≤ b + 8 + 1 from by omega, show 8 + (3 + 11) + 40 * (0) ≤ 40 * (b + 8 + 1) from by omega⟩ ⟨(Nat.le_of_ble_eq_true rfl), (Nat.le_of_ble_eq_true rfl)⟩ hl.1 (Nat.le_of_ble_eq_true rfl) rfl rfl dX6_readOperand_28 hPc hDc rfl rfl 0 rfl) hP hD hS hA [2, 3, 4] [0, 1] (wr := [(th, .inr (6, G6 ta tsize trule twords tat tword twordAt tvalue)), ((ta 0), .inl (E 0, 120, .inl tf0))]) rfl rfl (by decide) (by decide) (fun u_95 H locs hw_94 hP hD hS => ?_)
      clear hPc hDc
      obtain ⟨w_96, w_97, w_98⟩ := u_95
      try dsimp only at hw_94
      have hP : va_P D vwCl [(th, .inr (6, G6 ta tsize trule twords tat tword twordAt tvalue)), ((ta 0), .inl (E 0, 120, .inl tf0)), (trule, .inr (4, G4 ua w_98)), ((ua 0), .inl (E 0, 120, .inl w_96)), ((ua 1), .inl (E 0, 120, .inl w_97))] H := hP
      have hD := toW hP hD rfl
      obtain ⟨hw_94_0, hw_94_1⟩ := hw_94
      refine lv_aload_n hx hb dX6_readOperand_31 rfl (lv_at hl 0 rfl) ?_
      have hPc := hP.sub (ws' := [(th, .inr (6, G6 ta tsize trule twords tat tword twordAt tvalue)), ((ta 0), .inl (E 0, 120, .inl tf0))]) [0, 1] rfl
      have hDc := hD.sub (ws' := [(th, .inr (6, G6 ta tsize trule twords tat tword twordAt tvalue)), ((ta 0), .inl (E 0, 120, .inl tf0))]) [0, 1] (by decide) rfl
      refine aft_v (runMG (rest := []) (As := []) hx hb hml hown htb (g_X6_goOn l D E th ta tsize trule twords tat tword twordAt tvalue tf0 sv sn sf _ (by (try dsimp only); omega) hsn (by (try dsimp only); omega) g1) ok_X6_goOn k_591 k_593 ks_11 k_5 k_594 ⟨show 7 + 1 ≤ b + 8 + 1 from by omega, show 8 + (1 + 11) + 40 * (7) ≤ 40 * (b + 8 + 1) from by omega⟩ ⟨(Nat.le_of_ble_eq_true rfl), (Nat.le_of_ble_eq_true rfl)⟩ hl.1 (Nat.le_of_ble_eq_true rfl) rfl rfl dX6_readOperand_32 (pmVS hPc hDc hK rfl rfl 0 rfl hG hS (va_free hD hS hA [0, 1] rfl))) hP hD hS hA [0, 1] [2, 3, 4] (wr := [(trule, .inr (4, G4 ua w_98)), ((ua 0), .inl (E 0, 120, .inl w_96)), ((ua 1), .inl (E 0, 120, .inl w_97))]) rfl rfl (by decide) (by decide) (fun u_101 H locs hw_100 hP hD hS => ?_)
      clear hPc hDc
      obtain ⟨w_102, w_103, w_104, w_105⟩ := u_101
      try dsimp only at hw_100
      have hP : va_P D vwCl [(trule, .inr (4, G4 ua w_98)), ((ua 0), .inl (E 0, 120, .inl w_96)), ((ua 1), .inl (E 0, 120, .inl w_97)), (th, .inr (6, G6 ta tsize trule twords w_102 w_104 w_105 w_103)), ((ta 0), .inl (E 0, 120, .inl tf0))] H := hP
      have hD := toW hP hD rfl
      obtain ⟨hw_100_0, hw_100_1⟩ := hw_100
      refine lv_iconst (v := 1) hx hb dX6_readOperand_35 (by decide) ?_
      have hP9 := hP.sub (ws' := [(th, .inr (6, G6 ta tsize trule twords w_102 w_104 w_105 w_103)), ((ta 0), .inl (E 0, 120, .inl tf0)), (trule, .inr (4, G4 ua w_98)), ((ua 0), .inl (E 0, 120, .inl w_96)), ((ua 1), .inl (E 0, 120, .inl w_97))]) [3, 4, 0, 1, 2] rfl
      have hD9 := hD.sub (ws' := [(th, .inr (6, G6 ta tsize trule twords w_102 w_104 w_105 w_103)), ((ta 0), .inl (E 0, 120, .inl tf0)), (trule, .inr (4, G4 ua w_98)), ((ua 0), .inl (E 0, 120, .inl w_96)), ((ua 1), .inl (E 0, 120, .inl w_97))]) [3, 4, 0, 1, 2] (by decide) rfl
      exact W.zret (v := 1) hx hb hr rfl (fun t ht hW => ⟨⟨1, (w_102, w_103, w_104, w_105, w_96, w_97, w_98), rfl, ⟨(by (try dsimp only); omega), (by (try dsimp only); omega), (by have hl := t_1; have hl4 := t_4; have hl5 := t_5; have hl6 := t_6; have hl7 := t_7; have hl8 := t_8; have hl40 := t_40; have hl41 := t_41; have hl42 := t_42; have hl43 := t_43; have hl45 := t_45; have hl47 := t_47; have hl60 := t_60; have hl61 := t_61; have hl62 := t_62; (try dsimp only); exact ⟨by omega, RO_val (by omega) hw_94_1 hw_100_1 (by omega) (by have c0 := i_clamp0 (x := tsize) (by omega); omega) (by omega)⟩)⟩, by rw [ht]; exact hP9, hD9⟩, hS.F ht⟩) hS.2.2 dX6_readOperand_36
set_option maxHeartbeats 4000000 in
set_option maxRecDepth 100000 in
theorem g_X6_readProduct (l : Launch) (b : Nat) (p0 : Int32) (hb8 : 8 ≤ b) (h15 : 0 ≤ p0.toInt ∧ p0.toInt ≤ 15) (hX : M_X6_readOperand l (b) p0) : M_X6_readProduct l (b) p0 := by
  intro D E th ta tsize trule twords tat tword twordAt tvalue tf0 ua usize uf0 uf1 sv sn sf sz hi_t hi_u hsn g0 g1
  refine Met.ofW (cc := cX6_readProduct) (maxL := 5) (ret := (some .boolean)) (by decide) rfl ?_
  intro p e s m args below meth c s₁ B hml hv
  obtain ⟨rfl, hsz, hP, hK, hD0, hG⟩ := hv
  have hx := B.exec; have hb := B.bytes; have hr := B.returns
  have hts := atoms_spec (ws := wl yX6_readProduct cX6_readProduct 5 (some .boolean)) B.pre
  have htb : ∀ w ∈ tb, w.before _ s = true := fun w h => hts w (List.mem_cons_of_mem _ h)
  have hown : s.vm.findClass RX6 = some m.cls := findClass_of_methodNamed B.named
  have hlocks := B.notSynchronized
  subst hsz
  have hD := hD0.self (sz := s.heap.size)
  generalize hAe : va_A [(th, .inr (6, G6 ta tsize trule twords tat tword twordAt tvalue)), ((ta 0), .inl (E 0, 120, .inl tf0)), (trule, .inr (4, G4 ua usize)), ((ua 0), .inl (E 0, 120, .inl uf0)), ((ua 1), .inl (E 0, 120, .inl uf1))] s.heap.size = A at hD hG ⊢
  have hA : ∀ q : Nat, s.heap.size ≤ q → A q := fun q h => by rw [← hAe]; exact Or.inr h
  have hS : va_S A s.heap s.heap [] := va_S.rf
  have hP : va_P D vwCl [(th, .inr (6, G6 ta tsize trule twords tat tword twordAt tvalue)), ((ta 0), .inl (E 0, 120, .inl tf0)), (trule, .inr (4, G4 ua usize)), ((ua 0), .inl (E 0, 120, .inl uf0)), ((ua 1), .inl (E 0, 120, .inl uf1))] s.heap := hP
  have hl := lv_entry ([.ref th, .int p0]) (n := 5) (Nat.le_of_ble_eq_true rfl)
  rw [lg_entry_eq]
  generalize (lg_sl ([.ref th, .int p0]) ++ List.replicate (5 - (lg_sl ([.ref th, .int p0])).length) Slot.unset).toArray = ls at hl ⊢
  have hl : lv_has ls 5 [(0, .ref th), (1, .int p0)] := hl
  have lo_p0 := i_lo p0; have hi_p0 := i_hi p0
  refine lv_aload_n hx hb dX6_readProduct_0 rfl (lv_at hl 0 rfl) ?_
  refine lv_iload_n hx hb dX6_readProduct_1 rfl (lv_at hl 1 rfl) ?_
  have hPc := hP.sub (ws' := [(th, .inr (6, G6 ta tsize trule twords tat tword twordAt tvalue)), ((ta 0), .inl (E 0, 120, .inl tf0)), (trule, .inr (4, G4 ua usize)), ((ua 0), .inl (E 0, 120, .inl uf0)), ((ua 1), .inl (E 0, 120, .inl uf1))]) [0, 1, 2, 3, 4] rfl
  have hDc := hD.sub (ws' := [(th, .inr (6, G6 ta tsize trule twords tat tword twordAt tvalue)), ((ta 0), .inl (E 0, 120, .inl tf0)), (trule, .inr (4, G4 ua usize)), ((ua 0), .inl (E 0, 120, .inl uf0)), ((ua 1), .inl (E 0, 120, .inl uf1))]) [0, 1, 2, 3, 4] (by decide) rfl
  refine aft_i (runMG (rest := []) (As := [.int p0]) hx hb hml hown htb ((hX) D E th ta tsize trule twords tat tword twordAt tvalue tf0 ua usize uf0 uf1 sv sn sf _ (by (try dsimp only); omega) (by (try dsimp only); omega) hsn (by (try dsimp only); omega) g1) ok_X6_readOperand k_692 k_694 ks_22 k_5 k_695 ⟨show b + 1 + 1 ≤ b + 2 from by omega, show 8 + (4 + 11) + 40 * (b + 1) ≤ 40 * (b + 2) from by omega⟩ ⟨(Nat.le_of_ble_eq_true rfl), (Nat.le_of_ble_eq_true rfl)⟩ hl.1 (Nat.le_of_ble_eq_true rfl) rfl rfl dX6_readProduct_2 (pmVS hPc hDc hK rfl rfl 0 rfl hG hS (va_free hD hS hA [0, 1, 2, 3, 4] rfl))) hP hD hS hA [0, 1, 2, 3, 4] [] (wr := ([] : va_W)) rfl rfl (by decide) (by decide) (fun r_1 u_3 H locs hw_2 hP hD hS => ?_)
  clear hPc hDc
  obtain ⟨w_4, w_5, w_6, w_7, w_8, w_9, w_10⟩ := u_3
  try dsimp only at hw_2
  have hP : va_P D vwCl [(th, .inr (6, G6 ta tsize trule twords w_4 w_6 w_7 w_5)), ((ta 0), .inl (E 0, 120, .inl tf0)), (trule, .inr (4, G4 ua w_10)), ((ua 0), .inl (E 0, 120, .inl w_8)), ((ua 1), .inl (E 0, 120, .inl w_9))] H := hP
  have hD := toW hP hD rfl
  obtain ⟨hw_2_0, hw_2_1, hw_2_2⟩ := hw_2
  obtain ⟨hw_2_2r, hw_2_2k⟩ := hw_2_2
  refine lv_istore_n (lv' := [(2, .int r_1), (0, .ref th), (1, .int p0)]) hx hb dX6_readProduct_5 rfl hl (by decide) rfl (fun ls hl => ?_)
  refine lv_iconst (v := 0) hx hb dX6_readProduct_6 (by decide) ?_
  refine lv_istore_n (lv' := [(3, .int 0), (2, .int r_1), (0, .ref th), (1, .int p0)]) hx hb dX6_readProduct_7 rfl hl (by decide) rfl (fun ls hl => ?_)
  have loop_11 : ∀ (N_13 : Nat) (L3_8 : Int32) (L2_8 : Int32) (tat_8 : Int32) (tword_8 : Int32) (twordAt_8 : Int32) (tvalue_8 : Int32) (usize_8 : Int32) (uf0_8 : Nat → Int32) (uf1_8 : Nat → Int32) (H : Heap) (locs : List Loc) (ls : Array Slot), 120 - L3_8.toInt < (N_13 : Int) → (0 ≤ usize_8.toInt ∧ usize_8.toInt ≤ 120) → (0 ≤ L3_8.toInt ∧ L3_8.toInt ≤ 120 ∧ 0 ≤ L2_8.toInt ∧ L2_8.toInt ≤ 1) → (0 ≤ tat_8.toInt ∧ tat_8.toInt ≤ tsize.toInt ∧ 0 ≤ twordAt_8.toInt ∧ twordAt_8.toInt ≤ tat_8.toInt) → (RKP sn sf tf0 (tsize).toNatClampNeg 6 7 p0.toInt L3_8.toInt tat twordAt tword tvalue usize uf0 uf1 tat_8 twordAt_8 tword_8 tvalue_8 usize_8 uf0_8 uf1_8 L2_8) → va_P D vwCl [(th, .inr (6, G6 ta tsize trule twords tat_8 tword_8 twordAt_8 tvalue_8)), ((ta 0), .inl (E 0, 120, .inl tf0)), (trule, .inr (4, G4 ua usize_8)), ((ua 0), .inl (E 0, 120, .inl uf0_8)), ((ua 1), .inl (E 0, 120, .inl uf1_8))] H → va_D A [(th, .inr (6, G6 ta tsize trule twords tat_8 tword_8 twordAt_8 tvalue_8)), ((ta 0), .inl (E 0, 120, .inl tf0)), (trule, .inr (4, G4 ua usize_8)), ((ua 0), .inl (E 0, 120, .inl uf0_8)), ((ua 1), .inl (E 0, 120, .inl uf1_8))] → va_S A s.heap H locs → lv_has ls 5 [(3, .int L3_8), (2, .int L2_8), (0, .ref th), (1, .int p0)] → W p l e (headSpec (wl yX6_readProduct cX6_readProduct 5 (some .boolean)) (RM (b + 2) 0 0)).room s m [Value.ref th, .int p0].toArray below meth c H locs 0 0 (MQ below (va_Qi (fun (r : Int32) (u : (Int32) × (Int32) × (Int32) × (Int32) × (Nat → Int32) × (Nat → Int32) × (Int32)) => (0 ≤ u.2.2.2.2.2.2.toInt ∧ u.2.2.2.2.2.2.toInt ≤ 120) ∧ (0 ≤ u.1.toInt ∧ u.1.toInt ≤ tsize.toInt ∧ 0 ≤ u.2.2.2.1.toInt ∧ u.2.2.2.1.toInt ≤ u.1.toInt) ∧ ((0 ≤ r.toInt ∧ r.toInt ≤ 1) ∧ RKP sn sf tf0 (tsize).toNatClampNeg 6 6 p0.toInt 0 tat twordAt tword tvalue usize uf0 uf1 u.1 u.2.2.2.1 u.2.2.1 u.2.1 u.2.2.2.2.2.2 u.2.2.2.2.1 u.2.2.2.2.2.1 r)) (mu_B D A (fun (u : (Int32) × (Int32) × (Int32) × (Int32) × (Nat → Int32) × (Nat → Int32) × (Int32)) => [(th, .inr (6, G6 ta tsize trule twords u.1 u.2.2.1 u.2.2.2.1 u.2.1)), ((ta 0), .inl (E 0, 120, .inl tf0)), (trule, .inr (4, G4 ua u.2.2.2.2.2.2)), ((ua 0), .inl (E 0, 120, .inl u.2.2.2.2.1)), ((ua 1), .inl (E 0, 120, .inl u.2.2.2.2.2.1))])) A) [Value.ref th, .int p0].toArray s 0 0 A) (F0 m 8 ls []) := by
    intro N_13
    induction N_13 with
    | zero => intro L3_8 L2_8 tat_8 tword_8 twordAt_8 tvalue_8 usize_8 uf0_8 uf1_8 H locs ls hm v_usize_8 v0_8 v1_8 v2_8 _ _ _ _; exfalso; omega
    | succ N_13 ih_12 =>
      intro L3_8 L2_8 tat_8 tword_8 twordAt_8 tvalue_8 usize_8 uf0_8 uf1_8 H locs ls hm v_usize_8 v0_8 v1_8 v2_8 hP hD hS hl
      have lo_L3_8 := i_lo L3_8; have hi_L3_8 := i_hi L3_8
      have lo_L2_8 := i_lo L2_8; have hi_L2_8 := i_hi L2_8
      have lo_tat_8 := i_lo tat_8; have hi_tat_8 := i_hi tat_8
      have lo_tword_8 := i_lo tword_8; have hi_tword_8 := i_hi tword_8
      have lo_twordAt_8 := i_lo twordAt_8; have hi_twordAt_8 := i_hi twordAt_8
      have lo_tvalue_8 := i_lo tvalue_8; have hi_tvalue_8 := i_hi tvalue_8
      have lo_usize_8 := i_lo usize_8; have hi_usize_8 := i_hi usize_8
      refine lv_iload_n hx hb dX6_readProduct_8 rfl (lv_at hl 0 rfl) ?_
      refine lv_bipush (v := 120) hx hb dX6_readProduct_9 (by decide) ?_
      refine lv_icmp_ge (tgt := 68) hx hb dX6_readProduct_11 (by decide) (fun c_14 => ?_) (fun c_14 => ?_)
      ·
        have ic_14 : 120 ≤ L3_8.toInt := by first | exact (g_le t_120 rfl).mp c_14 | (have h := mt (g_lt rfl t_120).mpr c_14; omega)
        clear c_14
        refine lv_iload_n hx hb dX6_readProduct_68 rfl (lv_at hl 1 rfl) ?_
        have hP9 := hP.sub (ws' := [(th, .inr (6, G6 ta tsize trule twords tat_8 tword_8 twordAt_8 tvalue_8)), ((ta 0), .inl (E 0, 120, .inl tf0)), (trule, .inr (4, G4 ua usize_8)), ((ua 0), .inl (E 0, 120, .inl uf0_8)), ((ua 1), .inl (E 0, 120, .inl uf1_8))]) [0, 1, 2, 3, 4] rfl
        have hD9 := hD.sub (ws' := [(th, .inr (6, G6 ta tsize trule twords tat_8 tword_8 twordAt_8 tvalue_8)), ((ta 0), .inl (E 0, 120, .inl tf0)), (trule, .inr (4, G4 ua usize_8)), ((ua 0), .inl (E 0, 120, .inl uf0_8)), ((ua 1), .inl (E 0, 120, .inl uf1_8))]) [0, 1, 2, 3, 4] (by decide) rfl
        exact W.zret (v := L2_8) hx hb hr (nar_z (by omega) (by omega)) (fun t ht hW => ⟨⟨L2_8, (tat_8, tvalue_8, tword_8, twordAt_8, uf0_8, uf1_8, usize_8), rfl, ⟨(by (try dsimp only); omega), (by (try dsimp only); omega), (by have hl4 := t_4; have hl5 := t_5; have hl6 := t_6; have hl7 := t_7; have hl8 := t_8; have hl40 := t_40; have hl41 := t_41; have hl42 := t_42; have hl43 := t_43; have hl45 := t_45; have hl47 := t_47; have hl60 := t_60; have hl61 := t_61; have hl62 := t_62; (try dsimp only); exact ⟨by omega, RK_end v2_8 (by unfold LVL; omega) (by omega) (by omega) (by have c0 := i_clamp0 (x := tsize) (by omega); omega)⟩)⟩, by rw [ht]; exact hP9, hD9⟩, hS.F ht⟩) hS.2.2 dX6_readProduct_69
      ·
        have ic_14 : L3_8.toInt < 120 := by first | exact (g_lt rfl t_120).mp c_14 | (have h := mt (g_le t_120 rfl).mpr c_14; omega)
        clear c_14
        refine lv_iload_n hx hb dX6_readProduct_14 rfl (lv_at hl 1 rfl) ?_
        refine lv_if_eq (tgt := 68) hx hb dX6_readProduct_15 (by decide) (fun c_15 => ?_) (fun c_15 => ?_)
        ·
          have ic_15 : L2_8.toInt = 0 := (g_eq rfl t_0).mp c_15
          clear c_15
          refine lv_iload_n hx hb dX6_readProduct_68 rfl (lv_at hl 1 rfl) ?_
          have hP9 := hP.sub (ws' := [(th, .inr (6, G6 ta tsize trule twords tat_8 tword_8 twordAt_8 tvalue_8)), ((ta 0), .inl (E 0, 120, .inl tf0)), (trule, .inr (4, G4 ua usize_8)), ((ua 0), .inl (E 0, 120, .inl uf0_8)), ((ua 1), .inl (E 0, 120, .inl uf1_8))]) [0, 1, 2, 3, 4] rfl
          have hD9 := hD.sub (ws' := [(th, .inr (6, G6 ta tsize trule twords tat_8 tword_8 twordAt_8 tvalue_8)), ((ta 0), .inl (E 0, 120, .inl tf0)), (trule, .inr (4, G4 ua usize_8)), ((ua 0), .inl (E 0, 120, .inl uf0_8)), ((ua 1), .inl (E 0, 120, .inl uf1_8))]) [0, 1, 2, 3, 4] (by decide) rfl
          exact W.zret (v := L2_8) hx hb hr (nar_z (by omega) (by omega)) (fun t ht hW => ⟨⟨L2_8, (tat_8, tvalue_8, tword_8, twordAt_8, uf0_8, uf1_8, usize_8), rfl, ⟨(by (try dsimp only); omega), (by (try dsimp only); omega), (by have hl4 := t_4; have hl5 := t_5; have hl6 := t_6; have hl7 := t_7; have hl8 := t_8; have hl40 := t_40; have hl41 := t_41; have hl42 := t_42; have hl43 := t_43; have hl45 := t_45; have hl47 := t_47; have hl60 := t_60; have hl61 := t_61; have hl62 := t_62; (try dsimp only); exact ⟨by omega, RK_end v2_8 (by unfold LVL; omega) (by omega) (by omega) (by have c0 := i_clamp0 (x := tsize) (by omega); omega)⟩)⟩, by rw [ht]; exact hP9, hD9⟩, hS.F ht⟩) hS.2.2 dX6_readProduct_69
        ·
          have ic_15 : L2_8.toInt ≠ 0 := mt (g_eq rfl t_0).mpr c_15
          clear c_15
          refine lv_aload_n hx hb dX6_readProduct_18 rfl (lv_at hl 2 rfl) ?_
          refine va_get (D := D) (ci := 6) (v := .int tword_8) (C := RX6) (T := TX6) (N := 8) hx hb htb iX6 hown hK.1 hP 0 rfl rfl 5 (by decide) (htb _ k_163) (fun _ h9 => h9) rfl dX6_readProduct_19 ?_
          refine lv_bipush (v := 42) hx hb dX6_readProduct_22 (by decide) ?_
          refine lv_icmp_eq (tgt := 36) hx hb dX6_readProduct_24 (by decide) (fun c_16 => ?_) (fun c_16 => ?_)
          ·
            have ic_16 : tword_8.toInt = 42 := (g_eq rfl t_42).mp c_16
            clear c_16
            refine lv_aload_n hx hb dX6_readProduct_36 rfl (lv_at hl 2 rfl) ?_
            refine va_get (D := D) (ci := 6) (v := .int tword_8) (C := RX6) (T := TX6) (N := 8) hx hb htb iX6 hown hK.1 hP 0 rfl rfl 5 (by decide) (htb _ k_163) (fun _ h9 => h9) rfl dX6_readProduct_37 ?_
            refine lv_istore (lv' := [(4, .int tword_8), (3, .int L3_8), (2, .int L2_8), (0, .ref th), (1, .int p0)]) hx hb dX6_readProduct_40 hl (by decide) rfl (fun ls hl => ?_)
            refine lv_aload_n hx hb dX6_readProduct_42 rfl (lv_at hl 3 rfl) ?_
            have hPc := hP.sub (ws' := [(th, .inr (6, G6 ta tsize trule twords tat_8 tword_8 twordAt_8 tvalue_8)), ((ta 0), .inl (E 0, 120, .inl tf0))]) [0, 1] rfl
            have hDc := hD.sub (ws' := [(th, .inr (6, G6 ta tsize trule twords tat_8 tword_8 twordAt_8 tvalue_8)), ((ta 0), .inl (E 0, 120, .inl tf0))]) [0, 1] (by decide) rfl
            refine aft_v (runMG (rest := []) (As := []) hx hb hml hown htb (g_X6_goOn l D E th ta tsize trule twords tat_8 tword_8 twordAt_8 tvalue_8 tf0 sv sn sf _ (by (try dsimp only); omega) hsn (by (try dsimp only); omega) g1) ok_X6_goOn k_591 k_593 ks_11 k_5 k_594 ⟨show 7 + 1 ≤ b + 2 from by omega, show 8 + (1 + 11) + 40 * (7) ≤ 40 * (b + 2) from by omega⟩ ⟨(Nat.le_of_ble_eq_true rfl), (Nat.le_of_ble_eq_true rfl)⟩ hl.1 (Nat.le_of_ble_eq_true rfl) rfl rfl dX6_readProduct_43 (pmVS hPc hDc hK rfl rfl 0 rfl hG hS (va_free hD hS hA [0, 1] rfl))) hP hD hS hA [0, 1] [2, 3, 4] (wr := [(trule, .inr (4, G4 ua usize_8)), ((ua 0), .inl (E 0, 120, .inl uf0_8)), ((ua 1), .inl (E 0, 120, .inl uf1_8))]) rfl rfl (by decide) (by decide) (fun u_19 H locs hw_18 hP hD hS => ?_)
            clear hPc hDc
            obtain ⟨w_20, w_21, w_22, w_23⟩ := u_19
            try dsimp only at hw_18
            have hP : va_P D vwCl [(trule, .inr (4, G4 ua usize_8)), ((ua 0), .inl (E 0, 120, .inl uf0_8)), ((ua 1), .inl (E 0, 120, .inl uf1_8)), (th, .inr (6, G6 ta tsize trule twords w_20 w_22 w_23 w_21)), ((ta 0), .inl (E 0, 120, .inl tf0))] H := hP
            have hD := toW hP hD rfl
            obtain ⟨hw_18_0, hw_18_1⟩ := hw_18
            refine lv_aload_n hx hb dX6_readProduct_46 rfl (lv_at hl 3 rfl) ?_
            refine lv_iload_n hx hb dX6_readProduct_47 rfl (lv_at hl 4 rfl) ?_
            have hPc := hP.sub (ws' := [(th, .inr (6, G6 ta tsize trule twords w_20 w_22 w_23 w_21)), ((ta 0), .inl (E 0, 120, .inl tf0)), (trule, .inr (4, G4 ua usize_8)), ((ua 0), .inl (E 0, 120, .inl uf0_8)), ((ua 1), .inl (E 0, 120, .inl uf1_8))]) [3, 4, 0, 1, 2] rfl
            have hDc := hD.sub (ws' := [(th, .inr (6, G6 ta tsize trule twords w_20 w_22 w_23 w_21)), ((ta 0), .inl (E 0, 120, .inl tf0)), (trule, .inr (4, G4 ua usize_8)), ((ua 0), .inl (E 0, 120, .inl uf0_8)), ((ua 1), .inl (E 0, 120, .inl uf1_8))]) [3, 4, 0, 1, 2] (by decide) rfl
            refine aft_i (runMG (rest := []) (As := [.int p0]) hx hb hml hown htb ((hX) D E th ta tsize trule twords w_20 w_22 w_23 w_21 tf0 ua usize_8 uf0_8 uf1_8 sv sn sf _ (by (try dsimp only); omega) (by (try dsimp only); omega) hsn (by (try dsimp only); omega) g1) ok_X6_readOperand k_692 k_694 ks_22 k_5 k_695 ⟨show b + 1 + 1 ≤ b + 2 from by omega, show 8 + (4 + 11) + 40 * (b + 1) ≤ 40 * (b + 2) from by omega⟩ ⟨(Nat.le_of_ble_eq_true rfl), (Nat.le_of_ble_eq_true rfl)⟩ hl.1 (Nat.le_of_ble_eq_true rfl) rfl rfl dX6_readProduct_48 (pmVS hPc hDc hK rfl rfl 0 rfl hG hS (va_free hD hS hA [3, 4, 0, 1, 2] rfl))) hP hD hS hA [3, 4, 0, 1, 2] [] (wr := ([] : va_W)) rfl rfl (by decide) (by decide) (fun r_24 u_26 H locs hw_25 hP hD hS => ?_)
            clear hPc hDc
            obtain ⟨w_27, w_28, w_29, w_30, w_31, w_32, w_33⟩ := u_26
            try dsimp only at hw_25
            have hP : va_P D vwCl [(th, .inr (6, G6 ta tsize trule twords w_27 w_29 w_30 w_28)), ((ta 0), .inl (E 0, 120, .inl tf0)), (trule, .inr (4, G4 ua w_33)), ((ua 0), .inl (E 0, 120, .inl w_31)), ((ua 1), .inl (E 0, 120, .inl w_32))] H := hP
            have hD := toW hP hD rfl
            obtain ⟨hw_25_0, hw_25_1, hw_25_2⟩ := hw_25
            obtain ⟨hw_25_2r, hw_25_2k⟩ := hw_25_2
            refine lv_istore_n (lv' := [(2, .int r_24), (4, .int tword_8), (3, .int L3_8), (0, .ref th), (1, .int p0)]) hx hb dX6_readProduct_51 rfl hl (by decide) rfl (fun ls hl => ?_)
            refine lv_aload_n hx hb dX6_readProduct_52 rfl (lv_at hl 3 rfl) ?_
            refine va_get (D := D) (ci := 6) (v := .ref trule) (C := RX6) (T := TX6) (N := 8) hx hb htb iX6 hown hK.1 hP 0 rfl rfl 2 (by decide) (htb _ k_160) (fun _ h9 => h9) rfl dX6_readProduct_53 ?_
            refine lv_iload hx hb dX6_readProduct_56 (lv_at hl 1 rfl) ?_
            refine lv_iconst (v := 0) hx hb dX6_readProduct_58 (by decide) ?_
            have hPc := hP.sub (ws' := [(trule, .inr (4, G4 ua w_33)), ((ua 0), .inl (E 0, 120, .inl w_31)), ((ua 1), .inl (E 0, 120, .inl w_32))]) [2, 3, 4] rfl
            have hDc := hD.sub (ws' := [(trule, .inr (4, G4 ua w_33)), ((ua 0), .inl (E 0, 120, .inl w_31)), ((ua 1), .inl (E 0, 120, .inl w_32))]) [2, 3, 4] (by decide) rfl
            refine aft_v (runMV (rest := []) (As := [.int tword_8, .int 0]) hx hb hml hown htb hK (g_X4_add l D E trule ua w_33 w_31 w_32 tword_8 0 _ (by (try dsimp only); omega)) ok_X4_add k_696 k_697 k_698 k_6 k_699 ⟨show 0 + 1 ≤ b + 2 from by omega, show 8 + (3 + 11) + 40 * (0) ≤ 40 * (b + 2) from by omega⟩ ⟨(Nat.le_of_ble_eq_true rfl), (Nat.le_of_ble_eq_true rfl)⟩ hl.1 (Nat.le_of_ble_eq_true rfl) rfl rfl dX6_readProduct_59 hPc hDc rfl rfl 0 rfl) hP hD hS hA [2, 3, 4] [0, 1] (wr := [(th, .inr (6, G6 ta tsize trule twords w_27 w_29 w_30 w_28)), ((ta 0), .inl (E 0, 120, .inl tf0))]) rfl rfl (by decide) (by decide) (fun u_36 H locs hw_35 hP hD hS => ?_)
            clear hPc hDc
            obtain ⟨w_37, w_38, w_39⟩ := u_36
            try dsimp only at hw_35
            have hP : va_P D vwCl [(th, .inr (6, G6 ta tsize trule twords w_27 w_29 w_30 w_28)), ((ta 0), .inl (E 0, 120, .inl tf0)), (trule, .inr (4, G4 ua w_39)), ((ua 0), .inl (E 0, 120, .inl w_37)), ((ua 1), .inl (E 0, 120, .inl w_38))] H := hP
            have hD := toW hP hD rfl
            obtain ⟨hw_35_0, hw_35_1⟩ := hw_35
            try simp only [t_0] at hw_35_0
            try simp only [t_0] at hw_35_1
            obtain ⟨z_40, ez_40⟩ : ∃ y : Int32, y = L3_8 + 1 := ⟨_, rfl⟩
            have jz_40 : z_40.toInt = L3_8.toInt + 1 := by rw [ez_40]; exact g_add rfl t_1 (by omega) (by omega)
            refine lv_iinc (v := z_40) (lv' := [(3, .int z_40), (2, .int r_24), (4, .int tword_8), (0, .ref th), (1, .int p0)]) hx hb dX6_readProduct_62 hl (k := 2) rfl (by rw [ez_40]; rfl) (by decide) rfl (fun ls hl => ?_)
            refine lv_goto (tgt := 8) hx hb dX6_readProduct_65 (by decide) ?_
            exact ih_12 z_40 r_24 w_27 w_29 w_30 w_28 w_39 w_37 w_38 _ _ _ (by (try dsimp only); omega) (by (try dsimp only); omega) (by (try dsimp only); omega) (by (try dsimp only); omega) (by have hl := t_0; have hl4 := t_4; have hl5 := t_5; have hl6 := t_6; have hl7 := t_7; have hl8 := t_8; have hl40 := t_40; have hl41 := t_41; have hl42 := t_42; have hl43 := t_43; have hl45 := t_45; have hl47 := t_47; have hl60 := t_60; have hl61 := t_61; have hl62 := t_62; exact RKP_i (RK_rnd v2_8 (by omega) (by omega) hw_18_1 hw_25_2k hw_35_1 (by omega) (by omega) (by have c0 := i_clamp0 (x := tsize) (by omega); omega)) (by omega)) hP hD hS (lv_sub hl [0, 1, 3, 4] rfl)
          ·
            have ic_16 : tword_8.toInt ≠ 42 := mt (g_eq rfl t_42).mpr c_16
            clear c_16
            refine lv_aload_n hx hb dX6_readProduct_27 rfl (lv_at hl 2 rfl) ?_
            refine va_get (D := D) (ci := 6) (v := .int tword_8) (C := RX6) (T := TX6) (N := 8) hx hb htb iX6 hown hK.1 hP 0 rfl rfl 5 (by decide) (htb _ k_163) (fun _ h9 => h9) rfl dX6_readProduct_28 ?_
            refine lv_bipush (v := 47) hx hb dX6_readProduct_31 (by decide) ?_
            refine lv_icmp_ne (tgt := 68) hx hb dX6_readProduct_33 (by decide) (fun c_41 => ?_) (fun c_41 => ?_)
            ·
              have ic_41 : tword_8.toInt ≠ 47 := mt (g_eq rfl t_47).mpr c_41
              clear c_41
              refine lv_iload_n hx hb dX6_readProduct_68 rfl (lv_at hl 1 rfl) ?_
              have hP9 := hP.sub (ws' := [(th, .inr (6, G6 ta tsize trule twords tat_8 tword_8 twordAt_8 tvalue_8)), ((ta 0), .inl (E 0, 120, .inl tf0)), (trule, .inr (4, G4 ua usize_8)), ((ua 0), .inl (E 0, 120, .inl uf0_8)), ((ua 1), .inl (E 0, 120, .inl uf1_8))]) [0, 1, 2, 3, 4] rfl
              have hD9 := hD.sub (ws' := [(th, .inr (6, G6 ta tsize trule twords tat_8 tword_8 twordAt_8 tvalue_8)), ((ta 0), .inl (E 0, 120, .inl tf0)), (trule, .inr (4, G4 ua usize_8)), ((ua 0), .inl (E 0, 120, .inl uf0_8)), ((ua 1), .inl (E 0, 120, .inl uf1_8))]) [0, 1, 2, 3, 4] (by decide) rfl
              exact W.zret (v := L2_8) hx hb hr (nar_z (by omega) (by omega)) (fun t ht hW => ⟨⟨L2_8, (tat_8, tvalue_8, tword_8, twordAt_8, uf0_8, uf1_8, usize_8), rfl, ⟨(by (try dsimp only); omega), (by (try dsimp only); omega), (by have hl4 := t_4; have hl5 := t_5; have hl6 := t_6; have hl7 := t_7; have hl8 := t_8; have hl40 := t_40; have hl41 := t_41; have hl42 := t_42; have hl43 := t_43; have hl45 := t_45; have hl47 := t_47; have hl60 := t_60; have hl61 := t_61; have hl62 := t_62; (try dsimp only); exact ⟨by omega, RK_end v2_8 (by unfold LVL; omega) (by omega) (by omega) (by have c0 := i_clamp0 (x := tsize) (by omega); omega)⟩)⟩, by rw [ht]; exact hP9, hD9⟩, hS.F ht⟩) hS.2.2 dX6_readProduct_69
            ·
              have ic_41 : tword_8.toInt = 47 := (g_eq rfl t_47).mp c_41
              clear c_41
              refine lv_aload_n hx hb dX6_readProduct_36 rfl (lv_at hl 2 rfl) ?_
              refine va_get (D := D) (ci := 6) (v := .int tword_8) (C := RX6) (T := TX6) (N := 8) hx hb htb iX6 hown hK.1 hP 0 rfl rfl 5 (by decide) (htb _ k_163) (fun _ h9 => h9) rfl dX6_readProduct_37 ?_
              refine lv_istore (lv' := [(4, .int tword_8), (3, .int L3_8), (2, .int L2_8), (0, .ref th), (1, .int p0)]) hx hb dX6_readProduct_40 hl (by decide) rfl (fun ls hl => ?_)
              refine lv_aload_n hx hb dX6_readProduct_42 rfl (lv_at hl 3 rfl) ?_
              have hPc := hP.sub (ws' := [(th, .inr (6, G6 ta tsize trule twords tat_8 tword_8 twordAt_8 tvalue_8)), ((ta 0), .inl (E 0, 120, .inl tf0))]) [0, 1] rfl
              have hDc := hD.sub (ws' := [(th, .inr (6, G6 ta tsize trule twords tat_8 tword_8 twordAt_8 tvalue_8)), ((ta 0), .inl (E 0, 120, .inl tf0))]) [0, 1] (by decide) rfl
              refine aft_v (runMG (rest := []) (As := []) hx hb hml hown htb (g_X6_goOn l D E th ta tsize trule twords tat_8 tword_8 twordAt_8 tvalue_8 tf0 sv sn sf _ (by (try dsimp only); omega) hsn (by (try dsimp only); omega) g1) ok_X6_goOn k_591 k_593 ks_11 k_5 k_594 ⟨show 7 + 1 ≤ b + 2 from by omega, show 8 + (1 + 11) + 40 * (7) ≤ 40 * (b + 2) from by omega⟩ ⟨(Nat.le_of_ble_eq_true rfl), (Nat.le_of_ble_eq_true rfl)⟩ hl.1 (Nat.le_of_ble_eq_true rfl) rfl rfl dX6_readProduct_43 (pmVS hPc hDc hK rfl rfl 0 rfl hG hS (va_free hD hS hA [0, 1] rfl))) hP hD hS hA [0, 1] [2, 3, 4] (wr := [(trule, .inr (4, G4 ua usize_8)), ((ua 0), .inl (E 0, 120, .inl uf0_8)), ((ua 1), .inl (E 0, 120, .inl uf1_8))]) rfl rfl (by decide) (by decide) (fun u_44 H locs hw_43 hP hD hS => ?_)
              clear hPc hDc
              obtain ⟨w_45, w_46, w_47, w_48⟩ := u_44
              try dsimp only at hw_43
              have hP : va_P D vwCl [(trule, .inr (4, G4 ua usize_8)), ((ua 0), .inl (E 0, 120, .inl uf0_8)), ((ua 1), .inl (E 0, 120, .inl uf1_8)), (th, .inr (6, G6 ta tsize trule twords w_45 w_47 w_48 w_46)), ((ta 0), .inl (E 0, 120, .inl tf0))] H := hP
              have hD := toW hP hD rfl
              obtain ⟨hw_43_0, hw_43_1⟩ := hw_43
              refine lv_aload_n hx hb dX6_readProduct_46 rfl (lv_at hl 3 rfl) ?_
              refine lv_iload_n hx hb dX6_readProduct_47 rfl (lv_at hl 4 rfl) ?_
              have hPc := hP.sub (ws' := [(th, .inr (6, G6 ta tsize trule twords w_45 w_47 w_48 w_46)), ((ta 0), .inl (E 0, 120, .inl tf0)), (trule, .inr (4, G4 ua usize_8)), ((ua 0), .inl (E 0, 120, .inl uf0_8)), ((ua 1), .inl (E 0, 120, .inl uf1_8))]) [3, 4, 0, 1, 2] rfl
              have hDc := hD.sub (ws' := [(th, .inr (6, G6 ta tsize trule twords w_45 w_47 w_48 w_46)), ((ta 0), .inl (E 0, 120, .inl tf0)), (trule, .inr (4, G4 ua usize_8)), ((ua 0), .inl (E 0, 120, .inl uf0_8)), ((ua 1), .inl (E 0, 120, .inl uf1_8))]) [3, 4, 0, 1, 2] (by decide) rfl
              refine aft_i (runMG (rest := []) (As := [.int p0]) hx hb hml hown htb ((hX) D E th ta tsize trule twords w_45 w_47 w_48 w_46 tf0 ua usize_8 uf0_8 uf1_8 sv sn sf _ (by (try dsimp only); omega) (by (try dsimp only); omega) hsn (by (try dsimp only); omega) g1) ok_X6_readOperand k_692 k_694 ks_22 k_5 k_695 ⟨show b + 1 + 1 ≤ b + 2 from by omega, show 8 + (4 + 11) + 40 * (b + 1) ≤ 40 * (b + 2) from by omega⟩ ⟨(Nat.le_of_ble_eq_true rfl), (Nat.le_of_ble_eq_true rfl)⟩ hl.1 (Nat.le_of_ble_eq_true rfl) rfl rfl dX6_readProduct_48 (pmVS hPc hDc hK rfl rfl 0 rfl hG hS (va_free hD hS hA [3, 4, 0, 1, 2] rfl))) hP hD hS hA [3, 4, 0, 1, 2] [] (wr := ([] : va_W)) rfl rfl (by decide) (by decide) (fun r_49 u_51 H locs hw_50 hP hD hS => ?_)
              clear hPc hDc
              obtain ⟨w_52, w_53, w_54, w_55, w_56, w_57, w_58⟩ := u_51
              try dsimp only at hw_50
              have hP : va_P D vwCl [(th, .inr (6, G6 ta tsize trule twords w_52 w_54 w_55 w_53)), ((ta 0), .inl (E 0, 120, .inl tf0)), (trule, .inr (4, G4 ua w_58)), ((ua 0), .inl (E 0, 120, .inl w_56)), ((ua 1), .inl (E 0, 120, .inl w_57))] H := hP
              have hD := toW hP hD rfl
              obtain ⟨hw_50_0, hw_50_1, hw_50_2⟩ := hw_50
              obtain ⟨hw_50_2r, hw_50_2k⟩ := hw_50_2
              refine lv_istore_n (lv' := [(2, .int r_49), (4, .int tword_8), (3, .int L3_8), (0, .ref th), (1, .int p0)]) hx hb dX6_readProduct_51 rfl hl (by decide) rfl (fun ls hl => ?_)
              refine lv_aload_n hx hb dX6_readProduct_52 rfl (lv_at hl 3 rfl) ?_
              refine va_get (D := D) (ci := 6) (v := .ref trule) (C := RX6) (T := TX6) (N := 8) hx hb htb iX6 hown hK.1 hP 0 rfl rfl 2 (by decide) (htb _ k_160) (fun _ h9 => h9) rfl dX6_readProduct_53 ?_
              refine lv_iload hx hb dX6_readProduct_56 (lv_at hl 1 rfl) ?_
              refine lv_iconst (v := 0) hx hb dX6_readProduct_58 (by decide) ?_
              have hPc := hP.sub (ws' := [(trule, .inr (4, G4 ua w_58)), ((ua 0), .inl (E 0, 120, .inl w_56)), ((ua 1), .inl (E 0, 120, .inl w_57))]) [2, 3, 4] rfl
              have hDc := hD.sub (ws' := [(trule, .inr (4, G4 ua w_58)), ((ua 0), .inl (E 0, 120, .inl w_56)), ((ua 1), .inl (E 0, 120, .inl w_57))]) [2, 3, 4] (by decide) rfl
              refine aft_v (runMV (rest := []) (As := [.int tword_8, .int 0]) hx hb hml hown htb hK (g_X4_add l D E trule ua w_58 w_56 w_57 tword_8 0 _ (by (try dsimp only); omega)) ok_X4_add k_696 k_697 k_698 k_6 k_699 ⟨show 0 + 1 ≤ b + 2 from by omega, show 8 + (3 + 11) + 40 * (0) ≤ 40 * (b + 2) from by omega⟩ ⟨(Nat.le_of_ble_eq_true rfl), (Nat.le_of_ble_eq_true rfl)⟩ hl.1 (Nat.le_of_ble_eq_true rfl) rfl rfl dX6_readProduct_59 hPc hDc rfl rfl 0 rfl) hP hD hS hA [2, 3, 4] [0, 1] (wr := [(th, .inr (6, G6 ta tsize trule twords w_52 w_54 w_55 w_53)), ((ta 0), .inl (E 0, 120, .inl tf0))]) rfl rfl (by decide) (by decide) (fun u_61 H locs hw_60 hP hD hS => ?_)
              clear hPc hDc
              obtain ⟨w_62, w_63, w_64⟩ := u_61
              try dsimp only at hw_60
              have hP : va_P D vwCl [(th, .inr (6, G6 ta tsize trule twords w_52 w_54 w_55 w_53)), ((ta 0), .inl (E 0, 120, .inl tf0)), (trule, .inr (4, G4 ua w_64)), ((ua 0), .inl (E 0, 120, .inl w_62)), ((ua 1), .inl (E 0, 120, .inl w_63))] H := hP
              have hD := toW hP hD rfl
              obtain ⟨hw_60_0, hw_60_1⟩ := hw_60
              try simp only [t_0] at hw_60_0
              try simp only [t_0] at hw_60_1
              obtain ⟨z_65, ez_65⟩ : ∃ y : Int32, y = L3_8 + 1 := ⟨_, rfl⟩
              have jz_65 : z_65.toInt = L3_8.toInt + 1 := by rw [ez_65]; exact g_add rfl t_1 (by omega) (by omega)
              refine lv_iinc (v := z_65) (lv' := [(3, .int z_65), (2, .int r_49), (4, .int tword_8), (0, .ref th), (1, .int p0)]) hx hb dX6_readProduct_62 hl (k := 2) rfl (by rw [ez_65]; rfl) (by decide) rfl (fun ls hl => ?_)
              refine lv_goto (tgt := 8) hx hb dX6_readProduct_65 (by decide) ?_
              exact ih_12 z_65 r_49 w_52 w_54 w_55 w_53 w_64 w_62 w_63 _ _ _ (by (try dsimp only); omega) (by (try dsimp only); omega) (by (try dsimp only); omega) (by (try dsimp only); omega) (by have hl := t_0; have hl4 := t_4; have hl5 := t_5; have hl6 := t_6; have hl7 := t_7; have hl8 := t_8; have hl40 := t_40; have hl41 := t_41; have hl42 := t_42; have hl43 := t_43; have hl45 := t_45; have hl47 := t_47; have hl60 := t_60; have hl61 := t_61; have hl62 := t_62; exact RKP_i (RK_rnd v2_8 (by omega) (by omega) hw_43_1 hw_50_2k hw_60_1 (by omega) (by omega) (by have c0 := i_clamp0 (x := tsize) (by omega); omega)) (by omega)) hP hD hS (lv_sub hl [0, 1, 3, 4] rfl)
  exact loop_11 121 0 r_1 w_4 w_6 w_7 w_5 w_10 w_8 w_9 _ _ _ (by have h0 := t_0; (try dsimp only); omega) (by (try dsimp only); omega) (by have h0 := t_0; (try dsimp only); omega) (by have h0 := t_0; (try dsimp only); omega) (RKP_i (RK_up (by unfold LVL; omega) hw_2_2k) t_0.symm) hP hD hS (lv_sub hl [0, 1, 2, 3] rfl)
set_option maxHeartbeats 4000000 in
set_option maxRecDepth 100000 in
theorem g_X6_readSum (l : Launch) (b : Nat) (p0 : Int32) (hb8 : 8 ≤ b) (h15 : 0 ≤ p0.toInt ∧ p0.toInt ≤ 15) (hX : M_X6_readProduct l (b) p0) : M_X6_readSum l (b) p0 := by
  intro D E th ta tsize trule twords tat tword twordAt tvalue tf0 ua usize uf0 uf1 sv sn sf sz hi_t hi_u hsn g0 g1
  refine Met.ofW (cc := cX6_readSum) (maxL := 5) (ret := (some .boolean)) (by decide) rfl ?_
  intro p e s m args below meth c s₁ B hml hv
  obtain ⟨rfl, hsz, hP, hK, hD0, hG⟩ := hv
  have hx := B.exec; have hb := B.bytes; have hr := B.returns
  have hts := atoms_spec (ws := wl yX6_readSum cX6_readSum 5 (some .boolean)) B.pre
  have htb : ∀ w ∈ tb, w.before _ s = true := fun w h => hts w (List.mem_cons_of_mem _ h)
  have hown : s.vm.findClass RX6 = some m.cls := findClass_of_methodNamed B.named
  have hlocks := B.notSynchronized
  subst hsz
  have hD := hD0.self (sz := s.heap.size)
  generalize hAe : va_A [(th, .inr (6, G6 ta tsize trule twords tat tword twordAt tvalue)), ((ta 0), .inl (E 0, 120, .inl tf0)), (trule, .inr (4, G4 ua usize)), ((ua 0), .inl (E 0, 120, .inl uf0)), ((ua 1), .inl (E 0, 120, .inl uf1))] s.heap.size = A at hD hG ⊢
  have hA : ∀ q : Nat, s.heap.size ≤ q → A q := fun q h => by rw [← hAe]; exact Or.inr h
  have hS : va_S A s.heap s.heap [] := va_S.rf
  have hP : va_P D vwCl [(th, .inr (6, G6 ta tsize trule twords tat tword twordAt tvalue)), ((ta 0), .inl (E 0, 120, .inl tf0)), (trule, .inr (4, G4 ua usize)), ((ua 0), .inl (E 0, 120, .inl uf0)), ((ua 1), .inl (E 0, 120, .inl uf1))] s.heap := hP
  have hl := lv_entry ([.ref th, .int p0]) (n := 5) (Nat.le_of_ble_eq_true rfl)
  rw [lg_entry_eq]
  generalize (lg_sl ([.ref th, .int p0]) ++ List.replicate (5 - (lg_sl ([.ref th, .int p0])).length) Slot.unset).toArray = ls at hl ⊢
  have hl : lv_has ls 5 [(0, .ref th), (1, .int p0)] := hl
  have lo_p0 := i_lo p0; have hi_p0 := i_hi p0
  refine lv_aload_n hx hb dX6_readSum_0 rfl (lv_at hl 0 rfl) ?_
  refine lv_iload_n hx hb dX6_readSum_1 rfl (lv_at hl 1 rfl) ?_
  have hPc := hP.sub (ws' := [(th, .inr (6, G6 ta tsize trule twords tat tword twordAt tvalue)), ((ta 0), .inl (E 0, 120, .inl tf0)), (trule, .inr (4, G4 ua usize)), ((ua 0), .inl (E 0, 120, .inl uf0)), ((ua 1), .inl (E 0, 120, .inl uf1))]) [0, 1, 2, 3, 4] rfl
  have hDc := hD.sub (ws' := [(th, .inr (6, G6 ta tsize trule twords tat tword twordAt tvalue)), ((ta 0), .inl (E 0, 120, .inl tf0)), (trule, .inr (4, G4 ua usize)), ((ua 0), .inl (E 0, 120, .inl uf0)), ((ua 1), .inl (E 0, 120, .inl uf1))]) [0, 1, 2, 3, 4] (by decide) rfl
  refine aft_i (runMG (rest := []) (As := [.int p0]) hx hb hml hown htb ((hX) D E th ta tsize trule twords tat tword twordAt tvalue tf0 ua usize uf0 uf1 sv sn sf _ (by (try dsimp only); omega) (by (try dsimp only); omega) hsn (by (try dsimp only); omega) g1) ok_X6_readProduct k_688 k_690 ks_21 k_5 k_691 ⟨show b + 2 + 1 ≤ b + 3 from by omega, show 8 + (5 + 11) + 40 * (b + 2) ≤ 40 * (b + 3) from by omega⟩ ⟨(Nat.le_of_ble_eq_true rfl), (Nat.le_of_ble_eq_true rfl)⟩ hl.1 (Nat.le_of_ble_eq_true rfl) rfl rfl dX6_readSum_2 (pmVS hPc hDc hK rfl rfl 0 rfl hG hS (va_free hD hS hA [0, 1, 2, 3, 4] rfl))) hP hD hS hA [0, 1, 2, 3, 4] [] (wr := ([] : va_W)) rfl rfl (by decide) (by decide) (fun r_1 u_3 H locs hw_2 hP hD hS => ?_)
  clear hPc hDc
  obtain ⟨w_4, w_5, w_6, w_7, w_8, w_9, w_10⟩ := u_3
  try dsimp only at hw_2
  have hP : va_P D vwCl [(th, .inr (6, G6 ta tsize trule twords w_4 w_6 w_7 w_5)), ((ta 0), .inl (E 0, 120, .inl tf0)), (trule, .inr (4, G4 ua w_10)), ((ua 0), .inl (E 0, 120, .inl w_8)), ((ua 1), .inl (E 0, 120, .inl w_9))] H := hP
  have hD := toW hP hD rfl
  obtain ⟨hw_2_0, hw_2_1, hw_2_2⟩ := hw_2
  obtain ⟨hw_2_2r, hw_2_2k⟩ := hw_2_2
  refine lv_istore_n (lv' := [(2, .int r_1), (0, .ref th), (1, .int p0)]) hx hb dX6_readSum_5 rfl hl (by decide) rfl (fun ls hl => ?_)
  refine lv_iconst (v := 0) hx hb dX6_readSum_6 (by decide) ?_
  refine lv_istore_n (lv' := [(3, .int 0), (2, .int r_1), (0, .ref th), (1, .int p0)]) hx hb dX6_readSum_7 rfl hl (by decide) rfl (fun ls hl => ?_)
  have loop_11 : ∀ (N_13 : Nat) (L3_8 : Int32) (L2_8 : Int32) (tat_8 : Int32) (tword_8 : Int32) (twordAt_8 : Int32) (tvalue_8 : Int32) (usize_8 : Int32) (uf0_8 : Nat → Int32) (uf1_8 : Nat → Int32) (H : Heap) (locs : List Loc) (ls : Array Slot), 120 - L3_8.toInt < (N_13 : Int) → (0 ≤ usize_8.toInt ∧ usize_8.toInt ≤ 120) → (0 ≤ L3_8.toInt ∧ L3_8.toInt ≤ 120 ∧ 0 ≤ L2_8.toInt ∧ L2_8.toInt ≤ 1) → (0 ≤ tat_8.toInt ∧ tat_8.toInt ≤ tsize.toInt ∧ 0 ≤ twordAt_8.toInt ∧ twordAt_8.toInt ≤ tat_8.toInt) → (RKP sn sf tf0 (tsize).toNatClampNeg 5 6 p0.toInt L3_8.toInt tat twordAt tword tvalue usize uf0 uf1 tat_8 twordAt_8 tword_8 tvalue_8 usize_8 uf0_8 uf1_8 L2_8) → va_P D vwCl [(th, .inr (6, G6 ta tsize trule twords tat_8 tword_8 twordAt_8 tvalue_8)), ((ta 0), .inl (E 0, 120, .inl tf0)), (trule, .inr (4, G4 ua usize_8)), ((ua 0), .inl (E 0, 120, .inl uf0_8)), ((ua 1), .inl (E 0, 120, .inl uf1_8))] H → va_D A [(th, .inr (6, G6 ta tsize trule twords tat_8 tword_8 twordAt_8 tvalue_8)), ((ta 0), .inl (E 0, 120, .inl tf0)), (trule, .inr (4, G4 ua usize_8)), ((ua 0), .inl (E 0, 120, .inl uf0_8)), ((ua 1), .inl (E 0, 120, .inl uf1_8))] → va_S A s.heap H locs → lv_has ls 5 [(3, .int L3_8), (2, .int L2_8), (0, .ref th), (1, .int p0)] → W p l e (headSpec (wl yX6_readSum cX6_readSum 5 (some .boolean)) (RM (b + 3) 0 0)).room s m [Value.ref th, .int p0].toArray below meth c H locs 0 0 (MQ below (va_Qi (fun (r : Int32) (u : (Int32) × (Int32) × (Int32) × (Int32) × (Nat → Int32) × (Nat → Int32) × (Int32)) => (0 ≤ u.2.2.2.2.2.2.toInt ∧ u.2.2.2.2.2.2.toInt ≤ 120) ∧ (0 ≤ u.1.toInt ∧ u.1.toInt ≤ tsize.toInt ∧ 0 ≤ u.2.2.2.1.toInt ∧ u.2.2.2.1.toInt ≤ u.1.toInt) ∧ ((0 ≤ r.toInt ∧ r.toInt ≤ 1) ∧ RKP sn sf tf0 (tsize).toNatClampNeg 5 5 p0.toInt 0 tat twordAt tword tvalue usize uf0 uf1 u.1 u.2.2.2.1 u.2.2.1 u.2.1 u.2.2.2.2.2.2 u.2.2.2.2.1 u.2.2.2.2.2.1 r)) (mu_B D A (fun (u : (Int32) × (Int32) × (Int32) × (Int32) × (Nat → Int32) × (Nat → Int32) × (Int32)) => [(th, .inr (6, G6 ta tsize trule twords u.1 u.2.2.1 u.2.2.2.1 u.2.1)), ((ta 0), .inl (E 0, 120, .inl tf0)), (trule, .inr (4, G4 ua u.2.2.2.2.2.2)), ((ua 0), .inl (E 0, 120, .inl u.2.2.2.2.1)), ((ua 1), .inl (E 0, 120, .inl u.2.2.2.2.2.1))])) A) [Value.ref th, .int p0].toArray s 0 0 A) (F0 m 8 ls []) := by
    intro N_13
    induction N_13 with
    | zero => intro L3_8 L2_8 tat_8 tword_8 twordAt_8 tvalue_8 usize_8 uf0_8 uf1_8 H locs ls hm v_usize_8 v0_8 v1_8 v2_8 _ _ _ _; exfalso; omega
    | succ N_13 ih_12 =>
      intro L3_8 L2_8 tat_8 tword_8 twordAt_8 tvalue_8 usize_8 uf0_8 uf1_8 H locs ls hm v_usize_8 v0_8 v1_8 v2_8 hP hD hS hl
      have lo_L3_8 := i_lo L3_8; have hi_L3_8 := i_hi L3_8
      have lo_L2_8 := i_lo L2_8; have hi_L2_8 := i_hi L2_8
      have lo_tat_8 := i_lo tat_8; have hi_tat_8 := i_hi tat_8
      have lo_tword_8 := i_lo tword_8; have hi_tword_8 := i_hi tword_8
      have lo_twordAt_8 := i_lo twordAt_8; have hi_twordAt_8 := i_hi twordAt_8
      have lo_tvalue_8 := i_lo tvalue_8; have hi_tvalue_8 := i_hi tvalue_8
      have lo_usize_8 := i_lo usize_8; have hi_usize_8 := i_hi usize_8
      refine lv_iload_n hx hb dX6_readSum_8 rfl (lv_at hl 0 rfl) ?_
      refine lv_bipush (v := 120) hx hb dX6_readSum_9 (by decide) ?_
      refine lv_icmp_ge (tgt := 68) hx hb dX6_readSum_11 (by decide) (fun c_14 => ?_) (fun c_14 => ?_)
      ·
        have ic_14 : 120 ≤ L3_8.toInt := by first | exact (g_le t_120 rfl).mp c_14 | (have h := mt (g_lt rfl t_120).mpr c_14; omega)
        clear c_14
        refine lv_iload_n hx hb dX6_readSum_68 rfl (lv_at hl 1 rfl) ?_
        have hP9 := hP.sub (ws' := [(th, .inr (6, G6 ta tsize trule twords tat_8 tword_8 twordAt_8 tvalue_8)), ((ta 0), .inl (E 0, 120, .inl tf0)), (trule, .inr (4, G4 ua usize_8)), ((ua 0), .inl (E 0, 120, .inl uf0_8)), ((ua 1), .inl (E 0, 120, .inl uf1_8))]) [0, 1, 2, 3, 4] rfl
        have hD9 := hD.sub (ws' := [(th, .inr (6, G6 ta tsize trule twords tat_8 tword_8 twordAt_8 tvalue_8)), ((ta 0), .inl (E 0, 120, .inl tf0)), (trule, .inr (4, G4 ua usize_8)), ((ua 0), .inl (E 0, 120, .inl uf0_8)), ((ua 1), .inl (E 0, 120, .inl uf1_8))]) [0, 1, 2, 3, 4] (by decide) rfl
        exact W.zret (v := L2_8) hx hb hr (nar_z (by omega) (by omega)) (fun t ht hW => ⟨⟨L2_8, (tat_8, tvalue_8, tword_8, twordAt_8, uf0_8, uf1_8, usize_8), rfl, ⟨(by (try dsimp only); omega), (by (try dsimp only); omega), (by have hl4 := t_4; have hl5 := t_5; have hl6 := t_6; have hl7 := t_7; have hl8 := t_8; have hl40 := t_40; have hl41 := t_41; have hl42 := t_42; have hl43 := t_43; have hl45 := t_45; have hl47 := t_47; have hl60 := t_60; have hl61 := t_61; have hl62 := t_62; (try dsimp only); exact ⟨by omega, RK_end v2_8 (by unfold LVL; omega) (by omega) (by omega) (by have c0 := i_clamp0 (x := tsize) (by omega); omega)⟩)⟩, by rw [ht]; exact hP9, hD9⟩, hS.F ht⟩) hS.2.2 dX6_readSum_69
      ·
        have ic_14 : L3_8.toInt < 120 := by first | exact (g_lt rfl t_120).mp c_14 | (have h := mt (g_le t_120 rfl).mpr c_14; omega)
        clear c_14
        refine lv_iload_n hx hb dX6_readSum_14 rfl (lv_at hl 1 rfl) ?_
        refine lv_if_eq (tgt := 68) hx hb dX6_readSum_15 (by decide) (fun c_15 => ?_) (fun c_15 => ?_)
        ·
          have ic_15 : L2_8.toInt = 0 := (g_eq rfl t_0).mp c_15
          clear c_15
          refine lv_iload_n hx hb dX6_readSum_68 rfl (lv_at hl 1 rfl) ?_
          have hP9 := hP.sub (ws' := [(th, .inr (6, G6 ta tsize trule twords tat_8 tword_8 twordAt_8 tvalue_8)), ((ta 0), .inl (E 0, 120, .inl tf0)), (trule, .inr (4, G4 ua usize_8)), ((ua 0), .inl (E 0, 120, .inl uf0_8)), ((ua 1), .inl (E 0, 120, .inl uf1_8))]) [0, 1, 2, 3, 4] rfl
          have hD9 := hD.sub (ws' := [(th, .inr (6, G6 ta tsize trule twords tat_8 tword_8 twordAt_8 tvalue_8)), ((ta 0), .inl (E 0, 120, .inl tf0)), (trule, .inr (4, G4 ua usize_8)), ((ua 0), .inl (E 0, 120, .inl uf0_8)), ((ua 1), .inl (E 0, 120, .inl uf1_8))]) [0, 1, 2, 3, 4] (by decide) rfl
          exact W.zret (v := L2_8) hx hb hr (nar_z (by omega) (by omega)) (fun t ht hW => ⟨⟨L2_8, (tat_8, tvalue_8, tword_8, twordAt_8, uf0_8, uf1_8, usize_8), rfl, ⟨(by (try dsimp only); omega), (by (try dsimp only); omega), (by have hl4 := t_4; have hl5 := t_5; have hl6 := t_6; have hl7 := t_7; have hl8 := t_8; have hl40 := t_40; have hl41 := t_41; have hl42 := t_42; have hl43 := t_43; have hl45 := t_45; have hl47 := t_47; have hl60 := t_60; have hl61 := t_61; have hl62 := t_62; (try dsimp only); exact ⟨by omega, RK_end v2_8 (by unfold LVL; omega) (by omega) (by omega) (by have c0 := i_clamp0 (x := tsize) (by omega); omega)⟩)⟩, by rw [ht]; exact hP9, hD9⟩, hS.F ht⟩) hS.2.2 dX6_readSum_69
        ·
          have ic_15 : L2_8.toInt ≠ 0 := mt (g_eq rfl t_0).mpr c_15
          clear c_15
          refine lv_aload_n hx hb dX6_readSum_18 rfl (lv_at hl 2 rfl) ?_
          refine va_get (D := D) (ci := 6) (v := .int tword_8) (C := RX6) (T := TX6) (N := 8) hx hb htb iX6 hown hK.1 hP 0 rfl rfl 5 (by decide) (htb _ k_163) (fun _ h9 => h9) rfl dX6_readSum_19 ?_
          refine lv_bipush (v := 43) hx hb dX6_readSum_22 (by decide) ?_
          refine lv_icmp_eq (tgt := 36) hx hb dX6_readSum_24 (by decide) (fun c_16 => ?_) (fun c_16 => ?_)
          ·
            have ic_16 : tword_8.toInt = 43 := (g_eq rfl t_43).mp c_16
            clear c_16
            refine lv_aload_n hx hb dX6_readSum_36 rfl (lv_at hl 2 rfl) ?_
            refine va_get (D := D) (ci := 6) (v := .int tword_8) (C := RX6) (T := TX6) (N := 8) hx hb htb iX6 hown hK.1 hP 0 rfl rfl 5 (by decide) (htb _ k_163) (fun _ h9 => h9) rfl dX6_readSum_37 ?_
            refine lv_istore (lv' := [(4, .int tword_8), (3, .int L3_8), (2, .int L2_8), (0, .ref th), (1, .int p0)]) hx hb dX6_readSum_40 hl (by decide) rfl (fun ls hl => ?_)
            refine lv_aload_n hx hb dX6_readSum_42 rfl (lv_at hl 3 rfl) ?_
            have hPc := hP.sub (ws' := [(th, .inr (6, G6 ta tsize trule twords tat_8 tword_8 twordAt_8 tvalue_8)), ((ta 0), .inl (E 0, 120, .inl tf0))]) [0, 1] rfl
            have hDc := hD.sub (ws' := [(th, .inr (6, G6 ta tsize trule twords tat_8 tword_8 twordAt_8 tvalue_8)), ((ta 0), .inl (E 0, 120, .inl tf0))]) [0, 1] (by decide) rfl
            refine aft_v (runMG (rest := []) (As := []) hx hb hml hown htb (g_X6_goOn l D E th ta tsize trule twords tat_8 tword_8 twordAt_8 tvalue_8 tf0 sv sn sf _ (by (try dsimp only); omega) hsn (by (try dsimp only); omega) g1) ok_X6_goOn k_591 k_593 ks_11 k_5 k_594 ⟨show 7 + 1 ≤ b + 3 from by omega, show 8 + (1 + 11) + 40 * (7) ≤ 40 * (b + 3) from by omega⟩ ⟨(Nat.le_of_ble_eq_true rfl), (Nat.le_of_ble_eq_true rfl)⟩ hl.1 (Nat.le_of_ble_eq_true rfl) rfl rfl dX6_readSum_43 (pmVS hPc hDc hK rfl rfl 0 rfl hG hS (va_free hD hS hA [0, 1] rfl))) hP hD hS hA [0, 1] [2, 3, 4] (wr := [(trule, .inr (4, G4 ua usize_8)), ((ua 0), .inl (E 0, 120, .inl uf0_8)), ((ua 1), .inl (E 0, 120, .inl uf1_8))]) rfl rfl (by decide) (by decide) (fun u_19 H locs hw_18 hP hD hS => ?_)
            clear hPc hDc
            obtain ⟨w_20, w_21, w_22, w_23⟩ := u_19
            try dsimp only at hw_18
            have hP : va_P D vwCl [(trule, .inr (4, G4 ua usize_8)), ((ua 0), .inl (E 0, 120, .inl uf0_8)), ((ua 1), .inl (E 0, 120, .inl uf1_8)), (th, .inr (6, G6 ta tsize trule twords w_20 w_22 w_23 w_21)), ((ta 0), .inl (E 0, 120, .inl tf0))] H := hP
            have hD := toW hP hD rfl
            obtain ⟨hw_18_0, hw_18_1⟩ := hw_18
            refine lv_aload_n hx hb dX6_readSum_46 rfl (lv_at hl 3 rfl) ?_
            refine lv_iload_n hx hb dX6_readSum_47 rfl (lv_at hl 4 rfl) ?_
            have hPc := hP.sub (ws' := [(th, .inr (6, G6 ta tsize trule twords w_20 w_22 w_23 w_21)), ((ta 0), .inl (E 0, 120, .inl tf0)), (trule, .inr (4, G4 ua usize_8)), ((ua 0), .inl (E 0, 120, .inl uf0_8)), ((ua 1), .inl (E 0, 120, .inl uf1_8))]) [3, 4, 0, 1, 2] rfl
            have hDc := hD.sub (ws' := [(th, .inr (6, G6 ta tsize trule twords w_20 w_22 w_23 w_21)), ((ta 0), .inl (E 0, 120, .inl tf0)), (trule, .inr (4, G4 ua usize_8)), ((ua 0), .inl (E 0, 120, .inl uf0_8)), ((ua 1), .inl (E 0, 120, .inl uf1_8))]) [3, 4, 0, 1, 2] (by decide) rfl
            refine aft_i (runMG (rest := []) (As := [.int p0]) hx hb hml hown htb ((hX) D E th ta tsize trule twords w_20 w_22 w_23 w_21 tf0 ua usize_8 uf0_8 uf1_8 sv sn sf _ (by (try dsimp only); omega) (by (try dsimp only); omega) hsn (by (try dsimp only); omega) g1) ok_X6_readProduct k_688 k_690 ks_21 k_5 k_691 ⟨show b + 2 + 1 ≤ b + 3 from by omega, show 8 + (5 + 11) + 40 * (b + 2) ≤ 40 * (b + 3) from by omega⟩ ⟨(Nat.le_of_ble_eq_true rfl), (Nat.le_of_ble_eq_true rfl)⟩ hl.1 (Nat.le_of_ble_eq_true rfl) rfl rfl dX6_readSum_48 (pmVS hPc hDc hK rfl rfl 0 rfl hG hS (va_free hD hS hA [3, 4, 0, 1, 2] rfl))) hP hD hS hA [3, 4, 0, 1, 2] [] (wr := ([] : va_W)) rfl rfl (by decide) (by decide) (fun r_24 u_26 H locs hw_25 hP hD hS => ?_)
            clear hPc hDc
            obtain ⟨w_27, w_28, w_29, w_30, w_31, w_32, w_33⟩ := u_26
            try dsimp only at hw_25
            have hP : va_P D vwCl [(th, .inr (6, G6 ta tsize trule twords w_27 w_29 w_30 w_28)), ((ta 0), .inl (E 0, 120, .inl tf0)), (trule, .inr (4, G4 ua w_33)), ((ua 0), .inl (E 0, 120, .inl w_31)), ((ua 1), .inl (E 0, 120, .inl w_32))] H := hP
            have hD := toW hP hD rfl
            obtain ⟨hw_25_0, hw_25_1, hw_25_2⟩ := hw_25
            obtain ⟨hw_25_2r, hw_25_2k⟩ := hw_25_2
            refine lv_istore_n (lv' := [(2, .int r_24), (4, .int tword_8), (3, .int L3_8), (0, .ref th), (1, .int p0)]) hx hb dX6_readSum_51 rfl hl (by decide) rfl (fun ls hl => ?_)
            refine lv_aload_n hx hb dX6_readSum_52 rfl (lv_at hl 3 rfl) ?_
            refine va_get (D := D) (ci := 6) (v := .ref trule) (C := RX6) (T := TX6) (N := 8) hx hb htb iX6 hown hK.1 hP 0 rfl rfl 2 (by decide) (htb _ k_160) (fun _ h9 => h9) rfl dX6_readSum_53 ?_
            refine lv_iload hx hb dX6_readSum_56 (lv_at hl 1 rfl) ?_
            refine lv_iconst (v := 0) hx hb dX6_readSum_58 (by decide) ?_
            have hPc := hP.sub (ws' := [(trule, .inr (4, G4 ua w_33)), ((ua 0), .inl (E 0, 120, .inl w_31)), ((ua 1), .inl (E 0, 120, .inl w_32))]) [2, 3, 4] rfl
            have hDc := hD.sub (ws' := [(trule, .inr (4, G4 ua w_33)), ((ua 0), .inl (E 0, 120, .inl w_31)), ((ua 1), .inl (E 0, 120, .inl w_32))]) [2, 3, 4] (by decide) rfl
            refine aft_v (runMV (rest := []) (As := [.int tword_8, .int 0]) hx hb hml hown htb hK (g_X4_add l D E trule ua w_33 w_31 w_32 tword_8 0 _ (by (try dsimp only); omega)) ok_X4_add k_696 k_697 k_698 k_6 k_699 ⟨show 0 + 1 ≤ b + 3 from by omega, show 8 + (3 + 11) + 40 * (0) ≤ 40 * (b + 3) from by omega⟩ ⟨(Nat.le_of_ble_eq_true rfl), (Nat.le_of_ble_eq_true rfl)⟩ hl.1 (Nat.le_of_ble_eq_true rfl) rfl rfl dX6_readSum_59 hPc hDc rfl rfl 0 rfl) hP hD hS hA [2, 3, 4] [0, 1] (wr := [(th, .inr (6, G6 ta tsize trule twords w_27 w_29 w_30 w_28)), ((ta 0), .inl (E 0, 120, .inl tf0))]) rfl rfl (by decide) (by decide) (fun u_36 H locs hw_35 hP hD hS => ?_)
            clear hPc hDc
            obtain ⟨w_37, w_38, w_39⟩ := u_36
            try dsimp only at hw_35
            have hP : va_P D vwCl [(th, .inr (6, G6 ta tsize trule twords w_27 w_29 w_30 w_28)), ((ta 0), .inl (E 0, 120, .inl tf0)), (trule, .inr (4, G4 ua w_39)), ((ua 0), .inl (E 0, 120, .inl w_37)), ((ua 1), .inl (E 0, 120, .inl w_38))] H := hP
            have hD := toW hP hD rfl
            obtain ⟨hw_35_0, hw_35_1⟩ := hw_35
            try simp only [t_0] at hw_35_0
            try simp only [t_0] at hw_35_1
            obtain ⟨z_40, ez_40⟩ : ∃ y : Int32, y = L3_8 + 1 := ⟨_, rfl⟩
            have jz_40 : z_40.toInt = L3_8.toInt + 1 := by rw [ez_40]; exact g_add rfl t_1 (by omega) (by omega)
            refine lv_iinc (v := z_40) (lv' := [(3, .int z_40), (2, .int r_24), (4, .int tword_8), (0, .ref th), (1, .int p0)]) hx hb dX6_readSum_62 hl (k := 2) rfl (by rw [ez_40]; rfl) (by decide) rfl (fun ls hl => ?_)
            refine lv_goto (tgt := 8) hx hb dX6_readSum_65 (by decide) ?_
            exact ih_12 z_40 r_24 w_27 w_29 w_30 w_28 w_39 w_37 w_38 _ _ _ (by (try dsimp only); omega) (by (try dsimp only); omega) (by (try dsimp only); omega) (by (try dsimp only); omega) (by have hl := t_0; have hl4 := t_4; have hl5 := t_5; have hl6 := t_6; have hl7 := t_7; have hl8 := t_8; have hl40 := t_40; have hl41 := t_41; have hl42 := t_42; have hl43 := t_43; have hl45 := t_45; have hl47 := t_47; have hl60 := t_60; have hl61 := t_61; have hl62 := t_62; exact RKP_i (RK_rnd v2_8 (by omega) (by omega) hw_18_1 hw_25_2k hw_35_1 (by omega) (by omega) (by have c0 := i_clamp0 (x := tsize) (by omega); omega)) (by omega)) hP hD hS (lv_sub hl [0, 1, 3, 4] rfl)
          ·
            have ic_16 : tword_8.toInt ≠ 43 := mt (g_eq rfl t_43).mpr c_16
            clear c_16
            refine lv_aload_n hx hb dX6_readSum_27 rfl (lv_at hl 2 rfl) ?_
            refine va_get (D := D) (ci := 6) (v := .int tword_8) (C := RX6) (T := TX6) (N := 8) hx hb htb iX6 hown hK.1 hP 0 rfl rfl 5 (by decide) (htb _ k_163) (fun _ h9 => h9) rfl dX6_readSum_28 ?_
            refine lv_bipush (v := 45) hx hb dX6_readSum_31 (by decide) ?_
            refine lv_icmp_ne (tgt := 68) hx hb dX6_readSum_33 (by decide) (fun c_41 => ?_) (fun c_41 => ?_)
            ·
              have ic_41 : tword_8.toInt ≠ 45 := mt (g_eq rfl t_45).mpr c_41
              clear c_41
              refine lv_iload_n hx hb dX6_readSum_68 rfl (lv_at hl 1 rfl) ?_
              have hP9 := hP.sub (ws' := [(th, .inr (6, G6 ta tsize trule twords tat_8 tword_8 twordAt_8 tvalue_8)), ((ta 0), .inl (E 0, 120, .inl tf0)), (trule, .inr (4, G4 ua usize_8)), ((ua 0), .inl (E 0, 120, .inl uf0_8)), ((ua 1), .inl (E 0, 120, .inl uf1_8))]) [0, 1, 2, 3, 4] rfl
              have hD9 := hD.sub (ws' := [(th, .inr (6, G6 ta tsize trule twords tat_8 tword_8 twordAt_8 tvalue_8)), ((ta 0), .inl (E 0, 120, .inl tf0)), (trule, .inr (4, G4 ua usize_8)), ((ua 0), .inl (E 0, 120, .inl uf0_8)), ((ua 1), .inl (E 0, 120, .inl uf1_8))]) [0, 1, 2, 3, 4] (by decide) rfl
              exact W.zret (v := L2_8) hx hb hr (nar_z (by omega) (by omega)) (fun t ht hW => ⟨⟨L2_8, (tat_8, tvalue_8, tword_8, twordAt_8, uf0_8, uf1_8, usize_8), rfl, ⟨(by (try dsimp only); omega), (by (try dsimp only); omega), (by have hl4 := t_4; have hl5 := t_5; have hl6 := t_6; have hl7 := t_7; have hl8 := t_8; have hl40 := t_40; have hl41 := t_41; have hl42 := t_42; have hl43 := t_43; have hl45 := t_45; have hl47 := t_47; have hl60 := t_60; have hl61 := t_61; have hl62 := t_62; (try dsimp only); exact ⟨by omega, RK_end v2_8 (by unfold LVL; omega) (by omega) (by omega) (by have c0 := i_clamp0 (x := tsize) (by omega); omega)⟩)⟩, by rw [ht]; exact hP9, hD9⟩, hS.F ht⟩) hS.2.2 dX6_readSum_69
            ·
              have ic_41 : tword_8.toInt = 45 := (g_eq rfl t_45).mp c_41
              clear c_41
              refine lv_aload_n hx hb dX6_readSum_36 rfl (lv_at hl 2 rfl) ?_
              refine va_get (D := D) (ci := 6) (v := .int tword_8) (C := RX6) (T := TX6) (N := 8) hx hb htb iX6 hown hK.1 hP 0 rfl rfl 5 (by decide) (htb _ k_163) (fun _ h9 => h9) rfl dX6_readSum_37 ?_
              refine lv_istore (lv' := [(4, .int tword_8), (3, .int L3_8), (2, .int L2_8), (0, .ref th), (1, .int p0)]) hx hb dX6_readSum_40 hl (by decide) rfl (fun ls hl => ?_)
              refine lv_aload_n hx hb dX6_readSum_42 rfl (lv_at hl 3 rfl) ?_
              have hPc := hP.sub (ws' := [(th, .inr (6, G6 ta tsize trule twords tat_8 tword_8 twordAt_8 tvalue_8)), ((ta 0), .inl (E 0, 120, .inl tf0))]) [0, 1] rfl
              have hDc := hD.sub (ws' := [(th, .inr (6, G6 ta tsize trule twords tat_8 tword_8 twordAt_8 tvalue_8)), ((ta 0), .inl (E 0, 120, .inl tf0))]) [0, 1] (by decide) rfl
              refine aft_v (runMG (rest := []) (As := []) hx hb hml hown htb (g_X6_goOn l D E th ta tsize trule twords tat_8 tword_8 twordAt_8 tvalue_8 tf0 sv sn sf _ (by (try dsimp only); omega) hsn (by (try dsimp only); omega) g1) ok_X6_goOn k_591 k_593 ks_11 k_5 k_594 ⟨show 7 + 1 ≤ b + 3 from by omega, show 8 + (1 + 11) + 40 * (7) ≤ 40 * (b + 3) from by omega⟩ ⟨(Nat.le_of_ble_eq_true rfl), (Nat.le_of_ble_eq_true rfl)⟩ hl.1 (Nat.le_of_ble_eq_true rfl) rfl rfl dX6_readSum_43 (pmVS hPc hDc hK rfl rfl 0 rfl hG hS (va_free hD hS hA [0, 1] rfl))) hP hD hS hA [0, 1] [2, 3, 4] (wr := [(trule, .inr (4, G4 ua usize_8)), ((ua 0), .inl (E 0, 120, .inl uf0_8)), ((ua 1), .inl (E 0, 120, .inl uf1_8))]) rfl rfl (by decide) (by decide) (fun u_44 H locs hw_43 hP hD hS => ?_)
              clear hPc hDc
              obtain ⟨w_45, w_46, w_47, w_48⟩ := u_44
              try dsimp only at hw_43
              have hP : va_P D vwCl [(trule, .inr (4, G4 ua usize_8)), ((ua 0), .inl (E 0, 120, .inl uf0_8)), ((ua 1), .inl (E 0, 120, .inl uf1_8)), (th, .inr (6, G6 ta tsize trule twords w_45 w_47 w_48 w_46)), ((ta 0), .inl (E 0, 120, .inl tf0))] H := hP
              have hD := toW hP hD rfl
              obtain ⟨hw_43_0, hw_43_1⟩ := hw_43
              refine lv_aload_n hx hb dX6_readSum_46 rfl (lv_at hl 3 rfl) ?_
              refine lv_iload_n hx hb dX6_readSum_47 rfl (lv_at hl 4 rfl) ?_
              have hPc := hP.sub (ws' := [(th, .inr (6, G6 ta tsize trule twords w_45 w_47 w_48 w_46)), ((ta 0), .inl (E 0, 120, .inl tf0)), (trule, .inr (4, G4 ua usize_8)), ((ua 0), .inl (E 0, 120, .inl uf0_8)), ((ua 1), .inl (E 0, 120, .inl uf1_8))]) [3, 4, 0, 1, 2] rfl
              have hDc := hD.sub (ws' := [(th, .inr (6, G6 ta tsize trule twords w_45 w_47 w_48 w_46)), ((ta 0), .inl (E 0, 120, .inl tf0)), (trule, .inr (4, G4 ua usize_8)), ((ua 0), .inl (E 0, 120, .inl uf0_8)), ((ua 1), .inl (E 0, 120, .inl uf1_8))]) [3, 4, 0, 1, 2] (by decide) rfl
              refine aft_i (runMG (rest := []) (As := [.int p0]) hx hb hml hown htb ((hX) D E th ta tsize trule twords w_45 w_47 w_48 w_46 tf0 ua usize_8 uf0_8 uf1_8 sv sn sf _ (by (try dsimp only); omega) (by (try dsimp only); omega) hsn (by (try dsimp only); omega) g1) ok_X6_readProduct k_688 k_690 ks_21 k_5 k_691 ⟨show b + 2 + 1 ≤ b + 3 from by omega, show 8 + (5 + 11) + 40 * (b + 2) ≤ 40 * (b + 3) from by omega⟩ ⟨(Nat.le_of_ble_eq_true rfl), (Nat.le_of_ble_eq_true rfl)⟩ hl.1 (Nat.le_of_ble_eq_true rfl) rfl rfl dX6_readSum_48 (pmVS hPc hDc hK rfl rfl 0 rfl hG hS (va_free hD hS hA [3, 4, 0, 1, 2] rfl))) hP hD hS hA [3, 4, 0, 1, 2] [] (wr := ([] : va_W)) rfl rfl (by decide) (by decide) (fun r_49 u_51 H locs hw_50 hP hD hS => ?_)
              clear hPc hDc
              obtain ⟨w_52, w_53, w_54, w_55, w_56, w_57, w_58⟩ := u_51
              try dsimp only at hw_50
              have hP : va_P D vwCl [(th, .inr (6, G6 ta tsize trule twords w_52 w_54 w_55 w_53)), ((ta 0), .inl (E 0, 120, .inl tf0)), (trule, .inr (4, G4 ua w_58)), ((ua 0), .inl (E 0, 120, .inl w_56)), ((ua 1), .inl (E 0, 120, .inl w_57))] H := hP
              have hD := toW hP hD rfl
              obtain ⟨hw_50_0, hw_50_1, hw_50_2⟩ := hw_50
              obtain ⟨hw_50_2r, hw_50_2k⟩ := hw_50_2
              refine lv_istore_n (lv' := [(2, .int r_49), (4, .int tword_8), (3, .int L3_8), (0, .ref th), (1, .int p0)]) hx hb dX6_readSum_51 rfl hl (by decide) rfl (fun ls hl => ?_)
              refine lv_aload_n hx hb dX6_readSum_52 rfl (lv_at hl 3 rfl) ?_
              refine va_get (D := D) (ci := 6) (v := .ref trule) (C := RX6) (T := TX6) (N := 8) hx hb htb iX6 hown hK.1 hP 0 rfl rfl 2 (by decide) (htb _ k_160) (fun _ h9 => h9) rfl dX6_readSum_53 ?_
              refine lv_iload hx hb dX6_readSum_56 (lv_at hl 1 rfl) ?_
              refine lv_iconst (v := 0) hx hb dX6_readSum_58 (by decide) ?_
              have hPc := hP.sub (ws' := [(trule, .inr (4, G4 ua w_58)), ((ua 0), .inl (E 0, 120, .inl w_56)), ((ua 1), .inl (E 0, 120, .inl w_57))]) [2, 3, 4] rfl
              have hDc := hD.sub (ws' := [(trule, .inr (4, G4 ua w_58)), ((ua 0), .inl (E 0, 120, .inl w_56)), ((ua 1), .inl (E 0, 120, .inl w_57))]) [2, 3, 4] (by decide) rfl
              refine aft_v (runMV (rest := []) (As := [.int tword_8, .int 0]) hx hb hml hown htb hK (g_X4_add l D E trule ua w_58 w_56 w_57 tword_8 0 _ (by (try dsimp only); omega)) ok_X4_add k_696 k_697 k_698 k_6 k_699 ⟨show 0 + 1 ≤ b + 3 from by omega, show 8 + (3 + 11) + 40 * (0) ≤ 40 * (b + 3) from by omega⟩ ⟨(Nat.le_of_ble_eq_true rfl), (Nat.le_of_ble_eq_true rfl)⟩ hl.1 (Nat.le_of_ble_eq_true rfl) rfl rfl dX6_readSum_59 hPc hDc rfl rfl 0 rfl) hP hD hS hA [2, 3, 4] [0, 1] (wr := [(th, .inr (6, G6 ta tsize trule twords w_52 w_54 w_55 w_53)), ((ta 0), .inl (E 0, 120, .inl tf0))]) rfl rfl (by decide) (by decide) (fun u_61 H locs hw_60 hP hD hS => ?_)
              clear hPc hDc
              obtain ⟨w_62, w_63, w_64⟩ := u_61
              try dsimp only at hw_60
              have hP : va_P D vwCl [(th, .inr (6, G6 ta tsize trule twords w_52 w_54 w_55 w_53)), ((ta 0), .inl (E 0, 120, .inl tf0)), (trule, .inr (4, G4 ua w_64)), ((ua 0), .inl (E 0, 120, .inl w_62)), ((ua 1), .inl (E 0, 120, .inl w_63))] H := hP
              have hD := toW hP hD rfl
              obtain ⟨hw_60_0, hw_60_1⟩ := hw_60
              try simp only [t_0] at hw_60_0
              try simp only [t_0] at hw_60_1
              obtain ⟨z_65, ez_65⟩ : ∃ y : Int32, y = L3_8 + 1 := ⟨_, rfl⟩
              have jz_65 : z_65.toInt = L3_8.toInt + 1 := by rw [ez_65]; exact g_add rfl t_1 (by omega) (by omega)
              refine lv_iinc (v := z_65) (lv' := [(3, .int z_65), (2, .int r_49), (4, .int tword_8), (0, .ref th), (1, .int p0)]) hx hb dX6_readSum_62 hl (k := 2) rfl (by rw [ez_65]; rfl) (by decide) rfl (fun ls hl => ?_)
              refine lv_goto (tgt := 8) hx hb dX6_readSum_65 (by decide) ?_
              exact ih_12 z_65 r_49 w_52 w_54 w_55 w_53 w_64 w_62 w_63 _ _ _ (by (try dsimp only); omega) (by (try dsimp only); omega) (by (try dsimp only); omega) (by (try dsimp only); omega) (by have hl := t_0; have hl4 := t_4; have hl5 := t_5; have hl6 := t_6; have hl7 := t_7; have hl8 := t_8; have hl40 := t_40; have hl41 := t_41; have hl42 := t_42; have hl43 := t_43; have hl45 := t_45; have hl47 := t_47; have hl60 := t_60; have hl61 := t_61; have hl62 := t_62; exact RKP_i (RK_rnd v2_8 (by omega) (by omega) hw_43_1 hw_50_2k hw_60_1 (by omega) (by omega) (by have c0 := i_clamp0 (x := tsize) (by omega); omega)) (by omega)) hP hD hS (lv_sub hl [0, 1, 3, 4] rfl)
  exact loop_11 121 0 r_1 w_4 w_6 w_7 w_5 w_10 w_8 w_9 _ _ _ (by have h0 := t_0; (try dsimp only); omega) (by (try dsimp only); omega) (by have h0 := t_0; (try dsimp only); omega) (by have h0 := t_0; (try dsimp only); omega) (RKP_i (RK_up (by unfold LVL; omega) hw_2_2k) t_0.symm) hP hD hS (lv_sub hl [0, 1, 2, 3] rfl)
set_option maxHeartbeats 4000000 in
set_option maxRecDepth 100000 in
theorem g_X6_readComparison (l : Launch) (b : Nat) (p0 : Int32) (hb8 : 8 ≤ b) (h15 : 0 ≤ p0.toInt ∧ p0.toInt ≤ 15) (hX : M_X6_readSum l (b) p0) : M_X6_readComparison l (b) p0 := by
  intro D E th ta tsize trule twords tat tword twordAt tvalue tf0 ua usize uf0 uf1 sv sn sf sz hi_t hi_u hsn g0 g1
  refine Met.ofW (cc := cX6_readComparison) (maxL := 4) (ret := (some .boolean)) (by decide) rfl ?_
  intro p e s m args below meth c s₁ B hml hv
  obtain ⟨rfl, hsz, hP, hK, hD0, hG⟩ := hv
  have hx := B.exec; have hb := B.bytes; have hr := B.returns
  have hts := atoms_spec (ws := wl yX6_readComparison cX6_readComparison 4 (some .boolean)) B.pre
  have htb : ∀ w ∈ tb, w.before _ s = true := fun w h => hts w (List.mem_cons_of_mem _ h)
  have hown : s.vm.findClass RX6 = some m.cls := findClass_of_methodNamed B.named
  have hlocks := B.notSynchronized
  subst hsz
  have hD := hD0.self (sz := s.heap.size)
  generalize hAe : va_A [(th, .inr (6, G6 ta tsize trule twords tat tword twordAt tvalue)), ((ta 0), .inl (E 0, 120, .inl tf0)), (trule, .inr (4, G4 ua usize)), ((ua 0), .inl (E 0, 120, .inl uf0)), ((ua 1), .inl (E 0, 120, .inl uf1))] s.heap.size = A at hD hG ⊢
  have hA : ∀ q : Nat, s.heap.size ≤ q → A q := fun q h => by rw [← hAe]; exact Or.inr h
  have hS : va_S A s.heap s.heap [] := va_S.rf
  have hP : va_P D vwCl [(th, .inr (6, G6 ta tsize trule twords tat tword twordAt tvalue)), ((ta 0), .inl (E 0, 120, .inl tf0)), (trule, .inr (4, G4 ua usize)), ((ua 0), .inl (E 0, 120, .inl uf0)), ((ua 1), .inl (E 0, 120, .inl uf1))] s.heap := hP
  have hl := lv_entry ([.ref th, .int p0]) (n := 4) (Nat.le_of_ble_eq_true rfl)
  rw [lg_entry_eq]
  generalize (lg_sl ([.ref th, .int p0]) ++ List.replicate (4 - (lg_sl ([.ref th, .int p0])).length) Slot.unset).toArray = ls at hl ⊢
  have hl : lv_has ls 4 [(0, .ref th), (1, .int p0)] := hl
  have lo_p0 := i_lo p0; have hi_p0 := i_hi p0
  refine lv_aload_n hx hb dX6_readComparison_0 rfl (lv_at hl 0 rfl) ?_
  refine lv_iload_n hx hb dX6_readComparison_1 rfl (lv_at hl 1 rfl) ?_
  have hPc := hP.sub (ws' := [(th, .inr (6, G6 ta tsize trule twords tat tword twordAt tvalue)), ((ta 0), .inl (E 0, 120, .inl tf0)), (trule, .inr (4, G4 ua usize)), ((ua 0), .inl (E 0, 120, .inl uf0)), ((ua 1), .inl (E 0, 120, .inl uf1))]) [0, 1, 2, 3, 4] rfl
  have hDc := hD.sub (ws' := [(th, .inr (6, G6 ta tsize trule twords tat tword twordAt tvalue)), ((ta 0), .inl (E 0, 120, .inl tf0)), (trule, .inr (4, G4 ua usize)), ((ua 0), .inl (E 0, 120, .inl uf0)), ((ua 1), .inl (E 0, 120, .inl uf1))]) [0, 1, 2, 3, 4] (by decide) rfl
  refine aft_i (runMG (rest := []) (As := [.int p0]) hx hb hml hown htb ((hX) D E th ta tsize trule twords tat tword twordAt tvalue tf0 ua usize uf0 uf1 sv sn sf _ (by (try dsimp only); omega) (by (try dsimp only); omega) hsn (by (try dsimp only); omega) g1) ok_X6_readSum k_684 k_686 ks_20 k_5 k_687 ⟨show b + 3 + 1 ≤ b + 4 from by omega, show 8 + (5 + 11) + 40 * (b + 3) ≤ 40 * (b + 4) from by omega⟩ ⟨(Nat.le_of_ble_eq_true rfl), (Nat.le_of_ble_eq_true rfl)⟩ hl.1 (Nat.le_of_ble_eq_true rfl) rfl rfl dX6_readComparison_2 (pmVS hPc hDc hK rfl rfl 0 rfl hG hS (va_free hD hS hA [0, 1, 2, 3, 4] rfl))) hP hD hS hA [0, 1, 2, 3, 4] [] (wr := ([] : va_W)) rfl rfl (by decide) (by decide) (fun r_1 u_3 H locs hw_2 hP hD hS => ?_)
  clear hPc hDc
  obtain ⟨w_4, w_5, w_6, w_7, w_8, w_9, w_10⟩ := u_3
  try dsimp only at hw_2
  have hP : va_P D vwCl [(th, .inr (6, G6 ta tsize trule twords w_4 w_6 w_7 w_5)), ((ta 0), .inl (E 0, 120, .inl tf0)), (trule, .inr (4, G4 ua w_10)), ((ua 0), .inl (E 0, 120, .inl w_8)), ((ua 1), .inl (E 0, 120, .inl w_9))] H := hP
  have hD := toW hP hD rfl
  obtain ⟨hw_2_0, hw_2_1, hw_2_2⟩ := hw_2
  obtain ⟨hw_2_2r, hw_2_2k⟩ := hw_2_2
  refine lv_istore_n (lv' := [(2, .int r_1), (0, .ref th), (1, .int p0)]) hx hb dX6_readComparison_5 rfl hl (by decide) rfl (fun ls hl => ?_)
  refine lv_iload_n hx hb dX6_readComparison_6 rfl (lv_at hl 0 rfl) ?_
  refine lv_if_eq (tgt := 61) hx hb dX6_readComparison_7 (by decide) (fun c_11 => ?_) (fun c_11 => ?_)
  ·
    have ic_11 : r_1.toInt = 0 := (g_eq rfl t_0).mp c_11
    clear c_11
    refine lv_iload_n hx hb dX6_readComparison_61 rfl (lv_at hl 0 rfl) ?_
    have hP9 := hP.sub (ws' := [(th, .inr (6, G6 ta tsize trule twords w_4 w_6 w_7 w_5)), ((ta 0), .inl (E 0, 120, .inl tf0)), (trule, .inr (4, G4 ua w_10)), ((ua 0), .inl (E 0, 120, .inl w_8)), ((ua 1), .inl (E 0, 120, .inl w_9))]) [0, 1, 2, 3, 4] rfl
    have hD9 := hD.sub (ws' := [(th, .inr (6, G6 ta tsize trule twords w_4 w_6 w_7 w_5)), ((ta 0), .inl (E 0, 120, .inl tf0)), (trule, .inr (4, G4 ua w_10)), ((ua 0), .inl (E 0, 120, .inl w_8)), ((ua 1), .inl (E 0, 120, .inl w_9))]) [0, 1, 2, 3, 4] (by decide) rfl
    exact W.zret (v := r_1) hx hb hr (nar_z (by omega) (by omega)) (fun t ht hW => ⟨⟨r_1, (w_4, w_5, w_6, w_7, w_8, w_9, w_10), rfl, ⟨(by (try dsimp only); omega), (by (try dsimp only); omega), (by have hl4 := t_4; have hl5 := t_5; have hl6 := t_6; have hl7 := t_7; have hl8 := t_8; have hl40 := t_40; have hl41 := t_41; have hl42 := t_42; have hl43 := t_43; have hl45 := t_45; have hl47 := t_47; have hl60 := t_60; have hl61 := t_61; have hl62 := t_62; (try dsimp only); exact ⟨by omega, RC_no hw_2_2k (by omega)⟩)⟩, by rw [ht]; exact hP9, hD9⟩, hS.F ht⟩) hS.2.2 dX6_readComparison_62
  ·
    have ic_11 : r_1.toInt ≠ 0 := mt (g_eq rfl t_0).mpr c_11
    clear c_11
    refine lv_aload_n hx hb dX6_readComparison_10 rfl (lv_at hl 1 rfl) ?_
    refine va_get (D := D) (ci := 6) (v := .int w_6) (C := RX6) (T := TX6) (N := 8) hx hb htb iX6 hown hK.1 hP 0 rfl rfl 5 (by decide) (htb _ k_163) (fun _ h9 => h9) rfl dX6_readComparison_11 ?_
    refine lv_bipush (v := 60) hx hb dX6_readComparison_14 (by decide) ?_
    refine lv_icmp_eq (tgt := 37) hx hb dX6_readComparison_16 (by decide) (fun c_12 => ?_) (fun c_12 => ?_)
    ·
      have ic_12 : w_6.toInt = 60 := (g_eq rfl t_60).mp c_12
      clear c_12
      refine lv_aload_n hx hb dX6_readComparison_37 rfl (lv_at hl 1 rfl) ?_
      refine va_get (D := D) (ci := 6) (v := .int w_6) (C := RX6) (T := TX6) (N := 8) hx hb htb iX6 hown hK.1 hP 0 rfl rfl 5 (by decide) (htb _ k_163) (fun _ h9 => h9) rfl dX6_readComparison_38 ?_
      refine lv_istore_n (lv' := [(3, .int w_6), (2, .int r_1), (0, .ref th), (1, .int p0)]) hx hb dX6_readComparison_41 rfl hl (by decide) rfl (fun ls hl => ?_)
      refine lv_aload_n hx hb dX6_readComparison_42 rfl (lv_at hl 2 rfl) ?_
      have hPc := hP.sub (ws' := [(th, .inr (6, G6 ta tsize trule twords w_4 w_6 w_7 w_5)), ((ta 0), .inl (E 0, 120, .inl tf0))]) [0, 1] rfl
      have hDc := hD.sub (ws' := [(th, .inr (6, G6 ta tsize trule twords w_4 w_6 w_7 w_5)), ((ta 0), .inl (E 0, 120, .inl tf0))]) [0, 1] (by decide) rfl
      refine aft_v (runMG (rest := []) (As := []) hx hb hml hown htb (g_X6_goOn l D E th ta tsize trule twords w_4 w_6 w_7 w_5 tf0 sv sn sf _ (by (try dsimp only); omega) hsn (by (try dsimp only); omega) g1) ok_X6_goOn k_591 k_593 ks_11 k_5 k_594 ⟨show 7 + 1 ≤ b + 4 from by omega, show 8 + (1 + 11) + 40 * (7) ≤ 40 * (b + 4) from by omega⟩ ⟨(Nat.le_of_ble_eq_true rfl), (Nat.le_of_ble_eq_true rfl)⟩ hl.1 (Nat.le_of_ble_eq_true rfl) rfl rfl dX6_readComparison_43 (pmVS hPc hDc hK rfl rfl 0 rfl hG hS (va_free hD hS hA [0, 1] rfl))) hP hD hS hA [0, 1] [2, 3, 4] (wr := [(trule, .inr (4, G4 ua w_10)), ((ua 0), .inl (E 0, 120, .inl w_8)), ((ua 1), .inl (E 0, 120, .inl w_9))]) rfl rfl (by decide) (by decide) (fun u_15 H locs hw_14 hP hD hS => ?_)
      clear hPc hDc
      obtain ⟨w_16, w_17, w_18, w_19⟩ := u_15
      try dsimp only at hw_14
      have hP : va_P D vwCl [(trule, .inr (4, G4 ua w_10)), ((ua 0), .inl (E 0, 120, .inl w_8)), ((ua 1), .inl (E 0, 120, .inl w_9)), (th, .inr (6, G6 ta tsize trule twords w_16 w_18 w_19 w_17)), ((ta 0), .inl (E 0, 120, .inl tf0))] H := hP
      have hD := toW hP hD rfl
      obtain ⟨hw_14_0, hw_14_1⟩ := hw_14
      refine lv_aload_n hx hb dX6_readComparison_46 rfl (lv_at hl 2 rfl) ?_
      refine lv_iload_n hx hb dX6_readComparison_47 rfl (lv_at hl 3 rfl) ?_
      have hPc := hP.sub (ws' := [(th, .inr (6, G6 ta tsize trule twords w_16 w_18 w_19 w_17)), ((ta 0), .inl (E 0, 120, .inl tf0)), (trule, .inr (4, G4 ua w_10)), ((ua 0), .inl (E 0, 120, .inl w_8)), ((ua 1), .inl (E 0, 120, .inl w_9))]) [3, 4, 0, 1, 2] rfl
      have hDc := hD.sub (ws' := [(th, .inr (6, G6 ta tsize trule twords w_16 w_18 w_19 w_17)), ((ta 0), .inl (E 0, 120, .inl tf0)), (trule, .inr (4, G4 ua w_10)), ((ua 0), .inl (E 0, 120, .inl w_8)), ((ua 1), .inl (E 0, 120, .inl w_9))]) [3, 4, 0, 1, 2] (by decide) rfl
      refine aft_i (runMG (rest := []) (As := [.int p0]) hx hb hml hown htb ((hX) D E th ta tsize trule twords w_16 w_18 w_19 w_17 tf0 ua w_10 w_8 w_9 sv sn sf _ (by (try dsimp only); omega) (by (try dsimp only); omega) hsn (by (try dsimp only); omega) g1) ok_X6_readSum k_684 k_686 ks_20 k_5 k_687 ⟨show b + 3 + 1 ≤ b + 4 from by omega, show 8 + (5 + 11) + 40 * (b + 3) ≤ 40 * (b + 4) from by omega⟩ ⟨(Nat.le_of_ble_eq_true rfl), (Nat.le_of_ble_eq_true rfl)⟩ hl.1 (Nat.le_of_ble_eq_true rfl) rfl rfl dX6_readComparison_48 (pmVS hPc hDc hK rfl rfl 0 rfl hG hS (va_free hD hS hA [3, 4, 0, 1, 2] rfl))) hP hD hS hA [3, 4, 0, 1, 2] [] (wr := ([] : va_W)) rfl rfl (by decide) (by decide) (fun r_20 u_22 H locs hw_21 hP hD hS => ?_)
      clear hPc hDc
      obtain ⟨w_23, w_24, w_25, w_26, w_27, w_28, w_29⟩ := u_22
      try dsimp only at hw_21
      have hP : va_P D vwCl [(th, .inr (6, G6 ta tsize trule twords w_23 w_25 w_26 w_24)), ((ta 0), .inl (E 0, 120, .inl tf0)), (trule, .inr (4, G4 ua w_29)), ((ua 0), .inl (E 0, 120, .inl w_27)), ((ua 1), .inl (E 0, 120, .inl w_28))] H := hP
      have hD := toW hP hD rfl
      obtain ⟨hw_21_0, hw_21_1, hw_21_2⟩ := hw_21
      obtain ⟨hw_21_2r, hw_21_2k⟩ := hw_21_2
      refine lv_istore_n (lv' := [(2, .int r_20), (3, .int w_6), (0, .ref th), (1, .int p0)]) hx hb dX6_readComparison_51 rfl hl (by decide) rfl (fun ls hl => ?_)
      refine lv_aload_n hx hb dX6_readComparison_52 rfl (lv_at hl 2 rfl) ?_
      refine va_get (D := D) (ci := 6) (v := .ref trule) (C := RX6) (T := TX6) (N := 8) hx hb htb iX6 hown hK.1 hP 0 rfl rfl 2 (by decide) (htb _ k_160) (fun _ h9 => h9) rfl dX6_readComparison_53 ?_
      refine lv_iload_n hx hb dX6_readComparison_56 rfl (lv_at hl 1 rfl) ?_
      refine lv_iconst (v := 0) hx hb dX6_readComparison_57 (by decide) ?_
      have hPc := hP.sub (ws' := [(trule, .inr (4, G4 ua w_29)), ((ua 0), .inl (E 0, 120, .inl w_27)), ((ua 1), .inl (E 0, 120, .inl w_28))]) [2, 3, 4] rfl
      have hDc := hD.sub (ws' := [(trule, .inr (4, G4 ua w_29)), ((ua 0), .inl (E 0, 120, .inl w_27)), ((ua 1), .inl (E 0, 120, .inl w_28))]) [2, 3, 4] (by decide) rfl
      refine aft_v (runMV (rest := []) (As := [.int w_6, .int 0]) hx hb hml hown htb hK (g_X4_add l D E trule ua w_29 w_27 w_28 w_6 0 _ (by (try dsimp only); omega)) ok_X4_add k_696 k_697 k_698 k_6 k_699 ⟨show 0 + 1 ≤ b + 4 from by omega, show 8 + (3 + 11) + 40 * (0) ≤ 40 * (b + 4) from by omega⟩ ⟨(Nat.le_of_ble_eq_true rfl), (Nat.le_of_ble_eq_true rfl)⟩ hl.1 (Nat.le_of_ble_eq_true rfl) rfl rfl dX6_readComparison_58 hPc hDc rfl rfl 0 rfl) hP hD hS hA [2, 3, 4] [0, 1] (wr := [(th, .inr (6, G6 ta tsize trule twords w_23 w_25 w_26 w_24)), ((ta 0), .inl (E 0, 120, .inl tf0))]) rfl rfl (by decide) (by decide) (fun u_32 H locs hw_31 hP hD hS => ?_)
      clear hPc hDc
      obtain ⟨w_33, w_34, w_35⟩ := u_32
      try dsimp only at hw_31
      have hP : va_P D vwCl [(th, .inr (6, G6 ta tsize trule twords w_23 w_25 w_26 w_24)), ((ta 0), .inl (E 0, 120, .inl tf0)), (trule, .inr (4, G4 ua w_35)), ((ua 0), .inl (E 0, 120, .inl w_33)), ((ua 1), .inl (E 0, 120, .inl w_34))] H := hP
      have hD := toW hP hD rfl
      obtain ⟨hw_31_0, hw_31_1⟩ := hw_31
      try simp only [t_0] at hw_31_0
      try simp only [t_0] at hw_31_1
      refine lv_iload_n hx hb dX6_readComparison_61 rfl (lv_at hl 0 rfl) ?_
      have hP9 := hP.sub (ws' := [(th, .inr (6, G6 ta tsize trule twords w_23 w_25 w_26 w_24)), ((ta 0), .inl (E 0, 120, .inl tf0)), (trule, .inr (4, G4 ua w_35)), ((ua 0), .inl (E 0, 120, .inl w_33)), ((ua 1), .inl (E 0, 120, .inl w_34))]) [0, 1, 2, 3, 4] rfl
      have hD9 := hD.sub (ws' := [(th, .inr (6, G6 ta tsize trule twords w_23 w_25 w_26 w_24)), ((ta 0), .inl (E 0, 120, .inl tf0)), (trule, .inr (4, G4 ua w_35)), ((ua 0), .inl (E 0, 120, .inl w_33)), ((ua 1), .inl (E 0, 120, .inl w_34))]) [0, 1, 2, 3, 4] (by decide) rfl
      exact W.zret (v := r_20) hx hb hr (nar_z (by omega) (by omega)) (fun t ht hW => ⟨⟨r_20, (w_23, w_24, w_25, w_26, w_33, w_34, w_35), rfl, ⟨(by (try dsimp only); omega), (by (try dsimp only); omega), (by have hl4 := t_4; have hl5 := t_5; have hl6 := t_6; have hl7 := t_7; have hl8 := t_8; have hl40 := t_40; have hl41 := t_41; have hl42 := t_42; have hl43 := t_43; have hl45 := t_45; have hl47 := t_47; have hl60 := t_60; have hl61 := t_61; have hl62 := t_62; (try dsimp only); exact ⟨by omega, RC_rel hw_2_2k (by omega) (by omega) hw_14_1 hw_21_2k hw_31_1 (by omega) (by omega) (by have c0 := i_clamp0 (x := tsize) (by omega); omega)⟩)⟩, by rw [ht]; exact hP9, hD9⟩, hS.F ht⟩) hS.2.2 dX6_readComparison_62
    ·
      have ic_12 : w_6.toInt ≠ 60 := mt (g_eq rfl t_60).mpr c_12
      clear c_12
      refine lv_aload_n hx hb dX6_readComparison_19 rfl (lv_at hl 1 rfl) ?_
      refine va_get (D := D) (ci := 6) (v := .int w_6) (C := RX6) (T := TX6) (N := 8) hx hb htb iX6 hown hK.1 hP 0 rfl rfl 5 (by decide) (htb _ k_163) (fun _ h9 => h9) rfl dX6_readComparison_20 ?_
      refine lv_bipush (v := 61) hx hb dX6_readComparison_23 (by decide) ?_
      refine lv_icmp_eq (tgt := 37) hx hb dX6_readComparison_25 (by decide) (fun c_36 => ?_) (fun c_36 => ?_)
      ·
        have ic_36 : w_6.toInt = 61 := (g_eq rfl t_61).mp c_36
        clear c_36
        refine lv_aload_n hx hb dX6_readComparison_37 rfl (lv_at hl 1 rfl) ?_
        refine va_get (D := D) (ci := 6) (v := .int w_6) (C := RX6) (T := TX6) (N := 8) hx hb htb iX6 hown hK.1 hP 0 rfl rfl 5 (by decide) (htb _ k_163) (fun _ h9 => h9) rfl dX6_readComparison_38 ?_
        refine lv_istore_n (lv' := [(3, .int w_6), (2, .int r_1), (0, .ref th), (1, .int p0)]) hx hb dX6_readComparison_41 rfl hl (by decide) rfl (fun ls hl => ?_)
        refine lv_aload_n hx hb dX6_readComparison_42 rfl (lv_at hl 2 rfl) ?_
        have hPc := hP.sub (ws' := [(th, .inr (6, G6 ta tsize trule twords w_4 w_6 w_7 w_5)), ((ta 0), .inl (E 0, 120, .inl tf0))]) [0, 1] rfl
        have hDc := hD.sub (ws' := [(th, .inr (6, G6 ta tsize trule twords w_4 w_6 w_7 w_5)), ((ta 0), .inl (E 0, 120, .inl tf0))]) [0, 1] (by decide) rfl
        refine aft_v (runMG (rest := []) (As := []) hx hb hml hown htb (g_X6_goOn l D E th ta tsize trule twords w_4 w_6 w_7 w_5 tf0 sv sn sf _ (by (try dsimp only); omega) hsn (by (try dsimp only); omega) g1) ok_X6_goOn k_591 k_593 ks_11 k_5 k_594 ⟨show 7 + 1 ≤ b + 4 from by omega, show 8 + (1 + 11) + 40 * (7) ≤ 40 * (b + 4) from by omega⟩ ⟨(Nat.le_of_ble_eq_true rfl), (Nat.le_of_ble_eq_true rfl)⟩ hl.1 (Nat.le_of_ble_eq_true rfl) rfl rfl dX6_readComparison_43 (pmVS hPc hDc hK rfl rfl 0 rfl hG hS (va_free hD hS hA [0, 1] rfl))) hP hD hS hA [0, 1] [2, 3, 4] (wr := [(trule, .inr (4, G4 ua w_10)), ((ua 0), .inl (E 0, 120, .inl w_8)), ((ua 1), .inl (E 0, 120, .inl w_9))]) rfl rfl (by decide) (by decide) (fun u_39 H locs hw_38 hP hD hS => ?_)
        clear hPc hDc
        obtain ⟨w_40, w_41, w_42, w_43⟩ := u_39
        try dsimp only at hw_38
        have hP : va_P D vwCl [(trule, .inr (4, G4 ua w_10)), ((ua 0), .inl (E 0, 120, .inl w_8)), ((ua 1), .inl (E 0, 120, .inl w_9)), (th, .inr (6, G6 ta tsize trule twords w_40 w_42 w_43 w_41)), ((ta 0), .inl (E 0, 120, .inl tf0))] H := hP
        have hD := toW hP hD rfl
        obtain ⟨hw_38_0, hw_38_1⟩ := hw_38
        refine lv_aload_n hx hb dX6_readComparison_46 rfl (lv_at hl 2 rfl) ?_
        refine lv_iload_n hx hb dX6_readComparison_47 rfl (lv_at hl 3 rfl) ?_
        have hPc := hP.sub (ws' := [(th, .inr (6, G6 ta tsize trule twords w_40 w_42 w_43 w_41)), ((ta 0), .inl (E 0, 120, .inl tf0)), (trule, .inr (4, G4 ua w_10)), ((ua 0), .inl (E 0, 120, .inl w_8)), ((ua 1), .inl (E 0, 120, .inl w_9))]) [3, 4, 0, 1, 2] rfl
        have hDc := hD.sub (ws' := [(th, .inr (6, G6 ta tsize trule twords w_40 w_42 w_43 w_41)), ((ta 0), .inl (E 0, 120, .inl tf0)), (trule, .inr (4, G4 ua w_10)), ((ua 0), .inl (E 0, 120, .inl w_8)), ((ua 1), .inl (E 0, 120, .inl w_9))]) [3, 4, 0, 1, 2] (by decide) rfl
        refine aft_i (runMG (rest := []) (As := [.int p0]) hx hb hml hown htb ((hX) D E th ta tsize trule twords w_40 w_42 w_43 w_41 tf0 ua w_10 w_8 w_9 sv sn sf _ (by (try dsimp only); omega) (by (try dsimp only); omega) hsn (by (try dsimp only); omega) g1) ok_X6_readSum k_684 k_686 ks_20 k_5 k_687 ⟨show b + 3 + 1 ≤ b + 4 from by omega, show 8 + (5 + 11) + 40 * (b + 3) ≤ 40 * (b + 4) from by omega⟩ ⟨(Nat.le_of_ble_eq_true rfl), (Nat.le_of_ble_eq_true rfl)⟩ hl.1 (Nat.le_of_ble_eq_true rfl) rfl rfl dX6_readComparison_48 (pmVS hPc hDc hK rfl rfl 0 rfl hG hS (va_free hD hS hA [3, 4, 0, 1, 2] rfl))) hP hD hS hA [3, 4, 0, 1, 2] [] (wr := ([] : va_W)) rfl rfl (by decide) (by decide) (fun r_44 u_46 H locs hw_45 hP hD hS => ?_)
        clear hPc hDc
        obtain ⟨w_47, w_48, w_49, w_50, w_51, w_52, w_53⟩ := u_46
        try dsimp only at hw_45
        have hP : va_P D vwCl [(th, .inr (6, G6 ta tsize trule twords w_47 w_49 w_50 w_48)), ((ta 0), .inl (E 0, 120, .inl tf0)), (trule, .inr (4, G4 ua w_53)), ((ua 0), .inl (E 0, 120, .inl w_51)), ((ua 1), .inl (E 0, 120, .inl w_52))] H := hP
        have hD := toW hP hD rfl
        obtain ⟨hw_45_0, hw_45_1, hw_45_2⟩ := hw_45
        obtain ⟨hw_45_2r, hw_45_2k⟩ := hw_45_2
        refine lv_istore_n (lv' := [(2, .int r_44), (3, .int w_6), (0, .ref th), (1, .int p0)]) hx hb dX6_readComparison_51 rfl hl (by decide) rfl (fun ls hl => ?_)
        refine lv_aload_n hx hb dX6_readComparison_52 rfl (lv_at hl 2 rfl) ?_
        refine va_get (D := D) (ci := 6) (v := .ref trule) (C := RX6) (T := TX6) (N := 8) hx hb htb iX6 hown hK.1 hP 0 rfl rfl 2 (by decide) (htb _ k_160) (fun _ h9 => h9) rfl dX6_readComparison_53 ?_
        refine lv_iload_n hx hb dX6_readComparison_56 rfl (lv_at hl 1 rfl) ?_
        refine lv_iconst (v := 0) hx hb dX6_readComparison_57 (by decide) ?_
        have hPc := hP.sub (ws' := [(trule, .inr (4, G4 ua w_53)), ((ua 0), .inl (E 0, 120, .inl w_51)), ((ua 1), .inl (E 0, 120, .inl w_52))]) [2, 3, 4] rfl
        have hDc := hD.sub (ws' := [(trule, .inr (4, G4 ua w_53)), ((ua 0), .inl (E 0, 120, .inl w_51)), ((ua 1), .inl (E 0, 120, .inl w_52))]) [2, 3, 4] (by decide) rfl
        refine aft_v (runMV (rest := []) (As := [.int w_6, .int 0]) hx hb hml hown htb hK (g_X4_add l D E trule ua w_53 w_51 w_52 w_6 0 _ (by (try dsimp only); omega)) ok_X4_add k_696 k_697 k_698 k_6 k_699 ⟨show 0 + 1 ≤ b + 4 from by omega, show 8 + (3 + 11) + 40 * (0) ≤ 40 * (b + 4) from by omega⟩ ⟨(Nat.le_of_ble_eq_true rfl), (Nat.le_of_ble_eq_true rfl)⟩ hl.1 (Nat.le_of_ble_eq_true rfl) rfl rfl dX6_readComparison_58 hPc hDc rfl rfl 0 rfl) hP hD hS hA [2, 3, 4] [0, 1] (wr := [(th, .inr (6, G6 ta tsize trule twords w_47 w_49 w_50 w_48)), ((ta 0), .inl (E 0, 120, .inl tf0))]) rfl rfl (by decide) (by decide) (fun u_56 H locs hw_55 hP hD hS => ?_)
        clear hPc hDc
        obtain ⟨w_57, w_58, w_59⟩ := u_56
        try dsimp only at hw_55
        have hP : va_P D vwCl [(th, .inr (6, G6 ta tsize trule twords w_47 w_49 w_50 w_48)), ((ta 0), .inl (E 0, 120, .inl tf0)), (trule, .inr (4, G4 ua w_59)), ((ua 0), .inl (E 0, 120, .inl w_57)), ((ua 1), .inl (E 0, 120, .inl w_58))] H := hP
        have hD := toW hP hD rfl
        obtain ⟨hw_55_0, hw_55_1⟩ := hw_55
        try simp only [t_0] at hw_55_0
        try simp only [t_0] at hw_55_1
        refine lv_iload_n hx hb dX6_readComparison_61 rfl (lv_at hl 0 rfl) ?_
        have hP9 := hP.sub (ws' := [(th, .inr (6, G6 ta tsize trule twords w_47 w_49 w_50 w_48)), ((ta 0), .inl (E 0, 120, .inl tf0)), (trule, .inr (4, G4 ua w_59)), ((ua 0), .inl (E 0, 120, .inl w_57)), ((ua 1), .inl (E 0, 120, .inl w_58))]) [0, 1, 2, 3, 4] rfl
        have hD9 := hD.sub (ws' := [(th, .inr (6, G6 ta tsize trule twords w_47 w_49 w_50 w_48)), ((ta 0), .inl (E 0, 120, .inl tf0)), (trule, .inr (4, G4 ua w_59)), ((ua 0), .inl (E 0, 120, .inl w_57)), ((ua 1), .inl (E 0, 120, .inl w_58))]) [0, 1, 2, 3, 4] (by decide) rfl
        exact W.zret (v := r_44) hx hb hr (nar_z (by omega) (by omega)) (fun t ht hW => ⟨⟨r_44, (w_47, w_48, w_49, w_50, w_57, w_58, w_59), rfl, ⟨(by (try dsimp only); omega), (by (try dsimp only); omega), (by have hl4 := t_4; have hl5 := t_5; have hl6 := t_6; have hl7 := t_7; have hl8 := t_8; have hl40 := t_40; have hl41 := t_41; have hl42 := t_42; have hl43 := t_43; have hl45 := t_45; have hl47 := t_47; have hl60 := t_60; have hl61 := t_61; have hl62 := t_62; (try dsimp only); exact ⟨by omega, RC_rel hw_2_2k (by omega) (by omega) hw_38_1 hw_45_2k hw_55_1 (by omega) (by omega) (by have c0 := i_clamp0 (x := tsize) (by omega); omega)⟩)⟩, by rw [ht]; exact hP9, hD9⟩, hS.F ht⟩) hS.2.2 dX6_readComparison_62
      ·
        have ic_36 : w_6.toInt ≠ 61 := mt (g_eq rfl t_61).mpr c_36
        clear c_36
        refine lv_aload_n hx hb dX6_readComparison_28 rfl (lv_at hl 1 rfl) ?_
        refine va_get (D := D) (ci := 6) (v := .int w_6) (C := RX6) (T := TX6) (N := 8) hx hb htb iX6 hown hK.1 hP 0 rfl rfl 5 (by decide) (htb _ k_163) (fun _ h9 => h9) rfl dX6_readComparison_29 ?_
        refine lv_bipush (v := 62) hx hb dX6_readComparison_32 (by decide) ?_
        refine lv_icmp_ne (tgt := 61) hx hb dX6_readComparison_34 (by decide) (fun c_60 => ?_) (fun c_60 => ?_)
        ·
          have ic_60 : w_6.toInt ≠ 62 := mt (g_eq rfl t_62).mpr c_60
          clear c_60
          refine lv_iload_n hx hb dX6_readComparison_61 rfl (lv_at hl 0 rfl) ?_
          have hP9 := hP.sub (ws' := [(th, .inr (6, G6 ta tsize trule twords w_4 w_6 w_7 w_5)), ((ta 0), .inl (E 0, 120, .inl tf0)), (trule, .inr (4, G4 ua w_10)), ((ua 0), .inl (E 0, 120, .inl w_8)), ((ua 1), .inl (E 0, 120, .inl w_9))]) [0, 1, 2, 3, 4] rfl
          have hD9 := hD.sub (ws' := [(th, .inr (6, G6 ta tsize trule twords w_4 w_6 w_7 w_5)), ((ta 0), .inl (E 0, 120, .inl tf0)), (trule, .inr (4, G4 ua w_10)), ((ua 0), .inl (E 0, 120, .inl w_8)), ((ua 1), .inl (E 0, 120, .inl w_9))]) [0, 1, 2, 3, 4] (by decide) rfl
          exact W.zret (v := r_1) hx hb hr (nar_z (by omega) (by omega)) (fun t ht hW => ⟨⟨r_1, (w_4, w_5, w_6, w_7, w_8, w_9, w_10), rfl, ⟨(by (try dsimp only); omega), (by (try dsimp only); omega), (by have hl4 := t_4; have hl5 := t_5; have hl6 := t_6; have hl7 := t_7; have hl8 := t_8; have hl40 := t_40; have hl41 := t_41; have hl42 := t_42; have hl43 := t_43; have hl45 := t_45; have hl47 := t_47; have hl60 := t_60; have hl61 := t_61; have hl62 := t_62; (try dsimp only); exact ⟨by omega, RC_no hw_2_2k (by omega)⟩)⟩, by rw [ht]; exact hP9, hD9⟩, hS.F ht⟩) hS.2.2 dX6_readComparison_62
        ·
          have ic_60 : w_6.toInt = 62 := (g_eq rfl t_62).mp c_60
          clear c_60
          refine lv_aload_n hx hb dX6_readComparison_37 rfl (lv_at hl 1 rfl) ?_
          refine va_get (D := D) (ci := 6) (v := .int w_6) (C := RX6) (T := TX6) (N := 8) hx hb htb iX6 hown hK.1 hP 0 rfl rfl 5 (by decide) (htb _ k_163) (fun _ h9 => h9) rfl dX6_readComparison_38 ?_
          refine lv_istore_n (lv' := [(3, .int w_6), (2, .int r_1), (0, .ref th), (1, .int p0)]) hx hb dX6_readComparison_41 rfl hl (by decide) rfl (fun ls hl => ?_)
          refine lv_aload_n hx hb dX6_readComparison_42 rfl (lv_at hl 2 rfl) ?_
          have hPc := hP.sub (ws' := [(th, .inr (6, G6 ta tsize trule twords w_4 w_6 w_7 w_5)), ((ta 0), .inl (E 0, 120, .inl tf0))]) [0, 1] rfl
          have hDc := hD.sub (ws' := [(th, .inr (6, G6 ta tsize trule twords w_4 w_6 w_7 w_5)), ((ta 0), .inl (E 0, 120, .inl tf0))]) [0, 1] (by decide) rfl
          refine aft_v (runMG (rest := []) (As := []) hx hb hml hown htb (g_X6_goOn l D E th ta tsize trule twords w_4 w_6 w_7 w_5 tf0 sv sn sf _ (by (try dsimp only); omega) hsn (by (try dsimp only); omega) g1) ok_X6_goOn k_591 k_593 ks_11 k_5 k_594 ⟨show 7 + 1 ≤ b + 4 from by omega, show 8 + (1 + 11) + 40 * (7) ≤ 40 * (b + 4) from by omega⟩ ⟨(Nat.le_of_ble_eq_true rfl), (Nat.le_of_ble_eq_true rfl)⟩ hl.1 (Nat.le_of_ble_eq_true rfl) rfl rfl dX6_readComparison_43 (pmVS hPc hDc hK rfl rfl 0 rfl hG hS (va_free hD hS hA [0, 1] rfl))) hP hD hS hA [0, 1] [2, 3, 4] (wr := [(trule, .inr (4, G4 ua w_10)), ((ua 0), .inl (E 0, 120, .inl w_8)), ((ua 1), .inl (E 0, 120, .inl w_9))]) rfl rfl (by decide) (by decide) (fun u_63 H locs hw_62 hP hD hS => ?_)
          clear hPc hDc
          obtain ⟨w_64, w_65, w_66, w_67⟩ := u_63
          try dsimp only at hw_62
          have hP : va_P D vwCl [(trule, .inr (4, G4 ua w_10)), ((ua 0), .inl (E 0, 120, .inl w_8)), ((ua 1), .inl (E 0, 120, .inl w_9)), (th, .inr (6, G6 ta tsize trule twords w_64 w_66 w_67 w_65)), ((ta 0), .inl (E 0, 120, .inl tf0))] H := hP
          have hD := toW hP hD rfl
          obtain ⟨hw_62_0, hw_62_1⟩ := hw_62
          refine lv_aload_n hx hb dX6_readComparison_46 rfl (lv_at hl 2 rfl) ?_
          refine lv_iload_n hx hb dX6_readComparison_47 rfl (lv_at hl 3 rfl) ?_
          have hPc := hP.sub (ws' := [(th, .inr (6, G6 ta tsize trule twords w_64 w_66 w_67 w_65)), ((ta 0), .inl (E 0, 120, .inl tf0)), (trule, .inr (4, G4 ua w_10)), ((ua 0), .inl (E 0, 120, .inl w_8)), ((ua 1), .inl (E 0, 120, .inl w_9))]) [3, 4, 0, 1, 2] rfl
          have hDc := hD.sub (ws' := [(th, .inr (6, G6 ta tsize trule twords w_64 w_66 w_67 w_65)), ((ta 0), .inl (E 0, 120, .inl tf0)), (trule, .inr (4, G4 ua w_10)), ((ua 0), .inl (E 0, 120, .inl w_8)), ((ua 1), .inl (E 0, 120, .inl w_9))]) [3, 4, 0, 1, 2] (by decide) rfl
          refine aft_i (runMG (rest := []) (As := [.int p0]) hx hb hml hown htb ((hX) D E th ta tsize trule twords w_64 w_66 w_67 w_65 tf0 ua w_10 w_8 w_9 sv sn sf _ (by (try dsimp only); omega) (by (try dsimp only); omega) hsn (by (try dsimp only); omega) g1) ok_X6_readSum k_684 k_686 ks_20 k_5 k_687 ⟨show b + 3 + 1 ≤ b + 4 from by omega, show 8 + (5 + 11) + 40 * (b + 3) ≤ 40 * (b + 4) from by omega⟩ ⟨(Nat.le_of_ble_eq_true rfl), (Nat.le_of_ble_eq_true rfl)⟩ hl.1 (Nat.le_of_ble_eq_true rfl) rfl rfl dX6_readComparison_48 (pmVS hPc hDc hK rfl rfl 0 rfl hG hS (va_free hD hS hA [3, 4, 0, 1, 2] rfl))) hP hD hS hA [3, 4, 0, 1, 2] [] (wr := ([] : va_W)) rfl rfl (by decide) (by decide) (fun r_68 u_70 H locs hw_69 hP hD hS => ?_)
          clear hPc hDc
          obtain ⟨w_71, w_72, w_73, w_74, w_75, w_76, w_77⟩ := u_70
          try dsimp only at hw_69
          have hP : va_P D vwCl [(th, .inr (6, G6 ta tsize trule twords w_71 w_73 w_74 w_72)), ((ta 0), .inl (E 0, 120, .inl tf0)), (trule, .inr (4, G4 ua w_77)), ((ua 0), .inl (E 0, 120, .inl w_75)), ((ua 1), .inl (E 0, 120, .inl w_76))] H := hP
          have hD := toW hP hD rfl
          obtain ⟨hw_69_0, hw_69_1, hw_69_2⟩ := hw_69
          obtain ⟨hw_69_2r, hw_69_2k⟩ := hw_69_2
          refine lv_istore_n (lv' := [(2, .int r_68), (3, .int w_6), (0, .ref th), (1, .int p0)]) hx hb dX6_readComparison_51 rfl hl (by decide) rfl (fun ls hl => ?_)
          refine lv_aload_n hx hb dX6_readComparison_52 rfl (lv_at hl 2 rfl) ?_
          refine va_get (D := D) (ci := 6) (v := .ref trule) (C := RX6) (T := TX6) (N := 8) hx hb htb iX6 hown hK.1 hP 0 rfl rfl 2 (by decide) (htb _ k_160) (fun _ h9 => h9) rfl dX6_readComparison_53 ?_
          refine lv_iload_n hx hb dX6_readComparison_56 rfl (lv_at hl 1 rfl) ?_
          refine lv_iconst (v := 0) hx hb dX6_readComparison_57 (by decide) ?_
          have hPc := hP.sub (ws' := [(trule, .inr (4, G4 ua w_77)), ((ua 0), .inl (E 0, 120, .inl w_75)), ((ua 1), .inl (E 0, 120, .inl w_76))]) [2, 3, 4] rfl
          have hDc := hD.sub (ws' := [(trule, .inr (4, G4 ua w_77)), ((ua 0), .inl (E 0, 120, .inl w_75)), ((ua 1), .inl (E 0, 120, .inl w_76))]) [2, 3, 4] (by decide) rfl
          refine aft_v (runMV (rest := []) (As := [.int w_6, .int 0]) hx hb hml hown htb hK (g_X4_add l D E trule ua w_77 w_75 w_76 w_6 0 _ (by (try dsimp only); omega)) ok_X4_add k_696 k_697 k_698 k_6 k_699 ⟨show 0 + 1 ≤ b + 4 from by omega, show 8 + (3 + 11) + 40 * (0) ≤ 40 * (b + 4) from by omega⟩ ⟨(Nat.le_of_ble_eq_true rfl), (Nat.le_of_ble_eq_true rfl)⟩ hl.1 (Nat.le_of_ble_eq_true rfl) rfl rfl dX6_readComparison_58 hPc hDc rfl rfl 0 rfl) hP hD hS hA [2, 3, 4] [0, 1] (wr := [(th, .inr (6, G6 ta tsize trule twords w_71 w_73 w_74 w_72)), ((ta 0), .inl (E 0, 120, .inl tf0))]) rfl rfl (by decide) (by decide) (fun u_80 H locs hw_79 hP hD hS => ?_)
          clear hPc hDc
          obtain ⟨w_81, w_82, w_83⟩ := u_80
          try dsimp only at hw_79
          have hP : va_P D vwCl [(th, .inr (6, G6 ta tsize trule twords w_71 w_73 w_74 w_72)), ((ta 0), .inl (E 0, 120, .inl tf0)), (trule, .inr (4, G4 ua w_83)), ((ua 0), .inl (E 0, 120, .inl w_81)), ((ua 1), .inl (E 0, 120, .inl w_82))] H := hP
          have hD := toW hP hD rfl
          obtain ⟨hw_79_0, hw_79_1⟩ := hw_79
          try simp only [t_0] at hw_79_0
          try simp only [t_0] at hw_79_1
          refine lv_iload_n hx hb dX6_readComparison_61 rfl (lv_at hl 0 rfl) ?_
          have hP9 := hP.sub (ws' := [(th, .inr (6, G6 ta tsize trule twords w_71 w_73 w_74 w_72)), ((ta 0), .inl (E 0, 120, .inl tf0)), (trule, .inr (4, G4 ua w_83)), ((ua 0), .inl (E 0, 120, .inl w_81)), ((ua 1), .inl (E 0, 120, .inl w_82))]) [0, 1, 2, 3, 4] rfl
          have hD9 := hD.sub (ws' := [(th, .inr (6, G6 ta tsize trule twords w_71 w_73 w_74 w_72)), ((ta 0), .inl (E 0, 120, .inl tf0)), (trule, .inr (4, G4 ua w_83)), ((ua 0), .inl (E 0, 120, .inl w_81)), ((ua 1), .inl (E 0, 120, .inl w_82))]) [0, 1, 2, 3, 4] (by decide) rfl
          exact W.zret (v := r_68) hx hb hr (nar_z (by omega) (by omega)) (fun t ht hW => ⟨⟨r_68, (w_71, w_72, w_73, w_74, w_81, w_82, w_83), rfl, ⟨(by (try dsimp only); omega), (by (try dsimp only); omega), (by have hl4 := t_4; have hl5 := t_5; have hl6 := t_6; have hl7 := t_7; have hl8 := t_8; have hl40 := t_40; have hl41 := t_41; have hl42 := t_42; have hl43 := t_43; have hl45 := t_45; have hl47 := t_47; have hl60 := t_60; have hl61 := t_61; have hl62 := t_62; (try dsimp only); exact ⟨by omega, RC_rel hw_2_2k (by omega) (by omega) hw_62_1 hw_69_2k hw_79_1 (by omega) (by omega) (by have c0 := i_clamp0 (x := tsize) (by omega); omega)⟩)⟩, by rw [ht]; exact hP9, hD9⟩, hS.F ht⟩) hS.2.2 dX6_readComparison_62
set_option maxHeartbeats 4000000 in
set_option maxRecDepth 100000 in
theorem g_X6_readNegation (l : Launch) (b : Nat) (p0 : Int32) (hb8 : 8 ≤ b) (h15 : 0 ≤ p0.toInt ∧ p0.toInt ≤ 15) (hX : M_X6_readComparison l (b + 8) p0) (hN : p0.toInt < 15 → ∀ q : Int32, q.toInt = p0.toInt + 1 → M_X6_readNegation l b q) : M_X6_readNegation l (b + 8) p0 := by
  intro D E th ta tsize trule twords tat tword twordAt tvalue tf0 ua usize uf0 uf1 sv sn sf sz hi_t hi_u hsn g0 g1
  refine Met.ofW (cc := cX6_readNegation) (maxL := 3) (ret := (some .boolean)) (by decide) rfl ?_
  intro p e s m args below meth c s₁ B hml hv
  obtain ⟨rfl, hsz, hP, hK, hD0, hG⟩ := hv
  have hx := B.exec; have hb := B.bytes; have hr := B.returns
  have hts := atoms_spec (ws := wl yX6_readNegation cX6_readNegation 3 (some .boolean)) B.pre
  have htb : ∀ w ∈ tb, w.before _ s = true := fun w h => hts w (List.mem_cons_of_mem _ h)
  have hown : s.vm.findClass RX6 = some m.cls := findClass_of_methodNamed B.named
  have hlocks := B.notSynchronized
  subst hsz
  have hD := hD0.self (sz := s.heap.size)
  generalize hAe : va_A [(th, .inr (6, G6 ta tsize trule twords tat tword twordAt tvalue)), ((ta 0), .inl (E 0, 120, .inl tf0)), (trule, .inr (4, G4 ua usize)), ((ua 0), .inl (E 0, 120, .inl uf0)), ((ua 1), .inl (E 0, 120, .inl uf1))] s.heap.size = A at hD hG ⊢
  have hA : ∀ q : Nat, s.heap.size ≤ q → A q := fun q h => by rw [← hAe]; exact Or.inr h
  have hS : va_S A s.heap s.heap [] := va_S.rf
  have hP : va_P D vwCl [(th, .inr (6, G6 ta tsize trule twords tat tword twordAt tvalue)), ((ta 0), .inl (E 0, 120, .inl tf0)), (trule, .inr (4, G4 ua usize)), ((ua 0), .inl (E 0, 120, .inl uf0)), ((ua 1), .inl (E 0, 120, .inl uf1))] s.heap := hP
  have hl := lv_entry ([.ref th, .int p0]) (n := 3) (Nat.le_of_ble_eq_true rfl)
  rw [lg_entry_eq]
  generalize (lg_sl ([.ref th, .int p0]) ++ List.replicate (3 - (lg_sl ([.ref th, .int p0])).length) Slot.unset).toArray = ls at hl ⊢
  have hl : lv_has ls 3 [(0, .ref th), (1, .int p0)] := hl
  have lo_p0 := i_lo p0; have hi_p0 := i_hi p0
  refine lv_aload_n hx hb dX6_readNegation_0 rfl (lv_at hl 0 rfl) ?_
  refine va_get (D := D) (ci := 6) (v := .int tword) (C := RX6) (T := TX6) (N := 8) hx hb htb iX6 hown hK.1 hP 0 rfl rfl 5 (by decide) (htb _ k_163) (fun _ h9 => h9) rfl dX6_readNegation_1 ?_
  refine lv_bipush (v := 6) hx hb dX6_readNegation_4 (by decide) ?_
  refine lv_icmp_eq (tgt := 15) hx hb dX6_readNegation_6 (by decide) (fun c_1 => ?_) (fun c_1 => ?_)
  ·
    have ic_1 : tword.toInt = 6 := (g_eq rfl t_6).mp c_1
    clear c_1
    refine lv_iload_n hx hb dX6_readNegation_15 rfl (lv_at hl 1 rfl) ?_
    refine lv_bipush (v := 15) hx hb dX6_readNegation_16 (by decide) ?_
    refine lv_icmp_lt (tgt := 23) hx hb dX6_readNegation_18 (by decide) (fun c_2 => ?_) (fun c_2 => ?_)
    ·
      have ic_2 : p0.toInt < 15 := by first | exact (g_lt rfl t_15).mp c_2 | (have h := mt (g_le t_15 rfl).mpr c_2; omega)
      clear c_2
      refine lv_aload_n hx hb dX6_readNegation_23 rfl (lv_at hl 0 rfl) ?_
      have hPc := hP.sub (ws' := [(th, .inr (6, G6 ta tsize trule twords tat tword twordAt tvalue)), ((ta 0), .inl (E 0, 120, .inl tf0))]) [0, 1] rfl
      have hDc := hD.sub (ws' := [(th, .inr (6, G6 ta tsize trule twords tat tword twordAt tvalue)), ((ta 0), .inl (E 0, 120, .inl tf0))]) [0, 1] (by decide) rfl
      refine aft_v (runMG (rest := []) (As := []) hx hb hml hown htb (g_X6_goOn l D E th ta tsize trule twords tat tword twordAt tvalue tf0 sv sn sf _ (by (try dsimp only); omega) hsn (by (try dsimp only); omega) g1) ok_X6_goOn k_591 k_593 ks_11 k_5 k_594 ⟨show 7 + 1 ≤ b + 8 + 5 from by omega, show 8 + (1 + 11) + 40 * (7) ≤ 40 * (b + 8 + 5) from by omega⟩ ⟨(Nat.le_of_ble_eq_true rfl), (Nat.le_of_ble_eq_true rfl)⟩ hl.1 (Nat.le_of_ble_eq_true rfl) rfl rfl dX6_readNegation_24 (pmVS hPc hDc hK rfl rfl 0 rfl hG hS (va_free hD hS hA [0, 1] rfl))) hP hD hS hA [0, 1] [2, 3, 4] (wr := [(trule, .inr (4, G4 ua usize)), ((ua 0), .inl (E 0, 120, .inl uf0)), ((ua 1), .inl (E 0, 120, .inl uf1))]) rfl rfl (by decide) (by decide) (fun u_5 H locs hw_4 hP hD hS => ?_)
      clear hPc hDc
      obtain ⟨w_6, w_7, w_8, w_9⟩ := u_5
      try dsimp only at hw_4
      have hP : va_P D vwCl [(trule, .inr (4, G4 ua usize)), ((ua 0), .inl (E 0, 120, .inl uf0)), ((ua 1), .inl (E 0, 120, .inl uf1)), (th, .inr (6, G6 ta tsize trule twords w_6 w_8 w_9 w_7)), ((ta 0), .inl (E 0, 120, .inl tf0))] H := hP
      have hD := toW hP hD rfl
      obtain ⟨hw_4_0, hw_4_1⟩ := hw_4
      refine lv_aload_n hx hb dX6_readNegation_27 rfl (lv_at hl 0 rfl) ?_
      refine lv_iload_n hx hb dX6_readNegation_28 rfl (lv_at hl 1 rfl) ?_
      refine lv_iconst (v := 1) hx hb dX6_readNegation_29 (by decide) ?_
      refine lv_iadd hx hb dX6_readNegation_30 ?_
      refine lv_topi (fun z_10 ez_10 => ?_)
      have jz_10 : z_10.toInt = p0.toInt + 1 := by rw [ez_10]; exact g_add rfl t_1 (by omega) (by omega)
      have hPc := hP.sub (ws' := [(th, .inr (6, G6 ta tsize trule twords w_6 w_8 w_9 w_7)), ((ta 0), .inl (E 0, 120, .inl tf0)), (trule, .inr (4, G4 ua usize)), ((ua 0), .inl (E 0, 120, .inl uf0)), ((ua 1), .inl (E 0, 120, .inl uf1))]) [3, 4, 0, 1, 2] rfl
      have hDc := hD.sub (ws' := [(th, .inr (6, G6 ta tsize trule twords w_6 w_8 w_9 w_7)), ((ta 0), .inl (E 0, 120, .inl tf0)), (trule, .inr (4, G4 ua usize)), ((ua 0), .inl (E 0, 120, .inl uf0)), ((ua 1), .inl (E 0, 120, .inl uf1))]) [3, 4, 0, 1, 2] (by decide) rfl
      refine aft_i (runMG (rest := []) (As := [.int z_10]) hx hb hml hown htb ((hN (by omega) z_10 (by omega)) D E th ta tsize trule twords w_6 w_8 w_9 w_7 tf0 ua usize uf0 uf1 sv sn sf _ (by (try dsimp only); omega) (by (try dsimp only); omega) hsn (by (try dsimp only); omega) g1) ok_X6_readNegation k_676 k_678 ks_18 k_5 k_679 ⟨show b + 5 + 1 ≤ b + 8 + 5 from by omega, show 8 + (3 + 11) + 40 * (b + 5) ≤ 40 * (b + 8 + 5) from by omega⟩ ⟨(Nat.le_of_ble_eq_true rfl), (Nat.le_of_ble_eq_true rfl)⟩ hl.1 (Nat.le_of_ble_eq_true rfl) rfl rfl dX6_readNegation_31 (pmVS hPc hDc hK rfl rfl 0 rfl hG hS (va_free hD hS hA [3, 4, 0, 1, 2] rfl))) hP hD hS hA [3, 4, 0, 1, 2] [] (wr := ([] : va_W)) rfl rfl (by decide) (by decide) (fun r_11 u_13 H locs hw_12 hP hD hS => ?_)
      clear hPc hDc
      obtain ⟨w_14, w_15, w_16, w_17, w_18, w_19, w_20⟩ := u_13
      try dsimp only at hw_12
      have hP : va_P D vwCl [(th, .inr (6, G6 ta tsize trule twords w_14 w_16 w_17 w_15)), ((ta 0), .inl (E 0, 120, .inl tf0)), (trule, .inr (4, G4 ua w_20)), ((ua 0), .inl (E 0, 120, .inl w_18)), ((ua 1), .inl (E 0, 120, .inl w_19))] H := hP
      have hD := toW hP hD rfl
      obtain ⟨hw_12_0, hw_12_1, hw_12_2⟩ := hw_12
      obtain ⟨hw_12_2r, hw_12_2k⟩ := hw_12_2
      refine lv_istore_n (lv' := [(2, .int r_11), (0, .ref th), (1, .int p0)]) hx hb dX6_readNegation_34 rfl hl (by decide) rfl (fun ls hl => ?_)
      refine lv_aload_n hx hb dX6_readNegation_35 rfl (lv_at hl 1 rfl) ?_
      refine va_get (D := D) (ci := 6) (v := .ref trule) (C := RX6) (T := TX6) (N := 8) hx hb htb iX6 hown hK.1 hP 0 rfl rfl 2 (by decide) (htb _ k_160) (fun _ h9 => h9) rfl dX6_readNegation_36 ?_
      refine lv_bipush (v := 6) hx hb dX6_readNegation_39 (by decide) ?_
      refine lv_iconst (v := 0) hx hb dX6_readNegation_41 (by decide) ?_
      have hPc := hP.sub (ws' := [(trule, .inr (4, G4 ua w_20)), ((ua 0), .inl (E 0, 120, .inl w_18)), ((ua 1), .inl (E 0, 120, .inl w_19))]) [2, 3, 4] rfl
      have hDc := hD.sub (ws' := [(trule, .inr (4, G4 ua w_20)), ((ua 0), .inl (E 0, 120, .inl w_18)), ((ua 1), .inl (E 0, 120, .inl w_19))]) [2, 3, 4] (by decide) rfl
      refine aft_v (runMV (rest := []) (As := [.int 6, .int 0]) hx hb hml hown htb hK (g_X4_add l D E trule ua w_20 w_18 w_19 6 0 _ (by (try dsimp only); omega)) ok_X4_add k_696 k_697 k_698 k_6 k_699 ⟨show 0 + 1 ≤ b + 8 + 5 from by omega, show 8 + (3 + 11) + 40 * (0) ≤ 40 * (b + 8 + 5) from by omega⟩ ⟨(Nat.le_of_ble_eq_true rfl), (Nat.le_of_ble_eq_true rfl)⟩ hl.1 (Nat.le_of_ble_eq_true rfl) rfl rfl dX6_readNegation_42 hPc hDc rfl rfl 0 rfl) hP hD hS hA [2, 3, 4] [0, 1] (wr := [(th, .inr (6, G6 ta tsize trule twords w_14 w_16 w_17 w_15)), ((ta 0), .inl (E 0, 120, .inl tf0))]) rfl rfl (by decide) (by decide) (fun u_23 H locs hw_22 hP hD hS => ?_)
      clear hPc hDc
      obtain ⟨w_24, w_25, w_26⟩ := u_23
      try dsimp only at hw_22
      have hP : va_P D vwCl [(th, .inr (6, G6 ta tsize trule twords w_14 w_16 w_17 w_15)), ((ta 0), .inl (E 0, 120, .inl tf0)), (trule, .inr (4, G4 ua w_26)), ((ua 0), .inl (E 0, 120, .inl w_24)), ((ua 1), .inl (E 0, 120, .inl w_25))] H := hP
      have hD := toW hP hD rfl
      obtain ⟨hw_22_0, hw_22_1⟩ := hw_22
      try simp only [t_0, t_6] at hw_22_0
      try simp only [t_0, t_6] at hw_22_1
      refine lv_iload_n hx hb dX6_readNegation_45 rfl (lv_at hl 0 rfl) ?_
      have hP9 := hP.sub (ws' := [(th, .inr (6, G6 ta tsize trule twords w_14 w_16 w_17 w_15)), ((ta 0), .inl (E 0, 120, .inl tf0)), (trule, .inr (4, G4 ua w_26)), ((ua 0), .inl (E 0, 120, .inl w_24)), ((ua 1), .inl (E 0, 120, .inl w_25))]) [0, 1, 2, 3, 4] rfl
      have hD9 := hD.sub (ws' := [(th, .inr (6, G6 ta tsize trule twords w_14 w_16 w_17 w_15)), ((ta 0), .inl (E 0, 120, .inl tf0)), (trule, .inr (4, G4 ua w_26)), ((ua 0), .inl (E 0, 120, .inl w_24)), ((ua 1), .inl (E 0, 120, .inl w_25))]) [0, 1, 2, 3, 4] (by decide) rfl
      exact W.zret (v := r_11) hx hb hr (nar_z (by omega) (by omega)) (fun t ht hW => ⟨⟨r_11, (w_14, w_15, w_16, w_17, w_24, w_25, w_26), rfl, ⟨(by (try dsimp only); omega), (by (try dsimp only); omega), (by have hl4 := t_4; have hl5 := t_5; have hl6 := t_6; have hl7 := t_7; have hl8 := t_8; have hl40 := t_40; have hl41 := t_41; have hl42 := t_42; have hl43 := t_43; have hl45 := t_45; have hl47 := t_47; have hl60 := t_60; have hl61 := t_61; have hl62 := t_62; (try dsimp only); exact ⟨by omega, RN_not (by omega) (by omega) hw_4_1 (RKP_o hw_12_2k (by omega)) hw_22_1 (by omega) (by omega) (by have c0 := i_clamp0 (x := tsize) (by omega); omega)⟩)⟩, by rw [ht]; exact hP9, hD9⟩, hS.F ht⟩) hS.2.2 dX6_readNegation_46
    ·
      have ic_2 : 15 ≤ p0.toInt := by first | exact (g_le t_15 rfl).mp c_2 | (have h := mt (g_lt rfl t_15).mpr c_2; omega)
      clear c_2
      refine lv_iconst (v := 0) hx hb dX6_readNegation_21 (by decide) ?_
      have hP9 := hP.sub (ws' := [(th, .inr (6, G6 ta tsize trule twords tat tword twordAt tvalue)), ((ta 0), .inl (E 0, 120, .inl tf0)), (trule, .inr (4, G4 ua usize)), ((ua 0), .inl (E 0, 120, .inl uf0)), ((ua 1), .inl (E 0, 120, .inl uf1))]) [0, 1, 2, 3, 4] rfl
      have hD9 := hD.sub (ws' := [(th, .inr (6, G6 ta tsize trule twords tat tword twordAt tvalue)), ((ta 0), .inl (E 0, 120, .inl tf0)), (trule, .inr (4, G4 ua usize)), ((ua 0), .inl (E 0, 120, .inl uf0)), ((ua 1), .inl (E 0, 120, .inl uf1))]) [0, 1, 2, 3, 4] (by decide) rfl
      exact W.zret (v := 0) hx hb hr rfl (fun t ht hW => ⟨⟨0, (tat, tvalue, tword, twordAt, uf0, uf1, usize), rfl, ⟨(by (try dsimp only); omega), (by (try dsimp only); omega), (by have hl := t_0; have hl4 := t_4; have hl5 := t_5; have hl6 := t_6; have hl7 := t_7; have hl8 := t_8; have hl40 := t_40; have hl41 := t_41; have hl42 := t_42; have hl43 := t_43; have hl45 := t_45; have hl47 := t_47; have hl60 := t_60; have hl61 := t_61; have hl62 := t_62; (try dsimp only); exact ⟨by omega, RN_deep (by omega) (by omega) (by omega)⟩)⟩, by rw [ht]; exact hP9, hD9⟩, hS.F ht⟩) hS.2.2 dX6_readNegation_22
  ·
    have ic_1 : tword.toInt ≠ 6 := mt (g_eq rfl t_6).mpr c_1
    clear c_1
    refine lv_aload_n hx hb dX6_readNegation_9 rfl (lv_at hl 0 rfl) ?_
    refine lv_iload_n hx hb dX6_readNegation_10 rfl (lv_at hl 1 rfl) ?_
    have hPc := hP.sub (ws' := [(th, .inr (6, G6 ta tsize trule twords tat tword twordAt tvalue)), ((ta 0), .inl (E 0, 120, .inl tf0)), (trule, .inr (4, G4 ua usize)), ((ua 0), .inl (E 0, 120, .inl uf0)), ((ua 1), .inl (E 0, 120, .inl uf1))]) [0, 1, 2, 3, 4] rfl
    have hDc := hD.sub (ws' := [(th, .inr (6, G6 ta tsize trule twords tat tword twordAt tvalue)), ((ta 0), .inl (E 0, 120, .inl tf0)), (trule, .inr (4, G4 ua usize)), ((ua 0), .inl (E 0, 120, .inl uf0)), ((ua 1), .inl (E 0, 120, .inl uf1))]) [0, 1, 2, 3, 4] (by decide) rfl
    refine aft_i (runMG (rest := []) (As := [.int p0]) hx hb hml hown htb ((hX) D E th ta tsize trule twords tat tword twordAt tvalue tf0 ua usize uf0 uf1 sv sn sf _ (by (try dsimp only); omega) (by (try dsimp only); omega) hsn (by (try dsimp only); omega) g1) ok_X6_readComparison k_680 k_682 ks_19 k_5 k_683 ⟨show b + 8 + 4 + 1 ≤ b + 8 + 5 from by omega, show 8 + (4 + 11) + 40 * (b + 8 + 4) ≤ 40 * (b + 8 + 5) from by omega⟩ ⟨(Nat.le_of_ble_eq_true rfl), (Nat.le_of_ble_eq_true rfl)⟩ hl.1 (Nat.le_of_ble_eq_true rfl) rfl rfl dX6_readNegation_11 (pmVS hPc hDc hK rfl rfl 0 rfl hG hS (va_free hD hS hA [0, 1, 2, 3, 4] rfl))) hP hD hS hA [0, 1, 2, 3, 4] [] (wr := ([] : va_W)) rfl rfl (by decide) (by decide) (fun r_27 u_29 H locs hw_28 hP hD hS => ?_)
    clear hPc hDc
    obtain ⟨w_30, w_31, w_32, w_33, w_34, w_35, w_36⟩ := u_29
    try dsimp only at hw_28
    have hP : va_P D vwCl [(th, .inr (6, G6 ta tsize trule twords w_30 w_32 w_33 w_31)), ((ta 0), .inl (E 0, 120, .inl tf0)), (trule, .inr (4, G4 ua w_36)), ((ua 0), .inl (E 0, 120, .inl w_34)), ((ua 1), .inl (E 0, 120, .inl w_35))] H := hP
    have hD := toW hP hD rfl
    obtain ⟨hw_28_0, hw_28_1, hw_28_2⟩ := hw_28
    obtain ⟨hw_28_2r, hw_28_2k⟩ := hw_28_2
    have hP9 := hP.sub (ws' := [(th, .inr (6, G6 ta tsize trule twords w_30 w_32 w_33 w_31)), ((ta 0), .inl (E 0, 120, .inl tf0)), (trule, .inr (4, G4 ua w_36)), ((ua 0), .inl (E 0, 120, .inl w_34)), ((ua 1), .inl (E 0, 120, .inl w_35))]) [0, 1, 2, 3, 4] rfl
    have hD9 := hD.sub (ws' := [(th, .inr (6, G6 ta tsize trule twords w_30 w_32 w_33 w_31)), ((ta 0), .inl (E 0, 120, .inl tf0)), (trule, .inr (4, G4 ua w_36)), ((ua 0), .inl (E 0, 120, .inl w_34)), ((ua 1), .inl (E 0, 120, .inl w_35))]) [0, 1, 2, 3, 4] (by decide) rfl
    exact W.zret (v := r_27) hx hb hr (nar_z (by omega) (by omega)) (fun t ht hW => ⟨⟨r_27, (w_30, w_31, w_32, w_33, w_34, w_35, w_36), rfl, ⟨(by (try dsimp only); omega), (by (try dsimp only); omega), (by have hl4 := t_4; have hl5 := t_5; have hl6 := t_6; have hl7 := t_7; have hl8 := t_8; have hl40 := t_40; have hl41 := t_41; have hl42 := t_42; have hl43 := t_43; have hl45 := t_45; have hl47 := t_47; have hl60 := t_60; have hl61 := t_61; have hl62 := t_62; (try dsimp only); exact ⟨by omega, RN_up (by omega) hw_28_2k⟩)⟩, by rw [ht]; exact hP9, hD9⟩, hS.F ht⟩) hS.2.2 dX6_readNegation_14
set_option maxHeartbeats 4000000 in
set_option maxRecDepth 100000 in
theorem g_X6_readBoth (l : Launch) (b : Nat) (p0 : Int32) (hb8 : 8 ≤ b) (h15 : 0 ≤ p0.toInt ∧ p0.toInt ≤ 15) (hX : M_X6_readNegation l (b) p0) : M_X6_readBoth l (b) p0 := by
  intro D E th ta tsize trule twords tat tword twordAt tvalue tf0 ua usize uf0 uf1 sv sn sf sz hi_t hi_u hsn g0 g1
  refine Met.ofW (cc := cX6_readBoth) (maxL := 4) (ret := (some .boolean)) (by decide) rfl ?_
  intro p e s m args below meth c s₁ B hml hv
  obtain ⟨rfl, hsz, hP, hK, hD0, hG⟩ := hv
  have hx := B.exec; have hb := B.bytes; have hr := B.returns
  have hts := atoms_spec (ws := wl yX6_readBoth cX6_readBoth 4 (some .boolean)) B.pre
  have htb : ∀ w ∈ tb, w.before _ s = true := fun w h => hts w (List.mem_cons_of_mem _ h)
  have hown : s.vm.findClass RX6 = some m.cls := findClass_of_methodNamed B.named
  have hlocks := B.notSynchronized
  subst hsz
  have hD := hD0.self (sz := s.heap.size)
  generalize hAe : va_A [(th, .inr (6, G6 ta tsize trule twords tat tword twordAt tvalue)), ((ta 0), .inl (E 0, 120, .inl tf0)), (trule, .inr (4, G4 ua usize)), ((ua 0), .inl (E 0, 120, .inl uf0)), ((ua 1), .inl (E 0, 120, .inl uf1))] s.heap.size = A at hD hG ⊢
  have hA : ∀ q : Nat, s.heap.size ≤ q → A q := fun q h => by rw [← hAe]; exact Or.inr h
  have hS : va_S A s.heap s.heap [] := va_S.rf
  have hP : va_P D vwCl [(th, .inr (6, G6 ta tsize trule twords tat tword twordAt tvalue)), ((ta 0), .inl (E 0, 120, .inl tf0)), (trule, .inr (4, G4 ua usize)), ((ua 0), .inl (E 0, 120, .inl uf0)), ((ua 1), .inl (E 0, 120, .inl uf1))] s.heap := hP
  have hl := lv_entry ([.ref th, .int p0]) (n := 4) (Nat.le_of_ble_eq_true rfl)
  rw [lg_entry_eq]
  generalize (lg_sl ([.ref th, .int p0]) ++ List.replicate (4 - (lg_sl ([.ref th, .int p0])).length) Slot.unset).toArray = ls at hl ⊢
  have hl : lv_has ls 4 [(0, .ref th), (1, .int p0)] := hl
  have lo_p0 := i_lo p0; have hi_p0 := i_hi p0
  refine lv_aload_n hx hb dX6_readBoth_0 rfl (lv_at hl 0 rfl) ?_
  refine lv_iload_n hx hb dX6_readBoth_1 rfl (lv_at hl 1 rfl) ?_
  have hPc := hP.sub (ws' := [(th, .inr (6, G6 ta tsize trule twords tat tword twordAt tvalue)), ((ta 0), .inl (E 0, 120, .inl tf0)), (trule, .inr (4, G4 ua usize)), ((ua 0), .inl (E 0, 120, .inl uf0)), ((ua 1), .inl (E 0, 120, .inl uf1))]) [0, 1, 2, 3, 4] rfl
  have hDc := hD.sub (ws' := [(th, .inr (6, G6 ta tsize trule twords tat tword twordAt tvalue)), ((ta 0), .inl (E 0, 120, .inl tf0)), (trule, .inr (4, G4 ua usize)), ((ua 0), .inl (E 0, 120, .inl uf0)), ((ua 1), .inl (E 0, 120, .inl uf1))]) [0, 1, 2, 3, 4] (by decide) rfl
  refine aft_i (runMG (rest := []) (As := [.int p0]) hx hb hml hown htb ((hX) D E th ta tsize trule twords tat tword twordAt tvalue tf0 ua usize uf0 uf1 sv sn sf _ (by (try dsimp only); omega) (by (try dsimp only); omega) hsn (by (try dsimp only); omega) g1) ok_X6_readNegation k_676 k_678 ks_18 k_5 k_679 ⟨show b + 5 + 1 ≤ b + 6 from by omega, show 8 + (3 + 11) + 40 * (b + 5) ≤ 40 * (b + 6) from by omega⟩ ⟨(Nat.le_of_ble_eq_true rfl), (Nat.le_of_ble_eq_true rfl)⟩ hl.1 (Nat.le_of_ble_eq_true rfl) rfl rfl dX6_readBoth_2 (pmVS hPc hDc hK rfl rfl 0 rfl hG hS (va_free hD hS hA [0, 1, 2, 3, 4] rfl))) hP hD hS hA [0, 1, 2, 3, 4] [] (wr := ([] : va_W)) rfl rfl (by decide) (by decide) (fun r_1 u_3 H locs hw_2 hP hD hS => ?_)
  clear hPc hDc
  obtain ⟨w_4, w_5, w_6, w_7, w_8, w_9, w_10⟩ := u_3
  try dsimp only at hw_2
  have hP : va_P D vwCl [(th, .inr (6, G6 ta tsize trule twords w_4 w_6 w_7 w_5)), ((ta 0), .inl (E 0, 120, .inl tf0)), (trule, .inr (4, G4 ua w_10)), ((ua 0), .inl (E 0, 120, .inl w_8)), ((ua 1), .inl (E 0, 120, .inl w_9))] H := hP
  have hD := toW hP hD rfl
  obtain ⟨hw_2_0, hw_2_1, hw_2_2⟩ := hw_2
  obtain ⟨hw_2_2r, hw_2_2k⟩ := hw_2_2
  refine lv_istore_n (lv' := [(2, .int r_1), (0, .ref th), (1, .int p0)]) hx hb dX6_readBoth_5 rfl hl (by decide) rfl (fun ls hl => ?_)
  refine lv_iconst (v := 0) hx hb dX6_readBoth_6 (by decide) ?_
  refine lv_istore_n (lv' := [(3, .int 0), (2, .int r_1), (0, .ref th), (1, .int p0)]) hx hb dX6_readBoth_7 rfl hl (by decide) rfl (fun ls hl => ?_)
  have loop_11 : ∀ (N_13 : Nat) (L3_8 : Int32) (L2_8 : Int32) (tat_8 : Int32) (tword_8 : Int32) (twordAt_8 : Int32) (tvalue_8 : Int32) (usize_8 : Int32) (uf0_8 : Nat → Int32) (uf1_8 : Nat → Int32) (H : Heap) (locs : List Loc) (ls : Array Slot), 120 - L3_8.toInt < (N_13 : Int) → (0 ≤ usize_8.toInt ∧ usize_8.toInt ≤ 120) → (0 ≤ L3_8.toInt ∧ L3_8.toInt ≤ 120 ∧ 0 ≤ L2_8.toInt ∧ L2_8.toInt ≤ 1) → (0 ≤ tat_8.toInt ∧ tat_8.toInt ≤ tsize.toInt ∧ 0 ≤ twordAt_8.toInt ∧ twordAt_8.toInt ≤ tat_8.toInt) → (RKP sn sf tf0 (tsize).toNatClampNeg 2 3 p0.toInt L3_8.toInt tat twordAt tword tvalue usize uf0 uf1 tat_8 twordAt_8 tword_8 tvalue_8 usize_8 uf0_8 uf1_8 L2_8) → va_P D vwCl [(th, .inr (6, G6 ta tsize trule twords tat_8 tword_8 twordAt_8 tvalue_8)), ((ta 0), .inl (E 0, 120, .inl tf0)), (trule, .inr (4, G4 ua usize_8)), ((ua 0), .inl (E 0, 120, .inl uf0_8)), ((ua 1), .inl (E 0, 120, .inl uf1_8))] H → va_D A [(th, .inr (6, G6 ta tsize trule twords tat_8 tword_8 twordAt_8 tvalue_8)), ((ta 0), .inl (E 0, 120, .inl tf0)), (trule, .inr (4, G4 ua usize_8)), ((ua 0), .inl (E 0, 120, .inl uf0_8)), ((ua 1), .inl (E 0, 120, .inl uf1_8))] → va_S A s.heap H locs → lv_has ls 4 [(3, .int L3_8), (2, .int L2_8), (0, .ref th), (1, .int p0)] → W p l e (headSpec (wl yX6_readBoth cX6_readBoth 4 (some .boolean)) (RM (b + 6) 0 0)).room s m [Value.ref th, .int p0].toArray below meth c H locs 0 0 (MQ below (va_Qi (fun (r : Int32) (u : (Int32) × (Int32) × (Int32) × (Int32) × (Nat → Int32) × (Nat → Int32) × (Int32)) => (0 ≤ u.2.2.2.2.2.2.toInt ∧ u.2.2.2.2.2.2.toInt ≤ 120) ∧ (0 ≤ u.1.toInt ∧ u.1.toInt ≤ tsize.toInt ∧ 0 ≤ u.2.2.2.1.toInt ∧ u.2.2.2.1.toInt ≤ u.1.toInt) ∧ ((0 ≤ r.toInt ∧ r.toInt ≤ 1) ∧ RKP sn sf tf0 (tsize).toNatClampNeg 2 2 p0.toInt 0 tat twordAt tword tvalue usize uf0 uf1 u.1 u.2.2.2.1 u.2.2.1 u.2.1 u.2.2.2.2.2.2 u.2.2.2.2.1 u.2.2.2.2.2.1 r)) (mu_B D A (fun (u : (Int32) × (Int32) × (Int32) × (Int32) × (Nat → Int32) × (Nat → Int32) × (Int32)) => [(th, .inr (6, G6 ta tsize trule twords u.1 u.2.2.1 u.2.2.2.1 u.2.1)), ((ta 0), .inl (E 0, 120, .inl tf0)), (trule, .inr (4, G4 ua u.2.2.2.2.2.2)), ((ua 0), .inl (E 0, 120, .inl u.2.2.2.2.1)), ((ua 1), .inl (E 0, 120, .inl u.2.2.2.2.2.1))])) A) [Value.ref th, .int p0].toArray s 0 0 A) (F0 m 8 ls []) := by
    intro N_13
    induction N_13 with
    | zero => intro L3_8 L2_8 tat_8 tword_8 twordAt_8 tvalue_8 usize_8 uf0_8 uf1_8 H locs ls hm v_usize_8 v0_8 v1_8 v2_8 _ _ _ _; exfalso; omega
    | succ N_13 ih_12 =>
      intro L3_8 L2_8 tat_8 tword_8 twordAt_8 tvalue_8 usize_8 uf0_8 uf1_8 H locs ls hm v_usize_8 v0_8 v1_8 v2_8 hP hD hS hl
      have lo_L3_8 := i_lo L3_8; have hi_L3_8 := i_hi L3_8
      have lo_L2_8 := i_lo L2_8; have hi_L2_8 := i_hi L2_8
      have lo_tat_8 := i_lo tat_8; have hi_tat_8 := i_hi tat_8
      have lo_tword_8 := i_lo tword_8; have hi_tword_8 := i_hi tword_8
      have lo_twordAt_8 := i_lo twordAt_8; have hi_twordAt_8 := i_hi twordAt_8
      have lo_tvalue_8 := i_lo tvalue_8; have hi_tvalue_8 := i_hi tvalue_8
      have lo_usize_8 := i_lo usize_8; have hi_usize_8 := i_hi usize_8
      refine lv_iload_n hx hb dX6_readBoth_8 rfl (lv_at hl 0 rfl) ?_
      refine lv_bipush (v := 120) hx hb dX6_readBoth_9 (by decide) ?_
      refine lv_icmp_ge (tgt := 51) hx hb dX6_readBoth_11 (by decide) (fun c_14 => ?_) (fun c_14 => ?_)
      ·
        have ic_14 : 120 ≤ L3_8.toInt := by first | exact (g_le t_120 rfl).mp c_14 | (have h := mt (g_lt rfl t_120).mpr c_14; omega)
        clear c_14
        refine lv_iload_n hx hb dX6_readBoth_51 rfl (lv_at hl 1 rfl) ?_
        have hP9 := hP.sub (ws' := [(th, .inr (6, G6 ta tsize trule twords tat_8 tword_8 twordAt_8 tvalue_8)), ((ta 0), .inl (E 0, 120, .inl tf0)), (trule, .inr (4, G4 ua usize_8)), ((ua 0), .inl (E 0, 120, .inl uf0_8)), ((ua 1), .inl (E 0, 120, .inl uf1_8))]) [0, 1, 2, 3, 4] rfl
        have hD9 := hD.sub (ws' := [(th, .inr (6, G6 ta tsize trule twords tat_8 tword_8 twordAt_8 tvalue_8)), ((ta 0), .inl (E 0, 120, .inl tf0)), (trule, .inr (4, G4 ua usize_8)), ((ua 0), .inl (E 0, 120, .inl uf0_8)), ((ua 1), .inl (E 0, 120, .inl uf1_8))]) [0, 1, 2, 3, 4] (by decide) rfl
        exact W.zret (v := L2_8) hx hb hr (nar_z (by omega) (by omega)) (fun t ht hW => ⟨⟨L2_8, (tat_8, tvalue_8, tword_8, twordAt_8, uf0_8, uf1_8, usize_8), rfl, ⟨(by (try dsimp only); omega), (by (try dsimp only); omega), (by have hl4 := t_4; have hl5 := t_5; have hl6 := t_6; have hl7 := t_7; have hl8 := t_8; have hl40 := t_40; have hl41 := t_41; have hl42 := t_42; have hl43 := t_43; have hl45 := t_45; have hl47 := t_47; have hl60 := t_60; have hl61 := t_61; have hl62 := t_62; (try dsimp only); exact ⟨by omega, RK_end v2_8 (by unfold LVL; omega) (by omega) (by omega) (by have c0 := i_clamp0 (x := tsize) (by omega); omega)⟩)⟩, by rw [ht]; exact hP9, hD9⟩, hS.F ht⟩) hS.2.2 dX6_readBoth_52
      ·
        have ic_14 : L3_8.toInt < 120 := by first | exact (g_lt rfl t_120).mp c_14 | (have h := mt (g_le t_120 rfl).mpr c_14; omega)
        clear c_14
        refine lv_iload_n hx hb dX6_readBoth_14 rfl (lv_at hl 1 rfl) ?_
        refine lv_if_eq (tgt := 51) hx hb dX6_readBoth_15 (by decide) (fun c_15 => ?_) (fun c_15 => ?_)
        ·
          have ic_15 : L2_8.toInt = 0 := (g_eq rfl t_0).mp c_15
          clear c_15
          refine lv_iload_n hx hb dX6_readBoth_51 rfl (lv_at hl 1 rfl) ?_
          have hP9 := hP.sub (ws' := [(th, .inr (6, G6 ta tsize trule twords tat_8 tword_8 twordAt_8 tvalue_8)), ((ta 0), .inl (E 0, 120, .inl tf0)), (trule, .inr (4, G4 ua usize_8)), ((ua 0), .inl (E 0, 120, .inl uf0_8)), ((ua 1), .inl (E 0, 120, .inl uf1_8))]) [0, 1, 2, 3, 4] rfl
          have hD9 := hD.sub (ws' := [(th, .inr (6, G6 ta tsize trule twords tat_8 tword_8 twordAt_8 tvalue_8)), ((ta 0), .inl (E 0, 120, .inl tf0)), (trule, .inr (4, G4 ua usize_8)), ((ua 0), .inl (E 0, 120, .inl uf0_8)), ((ua 1), .inl (E 0, 120, .inl uf1_8))]) [0, 1, 2, 3, 4] (by decide) rfl
          exact W.zret (v := L2_8) hx hb hr (nar_z (by omega) (by omega)) (fun t ht hW => ⟨⟨L2_8, (tat_8, tvalue_8, tword_8, twordAt_8, uf0_8, uf1_8, usize_8), rfl, ⟨(by (try dsimp only); omega), (by (try dsimp only); omega), (by have hl4 := t_4; have hl5 := t_5; have hl6 := t_6; have hl7 := t_7; have hl8 := t_8; have hl40 := t_40; have hl41 := t_41; have hl42 := t_42; have hl43 := t_43; have hl45 := t_45; have hl47 := t_47; have hl60 := t_60; have hl61 := t_61; have hl62 := t_62; (try dsimp only); exact ⟨by omega, RK_end v2_8 (by unfold LVL; omega) (by omega) (by omega) (by have c0 := i_clamp0 (x := tsize) (by omega); omega)⟩)⟩, by rw [ht]; exact hP9, hD9⟩, hS.F ht⟩) hS.2.2 dX6_readBoth_52
        ·
          have ic_15 : L2_8.toInt ≠ 0 := mt (g_eq rfl t_0).mpr c_15
          clear c_15
          refine lv_aload_n hx hb dX6_readBoth_18 rfl (lv_at hl 2 rfl) ?_
          refine va_get (D := D) (ci := 6) (v := .int tword_8) (C := RX6) (T := TX6) (N := 8) hx hb htb iX6 hown hK.1 hP 0 rfl rfl 5 (by decide) (htb _ k_163) (fun _ h9 => h9) rfl dX6_readBoth_19 ?_
          refine lv_iconst (v := 5) hx hb dX6_readBoth_22 (by decide) ?_
          refine lv_icmp_ne (tgt := 51) hx hb dX6_readBoth_23 (by decide) (fun c_16 => ?_) (fun c_16 => ?_)
          ·
            have ic_16 : tword_8.toInt ≠ 5 := mt (g_eq rfl t_5).mpr c_16
            clear c_16
            refine lv_iload_n hx hb dX6_readBoth_51 rfl (lv_at hl 1 rfl) ?_
            have hP9 := hP.sub (ws' := [(th, .inr (6, G6 ta tsize trule twords tat_8 tword_8 twordAt_8 tvalue_8)), ((ta 0), .inl (E 0, 120, .inl tf0)), (trule, .inr (4, G4 ua usize_8)), ((ua 0), .inl (E 0, 120, .inl uf0_8)), ((ua 1), .inl (E 0, 120, .inl uf1_8))]) [0, 1, 2, 3, 4] rfl
            have hD9 := hD.sub (ws' := [(th, .inr (6, G6 ta tsize trule twords tat_8 tword_8 twordAt_8 tvalue_8)), ((ta 0), .inl (E 0, 120, .inl tf0)), (trule, .inr (4, G4 ua usize_8)), ((ua 0), .inl (E 0, 120, .inl uf0_8)), ((ua 1), .inl (E 0, 120, .inl uf1_8))]) [0, 1, 2, 3, 4] (by decide) rfl
            exact W.zret (v := L2_8) hx hb hr (nar_z (by omega) (by omega)) (fun t ht hW => ⟨⟨L2_8, (tat_8, tvalue_8, tword_8, twordAt_8, uf0_8, uf1_8, usize_8), rfl, ⟨(by (try dsimp only); omega), (by (try dsimp only); omega), (by have hl4 := t_4; have hl5 := t_5; have hl6 := t_6; have hl7 := t_7; have hl8 := t_8; have hl40 := t_40; have hl41 := t_41; have hl42 := t_42; have hl43 := t_43; have hl45 := t_45; have hl47 := t_47; have hl60 := t_60; have hl61 := t_61; have hl62 := t_62; (try dsimp only); exact ⟨by omega, RK_end v2_8 (by unfold LVL; omega) (by omega) (by omega) (by have c0 := i_clamp0 (x := tsize) (by omega); omega)⟩)⟩, by rw [ht]; exact hP9, hD9⟩, hS.F ht⟩) hS.2.2 dX6_readBoth_52
          ·
            have ic_16 : tword_8.toInt = 5 := (g_eq rfl t_5).mp c_16
            clear c_16
            refine lv_aload_n hx hb dX6_readBoth_26 rfl (lv_at hl 2 rfl) ?_
            have hPc := hP.sub (ws' := [(th, .inr (6, G6 ta tsize trule twords tat_8 tword_8 twordAt_8 tvalue_8)), ((ta 0), .inl (E 0, 120, .inl tf0))]) [0, 1] rfl
            have hDc := hD.sub (ws' := [(th, .inr (6, G6 ta tsize trule twords tat_8 tword_8 twordAt_8 tvalue_8)), ((ta 0), .inl (E 0, 120, .inl tf0))]) [0, 1] (by decide) rfl
            refine aft_v (runMG (rest := []) (As := []) hx hb hml hown htb (g_X6_goOn l D E th ta tsize trule twords tat_8 tword_8 twordAt_8 tvalue_8 tf0 sv sn sf _ (by (try dsimp only); omega) hsn (by (try dsimp only); omega) g1) ok_X6_goOn k_591 k_593 ks_11 k_5 k_594 ⟨show 7 + 1 ≤ b + 6 from by omega, show 8 + (1 + 11) + 40 * (7) ≤ 40 * (b + 6) from by omega⟩ ⟨(Nat.le_of_ble_eq_true rfl), (Nat.le_of_ble_eq_true rfl)⟩ hl.1 (Nat.le_of_ble_eq_true rfl) rfl rfl dX6_readBoth_27 (pmVS hPc hDc hK rfl rfl 0 rfl hG hS (va_free hD hS hA [0, 1] rfl))) hP hD hS hA [0, 1] [2, 3, 4] (wr := [(trule, .inr (4, G4 ua usize_8)), ((ua 0), .inl (E 0, 120, .inl uf0_8)), ((ua 1), .inl (E 0, 120, .inl uf1_8))]) rfl rfl (by decide) (by decide) (fun u_19 H locs hw_18 hP hD hS => ?_)
            clear hPc hDc
            obtain ⟨w_20, w_21, w_22, w_23⟩ := u_19
            try dsimp only at hw_18
            have hP : va_P D vwCl [(trule, .inr (4, G4 ua usize_8)), ((ua 0), .inl (E 0, 120, .inl uf0_8)), ((ua 1), .inl (E 0, 120, .inl uf1_8)), (th, .inr (6, G6 ta tsize trule twords w_20 w_22 w_23 w_21)), ((ta 0), .inl (E 0, 120, .inl tf0))] H := hP
            have hD := toW hP hD rfl
            obtain ⟨hw_18_0, hw_18_1⟩ := hw_18
            refine lv_aload_n hx hb dX6_readBoth_30 rfl (lv_at hl 2 rfl) ?_
            refine lv_iload_n hx hb dX6_readBoth_31 rfl (lv_at hl 3 rfl) ?_
            have hPc := hP.sub (ws' := [(th, .inr (6, G6 ta tsize trule twords w_20 w_22 w_23 w_21)), ((ta 0), .inl (E 0, 120, .inl tf0)), (trule, .inr (4, G4 ua usize_8)), ((ua 0), .inl (E 0, 120, .inl uf0_8)), ((ua 1), .inl (E 0, 120, .inl uf1_8))]) [3, 4, 0, 1, 2] rfl
            have hDc := hD.sub (ws' := [(th, .inr (6, G6 ta tsize trule twords w_20 w_22 w_23 w_21)), ((ta 0), .inl (E 0, 120, .inl tf0)), (trule, .inr (4, G4 ua usize_8)), ((ua 0), .inl (E 0, 120, .inl uf0_8)), ((ua 1), .inl (E 0, 120, .inl uf1_8))]) [3, 4, 0, 1, 2] (by decide) rfl
            refine aft_i (runMG (rest := []) (As := [.int p0]) hx hb hml hown htb ((hX) D E th ta tsize trule twords w_20 w_22 w_23 w_21 tf0 ua usize_8 uf0_8 uf1_8 sv sn sf _ (by (try dsimp only); omega) (by (try dsimp only); omega) hsn (by (try dsimp only); omega) g1) ok_X6_readNegation k_676 k_678 ks_18 k_5 k_679 ⟨show b + 5 + 1 ≤ b + 6 from by omega, show 8 + (3 + 11) + 40 * (b + 5) ≤ 40 * (b + 6) from by omega⟩ ⟨(Nat.le_of_ble_eq_true rfl), (Nat.le_of_ble_eq_true rfl)⟩ hl.1 (Nat.le_of_ble_eq_true rfl) rfl rfl dX6_readBoth_32 (pmVS hPc hDc hK rfl rfl 0 rfl hG hS (va_free hD hS hA [3, 4, 0, 1, 2] rfl))) hP hD hS hA [3, 4, 0, 1, 2] [] (wr := ([] : va_W)) rfl rfl (by decide) (by decide) (fun r_24 u_26 H locs hw_25 hP hD hS => ?_)
            clear hPc hDc
            obtain ⟨w_27, w_28, w_29, w_30, w_31, w_32, w_33⟩ := u_26
            try dsimp only at hw_25
            have hP : va_P D vwCl [(th, .inr (6, G6 ta tsize trule twords w_27 w_29 w_30 w_28)), ((ta 0), .inl (E 0, 120, .inl tf0)), (trule, .inr (4, G4 ua w_33)), ((ua 0), .inl (E 0, 120, .inl w_31)), ((ua 1), .inl (E 0, 120, .inl w_32))] H := hP
            have hD := toW hP hD rfl
            obtain ⟨hw_25_0, hw_25_1, hw_25_2⟩ := hw_25
            obtain ⟨hw_25_2r, hw_25_2k⟩ := hw_25_2
            refine lv_istore_n (lv' := [(2, .int r_24), (3, .int L3_8), (0, .ref th), (1, .int p0)]) hx hb dX6_readBoth_35 rfl hl (by decide) rfl (fun ls hl => ?_)
            refine lv_aload_n hx hb dX6_readBoth_36 rfl (lv_at hl 2 rfl) ?_
            refine va_get (D := D) (ci := 6) (v := .ref trule) (C := RX6) (T := TX6) (N := 8) hx hb htb iX6 hown hK.1 hP 0 rfl rfl 2 (by decide) (htb _ k_160) (fun _ h9 => h9) rfl dX6_readBoth_37 ?_
            refine lv_iconst (v := 5) hx hb dX6_readBoth_40 (by decide) ?_
            refine lv_iconst (v := 0) hx hb dX6_readBoth_41 (by decide) ?_
            have hPc := hP.sub (ws' := [(trule, .inr (4, G4 ua w_33)), ((ua 0), .inl (E 0, 120, .inl w_31)), ((ua 1), .inl (E 0, 120, .inl w_32))]) [2, 3, 4] rfl
            have hDc := hD.sub (ws' := [(trule, .inr (4, G4 ua w_33)), ((ua 0), .inl (E 0, 120, .inl w_31)), ((ua 1), .inl (E 0, 120, .inl w_32))]) [2, 3, 4] (by decide) rfl
            refine aft_v (runMV (rest := []) (As := [.int 5, .int 0]) hx hb hml hown htb hK (g_X4_add l D E trule ua w_33 w_31 w_32 5 0 _ (by (try dsimp only); omega)) ok_X4_add k_696 k_697 k_698 k_6 k_699 ⟨show 0 + 1 ≤ b + 6 from by omega, show 8 + (3 + 11) + 40 * (0) ≤ 40 * (b + 6) from by omega⟩ ⟨(Nat.le_of_ble_eq_true rfl), (Nat.le_of_ble_eq_true rfl)⟩ hl.1 (Nat.le_of_ble_eq_true rfl) rfl rfl dX6_readBoth_42 hPc hDc rfl rfl 0 rfl) hP hD hS hA [2, 3, 4] [0, 1] (wr := [(th, .inr (6, G6 ta tsize trule twords w_27 w_29 w_30 w_28)), ((ta 0), .inl (E 0, 120, .inl tf0))]) rfl rfl (by decide) (by decide) (fun u_36 H locs hw_35 hP hD hS => ?_)
            clear hPc hDc
            obtain ⟨w_37, w_38, w_39⟩ := u_36
            try dsimp only at hw_35
            have hP : va_P D vwCl [(th, .inr (6, G6 ta tsize trule twords w_27 w_29 w_30 w_28)), ((ta 0), .inl (E 0, 120, .inl tf0)), (trule, .inr (4, G4 ua w_39)), ((ua 0), .inl (E 0, 120, .inl w_37)), ((ua 1), .inl (E 0, 120, .inl w_38))] H := hP
            have hD := toW hP hD rfl
            obtain ⟨hw_35_0, hw_35_1⟩ := hw_35
            try simp only [t_0, t_5] at hw_35_0
            try simp only [t_0, t_5] at hw_35_1
            obtain ⟨z_40, ez_40⟩ : ∃ y : Int32, y = L3_8 + 1 := ⟨_, rfl⟩
            have jz_40 : z_40.toInt = L3_8.toInt + 1 := by rw [ez_40]; exact g_add rfl t_1 (by omega) (by omega)
            refine lv_iinc (v := z_40) (lv' := [(3, .int z_40), (2, .int r_24), (0, .ref th), (1, .int p0)]) hx hb dX6_readBoth_45 hl (k := 1) rfl (by rw [ez_40]; rfl) (by decide) rfl (fun ls hl => ?_)
            refine lv_goto (tgt := 8) hx hb dX6_readBoth_48 (by decide) ?_
            exact ih_12 z_40 r_24 w_27 w_29 w_30 w_28 w_39 w_37 w_38 _ _ _ (by (try dsimp only); omega) (by (try dsimp only); omega) (by (try dsimp only); omega) (by (try dsimp only); omega) (by have hl := t_0; have hl4 := t_4; have hl5 := t_5; have hl6 := t_6; have hl7 := t_7; have hl8 := t_8; have hl40 := t_40; have hl41 := t_41; have hl42 := t_42; have hl43 := t_43; have hl45 := t_45; have hl47 := t_47; have hl60 := t_60; have hl61 := t_61; have hl62 := t_62; exact RKP_i (RK_rnd v2_8 (by omega) (by omega) hw_18_1 hw_25_2k hw_35_1 (by omega) (by omega) (by have c0 := i_clamp0 (x := tsize) (by omega); omega)) (by omega)) hP hD hS (lv_sub hl [0, 1, 2, 3] rfl)
  exact loop_11 121 0 r_1 w_4 w_6 w_7 w_5 w_10 w_8 w_9 _ _ _ (by have h0 := t_0; (try dsimp only); omega) (by (try dsimp only); omega) (by have h0 := t_0; (try dsimp only); omega) (by have h0 := t_0; (try dsimp only); omega) (RKP_i (RK_up (by unfold LVL; omega) hw_2_2k) t_0.symm) hP hD hS (lv_sub hl [0, 1, 2, 3] rfl)
set_option maxHeartbeats 4000000 in
set_option maxRecDepth 100000 in
theorem g_X6_readEither (l : Launch) (b : Nat) (p0 : Int32) (hb8 : 8 ≤ b) (h15 : 0 ≤ p0.toInt ∧ p0.toInt ≤ 15) (hX : M_X6_readBoth l (b) p0) : M_X6_readEither l (b) p0 := by
  intro D E th ta tsize trule twords tat tword twordAt tvalue tf0 ua usize uf0 uf1 sv sn sf sz hi_t hi_u hsn g0 g1
  refine Met.ofW (cc := cX6_readEither) (maxL := 4) (ret := (some .boolean)) (by decide) rfl ?_
  intro p e s m args below meth c s₁ B hml hv
  obtain ⟨rfl, hsz, hP, hK, hD0, hG⟩ := hv
  have hx := B.exec; have hb := B.bytes; have hr := B.returns
  have hts := atoms_spec (ws := wl yX6_readEither cX6_readEither 4 (some .boolean)) B.pre
  have htb : ∀ w ∈ tb, w.before _ s = true := fun w h => hts w (List.mem_cons_of_mem _ h)
  have hown : s.vm.findClass RX6 = some m.cls := findClass_of_methodNamed B.named
  have hlocks := B.notSynchronized
  subst hsz
  have hD := hD0.self (sz := s.heap.size)
  generalize hAe : va_A [(th, .inr (6, G6 ta tsize trule twords tat tword twordAt tvalue)), ((ta 0), .inl (E 0, 120, .inl tf0)), (trule, .inr (4, G4 ua usize)), ((ua 0), .inl (E 0, 120, .inl uf0)), ((ua 1), .inl (E 0, 120, .inl uf1))] s.heap.size = A at hD hG ⊢
  have hA : ∀ q : Nat, s.heap.size ≤ q → A q := fun q h => by rw [← hAe]; exact Or.inr h
  have hS : va_S A s.heap s.heap [] := va_S.rf
  have hP : va_P D vwCl [(th, .inr (6, G6 ta tsize trule twords tat tword twordAt tvalue)), ((ta 0), .inl (E 0, 120, .inl tf0)), (trule, .inr (4, G4 ua usize)), ((ua 0), .inl (E 0, 120, .inl uf0)), ((ua 1), .inl (E 0, 120, .inl uf1))] s.heap := hP
  have hl := lv_entry ([.ref th, .int p0]) (n := 4) (Nat.le_of_ble_eq_true rfl)
  rw [lg_entry_eq]
  generalize (lg_sl ([.ref th, .int p0]) ++ List.replicate (4 - (lg_sl ([.ref th, .int p0])).length) Slot.unset).toArray = ls at hl ⊢
  have hl : lv_has ls 4 [(0, .ref th), (1, .int p0)] := hl
  have lo_p0 := i_lo p0; have hi_p0 := i_hi p0
  refine lv_aload_n hx hb dX6_readEither_0 rfl (lv_at hl 0 rfl) ?_
  refine lv_iload_n hx hb dX6_readEither_1 rfl (lv_at hl 1 rfl) ?_
  have hPc := hP.sub (ws' := [(th, .inr (6, G6 ta tsize trule twords tat tword twordAt tvalue)), ((ta 0), .inl (E 0, 120, .inl tf0)), (trule, .inr (4, G4 ua usize)), ((ua 0), .inl (E 0, 120, .inl uf0)), ((ua 1), .inl (E 0, 120, .inl uf1))]) [0, 1, 2, 3, 4] rfl
  have hDc := hD.sub (ws' := [(th, .inr (6, G6 ta tsize trule twords tat tword twordAt tvalue)), ((ta 0), .inl (E 0, 120, .inl tf0)), (trule, .inr (4, G4 ua usize)), ((ua 0), .inl (E 0, 120, .inl uf0)), ((ua 1), .inl (E 0, 120, .inl uf1))]) [0, 1, 2, 3, 4] (by decide) rfl
  refine aft_i (runMG (rest := []) (As := [.int p0]) hx hb hml hown htb ((hX) D E th ta tsize trule twords tat tword twordAt tvalue tf0 ua usize uf0 uf1 sv sn sf _ (by (try dsimp only); omega) (by (try dsimp only); omega) hsn (by (try dsimp only); omega) g1) ok_X6_readBoth k_672 k_674 ks_17 k_5 k_675 ⟨show b + 6 + 1 ≤ b + 7 from by omega, show 8 + (4 + 11) + 40 * (b + 6) ≤ 40 * (b + 7) from by omega⟩ ⟨(Nat.le_of_ble_eq_true rfl), (Nat.le_of_ble_eq_true rfl)⟩ hl.1 (Nat.le_of_ble_eq_true rfl) rfl rfl dX6_readEither_2 (pmVS hPc hDc hK rfl rfl 0 rfl hG hS (va_free hD hS hA [0, 1, 2, 3, 4] rfl))) hP hD hS hA [0, 1, 2, 3, 4] [] (wr := ([] : va_W)) rfl rfl (by decide) (by decide) (fun r_1 u_3 H locs hw_2 hP hD hS => ?_)
  clear hPc hDc
  obtain ⟨w_4, w_5, w_6, w_7, w_8, w_9, w_10⟩ := u_3
  try dsimp only at hw_2
  have hP : va_P D vwCl [(th, .inr (6, G6 ta tsize trule twords w_4 w_6 w_7 w_5)), ((ta 0), .inl (E 0, 120, .inl tf0)), (trule, .inr (4, G4 ua w_10)), ((ua 0), .inl (E 0, 120, .inl w_8)), ((ua 1), .inl (E 0, 120, .inl w_9))] H := hP
  have hD := toW hP hD rfl
  obtain ⟨hw_2_0, hw_2_1, hw_2_2⟩ := hw_2
  obtain ⟨hw_2_2r, hw_2_2k⟩ := hw_2_2
  refine lv_istore_n (lv' := [(2, .int r_1), (0, .ref th), (1, .int p0)]) hx hb dX6_readEither_5 rfl hl (by decide) rfl (fun ls hl => ?_)
  refine lv_iconst (v := 0) hx hb dX6_readEither_6 (by decide) ?_
  refine lv_istore_n (lv' := [(3, .int 0), (2, .int r_1), (0, .ref th), (1, .int p0)]) hx hb dX6_readEither_7 rfl hl (by decide) rfl (fun ls hl => ?_)
  have loop_11 : ∀ (N_13 : Nat) (L3_8 : Int32) (L2_8 : Int32) (tat_8 : Int32) (tword_8 : Int32) (twordAt_8 : Int32) (tvalue_8 : Int32) (usize_8 : Int32) (uf0_8 : Nat → Int32) (uf1_8 : Nat → Int32) (H : Heap) (locs : List Loc) (ls : Array Slot), 120 - L3_8.toInt < (N_13 : Int) → (0 ≤ usize_8.toInt ∧ usize_8.toInt ≤ 120) → (0 ≤ L3_8.toInt ∧ L3_8.toInt ≤ 120 ∧ 0 ≤ L2_8.toInt ∧ L2_8.toInt ≤ 1) → (0 ≤ tat_8.toInt ∧ tat_8.toInt ≤ tsize.toInt ∧ 0 ≤ twordAt_8.toInt ∧ twordAt_8.toInt ≤ tat_8.toInt) → (RKP sn sf tf0 (tsize).toNatClampNeg 1 2 p0.toInt L3_8.toInt tat twordAt tword tvalue usize uf0 uf1 tat_8 twordAt_8 tword_8 tvalue_8 usize_8 uf0_8 uf1_8 L2_8) → va_P D vwCl [(th, .inr (6, G6 ta tsize trule twords tat_8 tword_8 twordAt_8 tvalue_8)), ((ta 0), .inl (E 0, 120, .inl tf0)), (trule, .inr (4, G4 ua usize_8)), ((ua 0), .inl (E 0, 120, .inl uf0_8)), ((ua 1), .inl (E 0, 120, .inl uf1_8))] H → va_D A [(th, .inr (6, G6 ta tsize trule twords tat_8 tword_8 twordAt_8 tvalue_8)), ((ta 0), .inl (E 0, 120, .inl tf0)), (trule, .inr (4, G4 ua usize_8)), ((ua 0), .inl (E 0, 120, .inl uf0_8)), ((ua 1), .inl (E 0, 120, .inl uf1_8))] → va_S A s.heap H locs → lv_has ls 4 [(3, .int L3_8), (2, .int L2_8), (0, .ref th), (1, .int p0)] → W p l e (headSpec (wl yX6_readEither cX6_readEither 4 (some .boolean)) (RM (b + 7) 0 0)).room s m [Value.ref th, .int p0].toArray below meth c H locs 0 0 (MQ below (va_Qi (fun (r : Int32) (u : (Int32) × (Int32) × (Int32) × (Int32) × (Nat → Int32) × (Nat → Int32) × (Int32)) => (0 ≤ u.2.2.2.2.2.2.toInt ∧ u.2.2.2.2.2.2.toInt ≤ 120) ∧ (0 ≤ u.1.toInt ∧ u.1.toInt ≤ tsize.toInt ∧ 0 ≤ u.2.2.2.1.toInt ∧ u.2.2.2.1.toInt ≤ u.1.toInt) ∧ ((0 ≤ r.toInt ∧ r.toInt ≤ 1) ∧ RKP sn sf tf0 (tsize).toNatClampNeg 1 1 p0.toInt 0 tat twordAt tword tvalue usize uf0 uf1 u.1 u.2.2.2.1 u.2.2.1 u.2.1 u.2.2.2.2.2.2 u.2.2.2.2.1 u.2.2.2.2.2.1 r)) (mu_B D A (fun (u : (Int32) × (Int32) × (Int32) × (Int32) × (Nat → Int32) × (Nat → Int32) × (Int32)) => [(th, .inr (6, G6 ta tsize trule twords u.1 u.2.2.1 u.2.2.2.1 u.2.1)), ((ta 0), .inl (E 0, 120, .inl tf0)), (trule, .inr (4, G4 ua u.2.2.2.2.2.2)), ((ua 0), .inl (E 0, 120, .inl u.2.2.2.2.1)), ((ua 1), .inl (E 0, 120, .inl u.2.2.2.2.2.1))])) A) [Value.ref th, .int p0].toArray s 0 0 A) (F0 m 8 ls []) := by
    intro N_13
    induction N_13 with
    | zero => intro L3_8 L2_8 tat_8 tword_8 twordAt_8 tvalue_8 usize_8 uf0_8 uf1_8 H locs ls hm v_usize_8 v0_8 v1_8 v2_8 _ _ _ _; exfalso; omega
    | succ N_13 ih_12 =>
      intro L3_8 L2_8 tat_8 tword_8 twordAt_8 tvalue_8 usize_8 uf0_8 uf1_8 H locs ls hm v_usize_8 v0_8 v1_8 v2_8 hP hD hS hl
      have lo_L3_8 := i_lo L3_8; have hi_L3_8 := i_hi L3_8
      have lo_L2_8 := i_lo L2_8; have hi_L2_8 := i_hi L2_8
      have lo_tat_8 := i_lo tat_8; have hi_tat_8 := i_hi tat_8
      have lo_tword_8 := i_lo tword_8; have hi_tword_8 := i_hi tword_8
      have lo_twordAt_8 := i_lo twordAt_8; have hi_twordAt_8 := i_hi twordAt_8
      have lo_tvalue_8 := i_lo tvalue_8; have hi_tvalue_8 := i_hi tvalue_8
      have lo_usize_8 := i_lo usize_8; have hi_usize_8 := i_hi usize_8
      refine lv_iload_n hx hb dX6_readEither_8 rfl (lv_at hl 0 rfl) ?_
      refine lv_bipush (v := 120) hx hb dX6_readEither_9 (by decide) ?_
      refine lv_icmp_ge (tgt := 51) hx hb dX6_readEither_11 (by decide) (fun c_14 => ?_) (fun c_14 => ?_)
      ·
        have ic_14 : 120 ≤ L3_8.toInt := by first | exact (g_le t_120 rfl).mp c_14 | (have h := mt (g_lt rfl t_120).mpr c_14; omega)
        clear c_14
        refine lv_iload_n hx hb dX6_readEither_51 rfl (lv_at hl 1 rfl) ?_
        have hP9 := hP.sub (ws' := [(th, .inr (6, G6 ta tsize trule twords tat_8 tword_8 twordAt_8 tvalue_8)), ((ta 0), .inl (E 0, 120, .inl tf0)), (trule, .inr (4, G4 ua usize_8)), ((ua 0), .inl (E 0, 120, .inl uf0_8)), ((ua 1), .inl (E 0, 120, .inl uf1_8))]) [0, 1, 2, 3, 4] rfl
        have hD9 := hD.sub (ws' := [(th, .inr (6, G6 ta tsize trule twords tat_8 tword_8 twordAt_8 tvalue_8)), ((ta 0), .inl (E 0, 120, .inl tf0)), (trule, .inr (4, G4 ua usize_8)), ((ua 0), .inl (E 0, 120, .inl uf0_8)), ((ua 1), .inl (E 0, 120, .inl uf1_8))]) [0, 1, 2, 3, 4] (by decide) rfl
        exact W.zret (v := L2_8) hx hb hr (nar_z (by omega) (by omega)) (fun t ht hW => ⟨⟨L2_8, (tat_8, tvalue_8, tword_8, twordAt_8, uf0_8, uf1_8, usize_8), rfl, ⟨(by (try dsimp only); omega), (by (try dsimp only); omega), (by have hl4 := t_4; have hl5 := t_5; have hl6 := t_6; have hl7 := t_7; have hl8 := t_8; have hl40 := t_40; have hl41 := t_41; have hl42 := t_42; have hl43 := t_43; have hl45 := t_45; have hl47 := t_47; have hl60 := t_60; have hl61 := t_61; have hl62 := t_62; (try dsimp only); exact ⟨by omega, RK_end v2_8 (by unfold LVL; omega) (by omega) (by omega) (by have c0 := i_clamp0 (x := tsize) (by omega); omega)⟩)⟩, by rw [ht]; exact hP9, hD9⟩, hS.F ht⟩) hS.2.2 dX6_readEither_52
      ·
        have ic_14 : L3_8.toInt < 120 := by first | exact (g_lt rfl t_120).mp c_14 | (have h := mt (g_le t_120 rfl).mpr c_14; omega)
        clear c_14
        refine lv_iload_n hx hb dX6_readEither_14 rfl (lv_at hl 1 rfl) ?_
        refine lv_if_eq (tgt := 51) hx hb dX6_readEither_15 (by decide) (fun c_15 => ?_) (fun c_15 => ?_)
        ·
          have ic_15 : L2_8.toInt = 0 := (g_eq rfl t_0).mp c_15
          clear c_15
          refine lv_iload_n hx hb dX6_readEither_51 rfl (lv_at hl 1 rfl) ?_
          have hP9 := hP.sub (ws' := [(th, .inr (6, G6 ta tsize trule twords tat_8 tword_8 twordAt_8 tvalue_8)), ((ta 0), .inl (E 0, 120, .inl tf0)), (trule, .inr (4, G4 ua usize_8)), ((ua 0), .inl (E 0, 120, .inl uf0_8)), ((ua 1), .inl (E 0, 120, .inl uf1_8))]) [0, 1, 2, 3, 4] rfl
          have hD9 := hD.sub (ws' := [(th, .inr (6, G6 ta tsize trule twords tat_8 tword_8 twordAt_8 tvalue_8)), ((ta 0), .inl (E 0, 120, .inl tf0)), (trule, .inr (4, G4 ua usize_8)), ((ua 0), .inl (E 0, 120, .inl uf0_8)), ((ua 1), .inl (E 0, 120, .inl uf1_8))]) [0, 1, 2, 3, 4] (by decide) rfl
          exact W.zret (v := L2_8) hx hb hr (nar_z (by omega) (by omega)) (fun t ht hW => ⟨⟨L2_8, (tat_8, tvalue_8, tword_8, twordAt_8, uf0_8, uf1_8, usize_8), rfl, ⟨(by (try dsimp only); omega), (by (try dsimp only); omega), (by have hl4 := t_4; have hl5 := t_5; have hl6 := t_6; have hl7 := t_7; have hl8 := t_8; have hl40 := t_40; have hl41 := t_41; have hl42 := t_42; have hl43 := t_43; have hl45 := t_45; have hl47 := t_47; have hl60 := t_60; have hl61 := t_61; have hl62 := t_62; (try dsimp only); exact ⟨by omega, RK_end v2_8 (by unfold LVL; omega) (by omega) (by omega) (by have c0 := i_clamp0 (x := tsize) (by omega); omega)⟩)⟩, by rw [ht]; exact hP9, hD9⟩, hS.F ht⟩) hS.2.2 dX6_readEither_52
        ·
          have ic_15 : L2_8.toInt ≠ 0 := mt (g_eq rfl t_0).mpr c_15
          clear c_15
          refine lv_aload_n hx hb dX6_readEither_18 rfl (lv_at hl 2 rfl) ?_
          refine va_get (D := D) (ci := 6) (v := .int tword_8) (C := RX6) (T := TX6) (N := 8) hx hb htb iX6 hown hK.1 hP 0 rfl rfl 5 (by decide) (htb _ k_163) (fun _ h9 => h9) rfl dX6_readEither_19 ?_
          refine lv_iconst (v := 4) hx hb dX6_readEither_22 (by decide) ?_
          refine lv_icmp_ne (tgt := 51) hx hb dX6_readEither_23 (by decide) (fun c_16 => ?_) (fun c_16 => ?_)
          ·
            have ic_16 : tword_8.toInt ≠ 4 := mt (g_eq rfl t_4).mpr c_16
            clear c_16
            refine lv_iload_n hx hb dX6_readEither_51 rfl (lv_at hl 1 rfl) ?_
            have hP9 := hP.sub (ws' := [(th, .inr (6, G6 ta tsize trule twords tat_8 tword_8 twordAt_8 tvalue_8)), ((ta 0), .inl (E 0, 120, .inl tf0)), (trule, .inr (4, G4 ua usize_8)), ((ua 0), .inl (E 0, 120, .inl uf0_8)), ((ua 1), .inl (E 0, 120, .inl uf1_8))]) [0, 1, 2, 3, 4] rfl
            have hD9 := hD.sub (ws' := [(th, .inr (6, G6 ta tsize trule twords tat_8 tword_8 twordAt_8 tvalue_8)), ((ta 0), .inl (E 0, 120, .inl tf0)), (trule, .inr (4, G4 ua usize_8)), ((ua 0), .inl (E 0, 120, .inl uf0_8)), ((ua 1), .inl (E 0, 120, .inl uf1_8))]) [0, 1, 2, 3, 4] (by decide) rfl
            exact W.zret (v := L2_8) hx hb hr (nar_z (by omega) (by omega)) (fun t ht hW => ⟨⟨L2_8, (tat_8, tvalue_8, tword_8, twordAt_8, uf0_8, uf1_8, usize_8), rfl, ⟨(by (try dsimp only); omega), (by (try dsimp only); omega), (by have hl4 := t_4; have hl5 := t_5; have hl6 := t_6; have hl7 := t_7; have hl8 := t_8; have hl40 := t_40; have hl41 := t_41; have hl42 := t_42; have hl43 := t_43; have hl45 := t_45; have hl47 := t_47; have hl60 := t_60; have hl61 := t_61; have hl62 := t_62; (try dsimp only); exact ⟨by omega, RK_end v2_8 (by unfold LVL; omega) (by omega) (by omega) (by have c0 := i_clamp0 (x := tsize) (by omega); omega)⟩)⟩, by rw [ht]; exact hP9, hD9⟩, hS.F ht⟩) hS.2.2 dX6_readEither_52
          ·
            have ic_16 : tword_8.toInt = 4 := (g_eq rfl t_4).mp c_16
            clear c_16
            refine lv_aload_n hx hb dX6_readEither_26 rfl (lv_at hl 2 rfl) ?_
            have hPc := hP.sub (ws' := [(th, .inr (6, G6 ta tsize trule twords tat_8 tword_8 twordAt_8 tvalue_8)), ((ta 0), .inl (E 0, 120, .inl tf0))]) [0, 1] rfl
            have hDc := hD.sub (ws' := [(th, .inr (6, G6 ta tsize trule twords tat_8 tword_8 twordAt_8 tvalue_8)), ((ta 0), .inl (E 0, 120, .inl tf0))]) [0, 1] (by decide) rfl
            refine aft_v (runMG (rest := []) (As := []) hx hb hml hown htb (g_X6_goOn l D E th ta tsize trule twords tat_8 tword_8 twordAt_8 tvalue_8 tf0 sv sn sf _ (by (try dsimp only); omega) hsn (by (try dsimp only); omega) g1) ok_X6_goOn k_591 k_593 ks_11 k_5 k_594 ⟨show 7 + 1 ≤ b + 7 from by omega, show 8 + (1 + 11) + 40 * (7) ≤ 40 * (b + 7) from by omega⟩ ⟨(Nat.le_of_ble_eq_true rfl), (Nat.le_of_ble_eq_true rfl)⟩ hl.1 (Nat.le_of_ble_eq_true rfl) rfl rfl dX6_readEither_27 (pmVS hPc hDc hK rfl rfl 0 rfl hG hS (va_free hD hS hA [0, 1] rfl))) hP hD hS hA [0, 1] [2, 3, 4] (wr := [(trule, .inr (4, G4 ua usize_8)), ((ua 0), .inl (E 0, 120, .inl uf0_8)), ((ua 1), .inl (E 0, 120, .inl uf1_8))]) rfl rfl (by decide) (by decide) (fun u_19 H locs hw_18 hP hD hS => ?_)
            clear hPc hDc
            obtain ⟨w_20, w_21, w_22, w_23⟩ := u_19
            try dsimp only at hw_18
            have hP : va_P D vwCl [(trule, .inr (4, G4 ua usize_8)), ((ua 0), .inl (E 0, 120, .inl uf0_8)), ((ua 1), .inl (E 0, 120, .inl uf1_8)), (th, .inr (6, G6 ta tsize trule twords w_20 w_22 w_23 w_21)), ((ta 0), .inl (E 0, 120, .inl tf0))] H := hP
            have hD := toW hP hD rfl
            obtain ⟨hw_18_0, hw_18_1⟩ := hw_18
            refine lv_aload_n hx hb dX6_readEither_30 rfl (lv_at hl 2 rfl) ?_
            refine lv_iload_n hx hb dX6_readEither_31 rfl (lv_at hl 3 rfl) ?_
            have hPc := hP.sub (ws' := [(th, .inr (6, G6 ta tsize trule twords w_20 w_22 w_23 w_21)), ((ta 0), .inl (E 0, 120, .inl tf0)), (trule, .inr (4, G4 ua usize_8)), ((ua 0), .inl (E 0, 120, .inl uf0_8)), ((ua 1), .inl (E 0, 120, .inl uf1_8))]) [3, 4, 0, 1, 2] rfl
            have hDc := hD.sub (ws' := [(th, .inr (6, G6 ta tsize trule twords w_20 w_22 w_23 w_21)), ((ta 0), .inl (E 0, 120, .inl tf0)), (trule, .inr (4, G4 ua usize_8)), ((ua 0), .inl (E 0, 120, .inl uf0_8)), ((ua 1), .inl (E 0, 120, .inl uf1_8))]) [3, 4, 0, 1, 2] (by decide) rfl
            refine aft_i (runMG (rest := []) (As := [.int p0]) hx hb hml hown htb ((hX) D E th ta tsize trule twords w_20 w_22 w_23 w_21 tf0 ua usize_8 uf0_8 uf1_8 sv sn sf _ (by (try dsimp only); omega) (by (try dsimp only); omega) hsn (by (try dsimp only); omega) g1) ok_X6_readBoth k_672 k_674 ks_17 k_5 k_675 ⟨show b + 6 + 1 ≤ b + 7 from by omega, show 8 + (4 + 11) + 40 * (b + 6) ≤ 40 * (b + 7) from by omega⟩ ⟨(Nat.le_of_ble_eq_true rfl), (Nat.le_of_ble_eq_true rfl)⟩ hl.1 (Nat.le_of_ble_eq_true rfl) rfl rfl dX6_readEither_32 (pmVS hPc hDc hK rfl rfl 0 rfl hG hS (va_free hD hS hA [3, 4, 0, 1, 2] rfl))) hP hD hS hA [3, 4, 0, 1, 2] [] (wr := ([] : va_W)) rfl rfl (by decide) (by decide) (fun r_24 u_26 H locs hw_25 hP hD hS => ?_)
            clear hPc hDc
            obtain ⟨w_27, w_28, w_29, w_30, w_31, w_32, w_33⟩ := u_26
            try dsimp only at hw_25
            have hP : va_P D vwCl [(th, .inr (6, G6 ta tsize trule twords w_27 w_29 w_30 w_28)), ((ta 0), .inl (E 0, 120, .inl tf0)), (trule, .inr (4, G4 ua w_33)), ((ua 0), .inl (E 0, 120, .inl w_31)), ((ua 1), .inl (E 0, 120, .inl w_32))] H := hP
            have hD := toW hP hD rfl
            obtain ⟨hw_25_0, hw_25_1, hw_25_2⟩ := hw_25
            obtain ⟨hw_25_2r, hw_25_2k⟩ := hw_25_2
            refine lv_istore_n (lv' := [(2, .int r_24), (3, .int L3_8), (0, .ref th), (1, .int p0)]) hx hb dX6_readEither_35 rfl hl (by decide) rfl (fun ls hl => ?_)
            refine lv_aload_n hx hb dX6_readEither_36 rfl (lv_at hl 2 rfl) ?_
            refine va_get (D := D) (ci := 6) (v := .ref trule) (C := RX6) (T := TX6) (N := 8) hx hb htb iX6 hown hK.1 hP 0 rfl rfl 2 (by decide) (htb _ k_160) (fun _ h9 => h9) rfl dX6_readEither_37 ?_
            refine lv_iconst (v := 4) hx hb dX6_readEither_40 (by decide) ?_
            refine lv_iconst (v := 0) hx hb dX6_readEither_41 (by decide) ?_
            have hPc := hP.sub (ws' := [(trule, .inr (4, G4 ua w_33)), ((ua 0), .inl (E 0, 120, .inl w_31)), ((ua 1), .inl (E 0, 120, .inl w_32))]) [2, 3, 4] rfl
            have hDc := hD.sub (ws' := [(trule, .inr (4, G4 ua w_33)), ((ua 0), .inl (E 0, 120, .inl w_31)), ((ua 1), .inl (E 0, 120, .inl w_32))]) [2, 3, 4] (by decide) rfl
            refine aft_v (runMV (rest := []) (As := [.int 4, .int 0]) hx hb hml hown htb hK (g_X4_add l D E trule ua w_33 w_31 w_32 4 0 _ (by (try dsimp only); omega)) ok_X4_add k_696 k_697 k_698 k_6 k_699 ⟨show 0 + 1 ≤ b + 7 from by omega, show 8 + (3 + 11) + 40 * (0) ≤ 40 * (b + 7) from by omega⟩ ⟨(Nat.le_of_ble_eq_true rfl), (Nat.le_of_ble_eq_true rfl)⟩ hl.1 (Nat.le_of_ble_eq_true rfl) rfl rfl dX6_readEither_42 hPc hDc rfl rfl 0 rfl) hP hD hS hA [2, 3, 4] [0, 1] (wr := [(th, .inr (6, G6 ta tsize trule twords w_27 w_29 w_30 w_28)), ((ta 0), .inl (E 0, 120, .inl tf0))]) rfl rfl (by decide) (by decide) (fun u_36 H locs hw_35 hP hD hS => ?_)
            clear hPc hDc
            obtain ⟨w_37, w_38, w_39⟩ := u_36
            try dsimp only at hw_35
            have hP : va_P D vwCl [(th, .inr (6, G6 ta tsize trule twords w_27 w_29 w_30 w_28)), ((ta 0), .inl (E 0, 120, .inl tf0)), (trule, .inr (4, G4 ua w_39)), ((ua 0), .inl (E 0, 120, .inl w_37)), ((ua 1), .inl (E 0, 120, .inl w_38))] H := hP
            have hD := toW hP hD rfl
            obtain ⟨hw_35_0, hw_35_1⟩ := hw_35
            try simp only [t_0, t_4] at hw_35_0
            try simp only [t_0, t_4] at hw_35_1
            obtain ⟨z_40, ez_40⟩ : ∃ y : Int32, y = L3_8 + 1 := ⟨_, rfl⟩
            have jz_40 : z_40.toInt = L3_8.toInt + 1 := by rw [ez_40]; exact g_add rfl t_1 (by omega) (by omega)
            refine lv_iinc (v := z_40) (lv' := [(3, .int z_40), (2, .int r_24), (0, .ref th), (1, .int p0)]) hx hb dX6_readEither_45 hl (k := 1) rfl (by rw [ez_40]; rfl) (by decide) rfl (fun ls hl => ?_)
            refine lv_goto (tgt := 8) hx hb dX6_readEither_48 (by decide) ?_
            exact ih_12 z_40 r_24 w_27 w_29 w_30 w_28 w_39 w_37 w_38 _ _ _ (by (try dsimp only); omega) (by (try dsimp only); omega) (by (try dsimp only); omega) (by (try dsimp only); omega) (by have hl := t_0; have hl4 := t_4; have hl5 := t_5; have hl6 := t_6; have hl7 := t_7; have hl8 := t_8; have hl40 := t_40; have hl41 := t_41; have hl42 := t_42; have hl43 := t_43; have hl45 := t_45; have hl47 := t_47; have hl60 := t_60; have hl61 := t_61; have hl62 := t_62; exact RKP_i (RK_rnd v2_8 (by omega) (by omega) hw_18_1 hw_25_2k hw_35_1 (by omega) (by omega) (by have c0 := i_clamp0 (x := tsize) (by omega); omega)) (by omega)) hP hD hS (lv_sub hl [0, 1, 2, 3] rfl)
  exact loop_11 121 0 r_1 w_4 w_6 w_7 w_5 w_10 w_8 w_9 _ _ _ (by have h0 := t_0; (try dsimp only); omega) (by (try dsimp only); omega) (by have h0 := t_0; (try dsimp only); omega) (by have h0 := t_0; (try dsimp only); omega) (RKP_i (RK_up (by unfold LVL; omega) hw_2_2k) t_0.symm) hP hD hS (lv_sub hl [0, 1, 2, 3] rfl)
set_option maxHeartbeats 4000000 in
set_option maxRecDepth 100000 in
theorem g_X6_readInBrackets (l : Launch) (b : Nat) (p0 : Int32) (hb8 : 8 ≤ b) (h15 : 0 ≤ p0.toInt ∧ p0.toInt ≤ 15) (hX : M_X6_readEither l (b) p0) : M_X6_readInBrackets l (b) p0 := by
  intro D E th ta tsize trule twords tat tword twordAt tvalue tf0 ua usize uf0 uf1 sv sn sf sz hi_t hi_u hsn g0 g1
  refine Met.ofW (cc := cX6_readInBrackets) (maxL := 2) (ret := (some .boolean)) (by decide) rfl ?_
  intro p e s m args below meth c s₁ B hml hv
  obtain ⟨rfl, hsz, hP, hK, hD0, hG⟩ := hv
  have hx := B.exec; have hb := B.bytes; have hr := B.returns
  have hts := atoms_spec (ws := wl yX6_readInBrackets cX6_readInBrackets 2 (some .boolean)) B.pre
  have htb : ∀ w ∈ tb, w.before _ s = true := fun w h => hts w (List.mem_cons_of_mem _ h)
  have hown : s.vm.findClass RX6 = some m.cls := findClass_of_methodNamed B.named
  have hlocks := B.notSynchronized
  subst hsz
  have hD := hD0.self (sz := s.heap.size)
  generalize hAe : va_A [(th, .inr (6, G6 ta tsize trule twords tat tword twordAt tvalue)), ((ta 0), .inl (E 0, 120, .inl tf0)), (trule, .inr (4, G4 ua usize)), ((ua 0), .inl (E 0, 120, .inl uf0)), ((ua 1), .inl (E 0, 120, .inl uf1))] s.heap.size = A at hD hG ⊢
  have hA : ∀ q : Nat, s.heap.size ≤ q → A q := fun q h => by rw [← hAe]; exact Or.inr h
  have hS : va_S A s.heap s.heap [] := va_S.rf
  have hP : va_P D vwCl [(th, .inr (6, G6 ta tsize trule twords tat tword twordAt tvalue)), ((ta 0), .inl (E 0, 120, .inl tf0)), (trule, .inr (4, G4 ua usize)), ((ua 0), .inl (E 0, 120, .inl uf0)), ((ua 1), .inl (E 0, 120, .inl uf1))] s.heap := hP
  have hl := lv_entry ([.ref th, .int p0]) (n := 2) (Nat.le_of_ble_eq_true rfl)
  rw [lg_entry_eq]
  generalize (lg_sl ([.ref th, .int p0]) ++ List.replicate (2 - (lg_sl ([.ref th, .int p0])).length) Slot.unset).toArray = ls at hl ⊢
  have hl : lv_has ls 2 [(0, .ref th), (1, .int p0)] := hl
  have lo_p0 := i_lo p0; have hi_p0 := i_hi p0
  refine lv_aload_n hx hb dX6_readInBrackets_0 rfl (lv_at hl 0 rfl) ?_
  refine lv_iload_n hx hb dX6_readInBrackets_1 rfl (lv_at hl 1 rfl) ?_
  have hPc := hP.sub (ws' := [(th, .inr (6, G6 ta tsize trule twords tat tword twordAt tvalue)), ((ta 0), .inl (E 0, 120, .inl tf0)), (trule, .inr (4, G4 ua usize)), ((ua 0), .inl (E 0, 120, .inl uf0)), ((ua 1), .inl (E 0, 120, .inl uf1))]) [0, 1, 2, 3, 4] rfl
  have hDc := hD.sub (ws' := [(th, .inr (6, G6 ta tsize trule twords tat tword twordAt tvalue)), ((ta 0), .inl (E 0, 120, .inl tf0)), (trule, .inr (4, G4 ua usize)), ((ua 0), .inl (E 0, 120, .inl uf0)), ((ua 1), .inl (E 0, 120, .inl uf1))]) [0, 1, 2, 3, 4] (by decide) rfl
  refine aft_i (runMG (rest := []) (As := [.int p0]) hx hb hml hown htb ((hX) D E th ta tsize trule twords tat tword twordAt tvalue tf0 ua usize uf0 uf1 sv sn sf _ (by (try dsimp only); omega) (by (try dsimp only); omega) hsn (by (try dsimp only); omega) g1) ok_X6_readEither k_668 k_670 ks_16 k_5 k_671 ⟨show b + 7 + 1 ≤ b + 8 from by omega, show 8 + (4 + 11) + 40 * (b + 7) ≤ 40 * (b + 8) from by omega⟩ ⟨(Nat.le_of_ble_eq_true rfl), (Nat.le_of_ble_eq_true rfl)⟩ hl.1 (Nat.le_of_ble_eq_true rfl) rfl rfl dX6_readInBrackets_2 (pmVS hPc hDc hK rfl rfl 0 rfl hG hS (va_free hD hS hA [0, 1, 2, 3, 4] rfl))) hP hD hS hA [0, 1, 2, 3, 4] [] (wr := ([] : va_W)) rfl rfl (by decide) (by decide) (fun r_1 u_3 H locs hw_2 hP hD hS => ?_)
  clear hPc hDc
  obtain ⟨w_4, w_5, w_6, w_7, w_8, w_9, w_10⟩ := u_3
  try dsimp only at hw_2
  have hP : va_P D vwCl [(th, .inr (6, G6 ta tsize trule twords w_4 w_6 w_7 w_5)), ((ta 0), .inl (E 0, 120, .inl tf0)), (trule, .inr (4, G4 ua w_10)), ((ua 0), .inl (E 0, 120, .inl w_8)), ((ua 1), .inl (E 0, 120, .inl w_9))] H := hP
  have hD := toW hP hD rfl
  obtain ⟨hw_2_0, hw_2_1, hw_2_2⟩ := hw_2
  obtain ⟨hw_2_2r, hw_2_2k⟩ := hw_2_2
  refine lv_if_eq (tgt := 17) hx hb dX6_readInBrackets_5 (by decide) (fun c_11 => ?_) (fun c_11 => ?_)
  ·
    have ic_11 : r_1.toInt = 0 := (g_eq rfl t_0).mp c_11
    clear c_11
    refine lv_iconst (v := 0) hx hb dX6_readInBrackets_17 (by decide) ?_
    have hP9 := hP.sub (ws' := [(th, .inr (6, G6 ta tsize trule twords w_4 w_6 w_7 w_5)), ((ta 0), .inl (E 0, 120, .inl tf0)), (trule, .inr (4, G4 ua w_10)), ((ua 0), .inl (E 0, 120, .inl w_8)), ((ua 1), .inl (E 0, 120, .inl w_9))]) [0, 1, 2, 3, 4] rfl
    have hD9 := hD.sub (ws' := [(th, .inr (6, G6 ta tsize trule twords w_4 w_6 w_7 w_5)), ((ta 0), .inl (E 0, 120, .inl tf0)), (trule, .inr (4, G4 ua w_10)), ((ua 0), .inl (E 0, 120, .inl w_8)), ((ua 1), .inl (E 0, 120, .inl w_9))]) [0, 1, 2, 3, 4] (by decide) rfl
    exact W.zret (v := 0) hx hb hr rfl (fun t ht hW => ⟨⟨0, (w_4, w_5, w_6, w_7, w_8, w_9, w_10), rfl, ⟨(by (try dsimp only); omega), (by (try dsimp only); omega), (by have hl := t_0; have hl4 := t_4; have hl5 := t_5; have hl6 := t_6; have hl7 := t_7; have hl8 := t_8; have hl40 := t_40; have hl41 := t_41; have hl42 := t_42; have hl43 := t_43; have hl45 := t_45; have hl47 := t_47; have hl60 := t_60; have hl61 := t_61; have hl62 := t_62; (try dsimp only); exact ⟨by omega, (by first | exact RB_no hw_2_2k (by omega) (by omega) | exact RB_no2 hw_2_2k (by omega) (by omega) (by omega))⟩)⟩, by rw [ht]; exact hP9, hD9⟩, hS.F ht⟩) hS.2.2 dX6_readInBrackets_18
  ·
    have ic_11 : r_1.toInt ≠ 0 := mt (g_eq rfl t_0).mpr c_11
    clear c_11
    refine lv_aload_n hx hb dX6_readInBrackets_8 rfl (lv_at hl 0 rfl) ?_
    refine va_get (D := D) (ci := 6) (v := .int w_6) (C := RX6) (T := TX6) (N := 8) hx hb htb iX6 hown hK.1 hP 0 rfl rfl 5 (by decide) (htb _ k_163) (fun _ h9 => h9) rfl dX6_readInBrackets_9 ?_
    refine lv_bipush (v := 41) hx hb dX6_readInBrackets_12 (by decide) ?_
    refine lv_icmp_eq (tgt := 19) hx hb dX6_readInBrackets_14 (by decide) (fun c_12 => ?_) (fun c_12 => ?_)
    ·
      have ic_12 : w_6.toInt = 41 := (g_eq rfl t_41).mp c_12
      clear c_12
      refine lv_aload_n hx hb dX6_readInBrackets_19 rfl (lv_at hl 0 rfl) ?_
      have hPc := hP.sub (ws' := [(th, .inr (6, G6 ta tsize trule twords w_4 w_6 w_7 w_5)), ((ta 0), .inl (E 0, 120, .inl tf0))]) [0, 1] rfl
      have hDc := hD.sub (ws' := [(th, .inr (6, G6 ta tsize trule twords w_4 w_6 w_7 w_5)), ((ta 0), .inl (E 0, 120, .inl tf0))]) [0, 1] (by decide) rfl
      refine aft_v (runMG (rest := []) (As := []) hx hb hml hown htb (g_X6_goOn l D E th ta tsize trule twords w_4 w_6 w_7 w_5 tf0 sv sn sf _ (by (try dsimp only); omega) hsn (by (try dsimp only); omega) g1) ok_X6_goOn k_591 k_593 ks_11 k_5 k_594 ⟨show 7 + 1 ≤ b + 8 from by omega, show 8 + (1 + 11) + 40 * (7) ≤ 40 * (b + 8) from by omega⟩ ⟨(Nat.le_of_ble_eq_true rfl), (Nat.le_of_ble_eq_true rfl)⟩ hl.1 (Nat.le_of_ble_eq_true rfl) rfl rfl dX6_readInBrackets_20 (pmVS hPc hDc hK rfl rfl 0 rfl hG hS (va_free hD hS hA [0, 1] rfl))) hP hD hS hA [0, 1] [2, 3, 4] (wr := [(trule, .inr (4, G4 ua w_10)), ((ua 0), .inl (E 0, 120, .inl w_8)), ((ua 1), .inl (E 0, 120, .inl w_9))]) rfl rfl (by decide) (by decide) (fun u_15 H locs hw_14 hP hD hS => ?_)
      clear hPc hDc
      obtain ⟨w_16, w_17, w_18, w_19⟩ := u_15
      try dsimp only at hw_14
      have hP : va_P D vwCl [(trule, .inr (4, G4 ua w_10)), ((ua 0), .inl (E 0, 120, .inl w_8)), ((ua 1), .inl (E 0, 120, .inl w_9)), (th, .inr (6, G6 ta tsize trule twords w_16 w_18 w_19 w_17)), ((ta 0), .inl (E 0, 120, .inl tf0))] H := hP
      have hD := toW hP hD rfl
      obtain ⟨hw_14_0, hw_14_1⟩ := hw_14
      refine lv_iconst (v := 1) hx hb dX6_readInBrackets_23 (by decide) ?_
      have hP9 := hP.sub (ws' := [(th, .inr (6, G6 ta tsize trule twords w_16 w_18 w_19 w_17)), ((ta 0), .inl (E 0, 120, .inl tf0)), (trule, .inr (4, G4 ua w_10)), ((ua 0), .inl (E 0, 120, .inl w_8)), ((ua 1), .inl (E 0, 120, .inl w_9))]) [3, 4, 0, 1, 2] rfl
      have hD9 := hD.sub (ws' := [(th, .inr (6, G6 ta tsize trule twords w_16 w_18 w_19 w_17)), ((ta 0), .inl (E 0, 120, .inl tf0)), (trule, .inr (4, G4 ua w_10)), ((ua 0), .inl (E 0, 120, .inl w_8)), ((ua 1), .inl (E 0, 120, .inl w_9))]) [3, 4, 0, 1, 2] (by decide) rfl
      exact W.zret (v := 1) hx hb hr rfl (fun t ht hW => ⟨⟨1, (w_16, w_17, w_18, w_19, w_8, w_9, w_10), rfl, ⟨(by (try dsimp only); omega), (by (try dsimp only); omega), (by have hl := t_1; have hl4 := t_4; have hl5 := t_5; have hl6 := t_6; have hl7 := t_7; have hl8 := t_8; have hl40 := t_40; have hl41 := t_41; have hl42 := t_42; have hl43 := t_43; have hl45 := t_45; have hl47 := t_47; have hl60 := t_60; have hl61 := t_61; have hl62 := t_62; (try dsimp only); exact ⟨by omega, RB_ok hw_2_2k (by omega) (by omega) hw_14_1 (by omega)⟩)⟩, by rw [ht]; exact hP9, hD9⟩, hS.F ht⟩) hS.2.2 dX6_readInBrackets_24
    ·
      have ic_12 : w_6.toInt ≠ 41 := mt (g_eq rfl t_41).mpr c_12
      clear c_12
      refine lv_iconst (v := 0) hx hb dX6_readInBrackets_17 (by decide) ?_
      have hP9 := hP.sub (ws' := [(th, .inr (6, G6 ta tsize trule twords w_4 w_6 w_7 w_5)), ((ta 0), .inl (E 0, 120, .inl tf0)), (trule, .inr (4, G4 ua w_10)), ((ua 0), .inl (E 0, 120, .inl w_8)), ((ua 1), .inl (E 0, 120, .inl w_9))]) [0, 1, 2, 3, 4] rfl
      have hD9 := hD.sub (ws' := [(th, .inr (6, G6 ta tsize trule twords w_4 w_6 w_7 w_5)), ((ta 0), .inl (E 0, 120, .inl tf0)), (trule, .inr (4, G4 ua w_10)), ((ua 0), .inl (E 0, 120, .inl w_8)), ((ua 1), .inl (E 0, 120, .inl w_9))]) [0, 1, 2, 3, 4] (by decide) rfl
      exact W.zret (v := 0) hx hb hr rfl (fun t ht hW => ⟨⟨0, (w_4, w_5, w_6, w_7, w_8, w_9, w_10), rfl, ⟨(by (try dsimp only); omega), (by (try dsimp only); omega), (by have hl := t_0; have hl4 := t_4; have hl5 := t_5; have hl6 := t_6; have hl7 := t_7; have hl8 := t_8; have hl40 := t_40; have hl41 := t_41; have hl42 := t_42; have hl43 := t_43; have hl45 := t_45; have hl47 := t_47; have hl60 := t_60; have hl61 := t_61; have hl62 := t_62; (try dsimp only); exact ⟨by omega, (by first | exact RB_no hw_2_2k (by omega) (by omega) | exact RB_no2 hw_2_2k (by omega) (by omega) (by omega))⟩)⟩, by rw [ht]; exact hP9, hD9⟩, hS.F ht⟩) hS.2.2 dX6_readInBrackets_18
theorem rd_all (l : Launch) : ∀ (k : Nat), k ≤ 15 → ∀ p0 : Int32, p0.toInt = 15 - (k : Int) → M_X6_readOperand l (8 * k + 16) p0 ∧ M_X6_readNegation l (8 * k + 16) p0 ∧ M_X6_readEither l (8 * k + 16) p0 ∧ M_X6_readInBrackets l (8 * k + 16) p0
  | 0, _, p0, h => by
    have hO := g_X6_readOperand l 8 p0 (Nat.le_refl _) (by omega) (fun h2 => absurd h2 (by omega)) (fun h2 => absurd h2 (by omega))
    have hN := g_X6_readNegation l 8 p0 (Nat.le_refl _) (by omega) (g_X6_readComparison l 16 p0 (by omega) (by omega) (g_X6_readSum l 16 p0 (by omega) (by omega) (g_X6_readProduct l 16 p0 (by omega) (by omega) hO))) (fun h2 => absurd h2 (by omega))
    have hE := g_X6_readEither l 16 p0 (by omega) (by omega) (g_X6_readBoth l 16 p0 (by omega) (by omega) hN)
    exact ⟨hO, hN, hE, g_X6_readInBrackets l 16 p0 (by omega) (by omega) hE⟩
  | k + 1, hk, p0, h => by
    have ih := fun (q : Int32) (hq : q.toInt = p0.toInt + 1) => rd_all l k (by omega) q (by omega)
    rw [show 8 * (k + 1) + 16 = 8 * k + 16 + 8 by omega]
    have hO := g_X6_readOperand l (8 * k + 16) p0 (by omega) (by omega) (fun _ q hq => (ih q hq).1) (fun _ q hq => (ih q hq).2.2.2)
    have hN := g_X6_readNegation l (8 * k + 16) p0 (by omega) (by omega) (g_X6_readComparison l (8 * k + 16 + 8) p0 (by omega) (by omega) (g_X6_readSum l (8 * k + 16 + 8) p0 (by omega) (by omega) (g_X6_readProduct l (8 * k + 16 + 8) p0 (by omega) (by omega) hO))) (fun _ q hq => (ih q hq).2.1)
    have hE := g_X6_readEither l (8 * k + 16 + 8) p0 (by omega) (by omega) (g_X6_readBoth l (8 * k + 16 + 8) p0 (by omega) (by omega) hN)
    exact ⟨hO, hN, hE, g_X6_readInBrackets l (8 * k + 16 + 8) p0 (by omega) (by omega) hE⟩
theorem rd_top (l : Launch) : M_X6_readEither l 136 0 := (rd_all l 15 (by omega) 0 (by decide)).2.2.1
