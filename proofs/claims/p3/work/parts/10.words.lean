theorem t_m2000000000 : ((-2000000000) : Int32).toInt = -2000000000 := by decide
theorem t_m2000000 : ((-2000000) : Int32).toInt = -2000000 := by decide
theorem t_m100000 : ((-100000) : Int32).toInt = -100000 := by decide
theorem t_m10000 : ((-10000) : Int32).toInt = -10000 := by decide
theorem t_m100 : ((-100) : Int32).toInt = -100 := by decide
theorem t_m50 : ((-50) : Int32).toInt = -50 := by decide
theorem t_m5 : ((-5) : Int32).toInt = -5 := by decide
theorem t_m3 : ((-3) : Int32).toInt = -3 := by decide
theorem t_m2 : ((-2) : Int32).toInt = -2 := by decide
theorem t_m1 : ((-1) : Int32).toInt = -1 := by decide
theorem t_0 : (0 : Int32).toInt = 0 := by decide
theorem t_1 : (1 : Int32).toInt = 1 := by decide
theorem t_2 : (2 : Int32).toInt = 2 := by decide
theorem t_4 : (4 : Int32).toInt = 4 := by decide
theorem t_5 : (5 : Int32).toInt = 5 := by decide
theorem t_8 : (8 : Int32).toInt = 8 := by decide
theorem t_15 : (15 : Int32).toInt = 15 := by decide
theorem t_16 : (16 : Int32).toInt = 16 := by decide
theorem t_48 : (48 : Int32).toInt = 48 := by decide
theorem t_50 : (50 : Int32).toInt = 50 := by decide
theorem t_57 : (57 : Int32).toInt = 57 := by decide
theorem t_60 : (60 : Int32).toInt = 60 := by decide
theorem t_97 : (97 : Int32).toInt = 97 := by decide
theorem t_100 : (100 : Int32).toInt = 100 := by decide
theorem t_120 : (120 : Int32).toInt = 120 := by decide
theorem t_122 : (122 : Int32).toInt = 122 := by decide
theorem t_398 : (398 : Int32).toInt = 398 := by decide
theorem t_399 : (399 : Int32).toInt = 399 := by decide
theorem t_400 : (400 : Int32).toInt = 400 := by decide
theorem t_999 : (999 : Int32).toInt = 999 := by decide
theorem t_10000 : (10000 : Int32).toInt = 10000 := by decide
theorem t_100000 : (100000 : Int32).toInt = 100000 := by decide
theorem t_2000000 : (2000000 : Int32).toInt = 2000000 := by decide
theorem k_9 : Cond.initialized RX9 ∈ tb := tb_t 9 (by decide +kernel) (by decide)
theorem k_959 : Cond.fieldLink RX9 156 "SeaWatchesModel" "today" "I" ∈ tb := tb_t 959 (by decide +kernel) (by decide)
theorem k_960 : Cond.fieldLink RX9 13 "SeaWatchesModel" "warmths" "[I" ∈ tb := tb_t 960 (by decide +kernel) (by decide)
theorem k_961 : Cond.fieldLink RX9 17 "SeaWatchesModel" "kind" "[I" ∈ tb := tb_t 961 (by decide +kernel) (by decide)
theorem k_962 : Cond.fieldLink RX9 20 "SeaWatchesModel" "mark" "[I" ∈ tb := tb_t 962 (by decide +kernel) (by decide)
theorem k_963 : Cond.fieldLink RX9 23 "SeaWatchesModel" "has" "[Z" ∈ tb := tb_t 963 (by decide +kernel) (by decide)
theorem k_964 : Cond.fieldLink RX9 27 "SeaWatchesModel" "errors" "[I" ∈ tb := tb_t 964 (by decide +kernel) (by decide)
theorem k_965 : Cond.fieldLink RX9 30 "SeaWatchesModel" "sources" "[I" ∈ tb := tb_t 965 (by decide +kernel) (by decide)
theorem k_966 : Cond.fieldLink RX9 33 "SeaWatchesModel" "repaired" "[Z" ∈ tb := tb_t 966 (by decide +kernel) (by decide)
theorem k_967 : Cond.fieldLink RX9 36 "SeaWatchesModel" "lateOn" "[Z" ∈ tb := tb_t 967 (by decide +kernel) (by decide)
theorem k_968 : Cond.fieldLink RX9 39 "SeaWatchesModel" "holders" "[I" ∈ tb := tb_t 968 (by decide +kernel) (by decide)
theorem k_969 : Cond.fieldLink RX9 175 "SeaWatchesModel" "offs" "I" ∈ tb := tb_t 969 (by decide +kernel) (by decide)
theorem k_970 : Cond.fieldLink RX9 42 "SeaWatchesModel" "offSignal" "[I" ∈ tb := tb_t 970 (by decide +kernel) (by decide)
theorem k_971 : Cond.fieldLink RX9 45 "SeaWatchesModel" "offFrom" "[I" ∈ tb := tb_t 971 (by decide +kernel) (by decide)
theorem k_972 : Cond.fieldLink RX9 48 "SeaWatchesModel" "offTo" "[I" ∈ tb := tb_t 972 (by decide +kernel) (by decide)
theorem k_973 : Cond.fieldLink RX9 51 "SeaWatchesModel" "offBy" "[I" ∈ tb := tb_t 973 (by decide +kernel) (by decide)
theorem k_974 : Cond.fieldLink RX9 54 "SeaWatchesModel" "offDay" "[I" ∈ tb := tb_t 974 (by decide +kernel) (by decide)
theorem k_990 : Cond.fieldLink RX9 66 "SeaWatchesModel" "tape" "[B" ∈ tb := tb_t 990 (by decide +kernel) (by decide)
theorem k_991 : Cond.fieldLink RX9 284 "SeaWatchesModel" "taped" "I" ∈ tb := tb_t 991 (by decide +kernel) (by decide)
theorem k_1168 : Cond.methodLink RX9 148 yX9_in ∈ tb := tb_t 1168 (by decide +kernel) (by decide)
theorem k_1169 : Cond.static yX9_in ∈ tb := tb_t 1169 (by decide +kernel) (by decide)
theorem k_1170 : Cond.code yX9_in cX9_in 3 (some .boolean) ∈ tb := tb_t 1170 (by decide +kernel) (by decide)
theorem k_1175 : Cond.methodLink RX9 159 yX9_isDay ∈ tb := tb_t 1175 (by decide +kernel) (by decide)
theorem k_1176 : Cond.static yX9_isDay ∈ tb := tb_t 1176 (by decide +kernel) (by decide)
theorem k_1177 : Cond.code yX9_isDay cX9_isDay 1 (some .boolean) ∈ tb := tb_t 1177 (by decide +kernel) (by decide)
theorem k_1182 : Cond.methodLink RX9 152 yX9_isPlace ∈ tb := tb_t 1182 (by decide +kernel) (by decide)
theorem k_1183 : Cond.static yX9_isPlace ∈ tb := tb_t 1183 (by decide +kernel) (by decide)
theorem k_1184 : Cond.code yX9_isPlace cX9_isPlace 1 (some .boolean) ∈ tb := tb_t 1184 (by decide +kernel) (by decide)
theorem k_1189 : Cond.methodLink RX9 162 yX9_isWatch ∈ tb := tb_t 1189 (by decide +kernel) (by decide)
theorem k_1191 : Cond.instanceMethod yX9_isWatch ∈ tb := tb_t 1191 (by decide +kernel) (by decide)
theorem k_1192 : Cond.code yX9_isWatch cX9_isWatch 2 (some .boolean) ∈ tb := tb_t 1192 (by decide +kernel) (by decide)
theorem k_1193 : Cond.methodLink RX9 165 yX9_holderNow ∈ tb := tb_t 1193 (by decide +kernel) (by decide)
theorem k_1195 : Cond.instanceMethod yX9_holderNow ∈ tb := tb_t 1195 (by decide +kernel) (by decide)
theorem k_1196 : Cond.code yX9_holderNow cX9_holderNow 2 (some .int) ∈ tb := tb_t 1196 (by decide +kernel) (by decide)
theorem k_1205 : Cond.constant RX9 169 (-2000000000) ∈ tb := tb_t 1205 (by decide +kernel) (by decide)
theorem k_1210 : Cond.constant RX9 170 (-100000) ∈ tb := tb_t 1210 (by decide +kernel) (by decide)
theorem k_1211 : Cond.constant RX9 171 100000 ∈ tb := tb_t 1211 (by decide +kernel) (by decide)
theorem k_1212 : Cond.methodLink RX9 172 yX9_watchAt ∈ tb := tb_t 1212 (by decide +kernel) (by decide)
theorem k_1214 : Cond.instanceMethod yX9_watchAt ∈ tb := tb_t 1214 (by decide +kernel) (by decide)
theorem k_1215 : Cond.code yX9_watchAt cX9_watchAt 2 (some .int) ∈ tb := tb_t 1215 (by decide +kernel) (by decide)
theorem k_1220 : Cond.methodLink RX9 185 yX9_isKnown ∈ tb := tb_t 1220 (by decide +kernel) (by decide)
theorem k_1221 : Cond.static yX9_isKnown ∈ tb := tb_t 1221 (by decide +kernel) (by decide)
theorem k_1222 : Cond.code yX9_isKnown cX9_isKnown 1 (some .boolean) ∈ tb := tb_t 1222 (by decide +kernel) (by decide)
theorem k_1223 : Cond.methodLink RX9 178 yX9_errorOf ∈ tb := tb_t 1223 (by decide +kernel) (by decide)
theorem k_1225 : Cond.instanceMethod yX9_errorOf ∈ tb := tb_t 1225 (by decide +kernel) (by decide)
theorem k_1226 : Cond.code yX9_errorOf cX9_errorOf 7 (some .int) ∈ tb := tb_t 1226 (by decide +kernel) (by decide)
theorem k_1231 : Cond.methodLink RX9 188 yX9_rateOf ∈ tb := tb_t 1231 (by decide +kernel) (by decide)
theorem k_1233 : Cond.instanceMethod yX9_rateOf ∈ tb := tb_t 1233 (by decide +kernel) (by decide)
theorem k_1234 : Cond.code yX9_rateOf cX9_rateOf 7 (some .int) ∈ tb := tb_t 1234 (by decide +kernel) (by decide)
theorem k_1235 : Cond.methodLink RX9 182 yX9_size ∈ tb := tb_t 1235 (by decide +kernel) (by decide)
theorem k_1236 : Cond.static yX9_size ∈ tb := tb_t 1236 (by decide +kernel) (by decide)
theorem k_1237 : Cond.code yX9_size cX9_size 1 (some .int) ∈ tb := tb_t 1237 (by decide +kernel) (by decide)
theorem k_1250 : Cond.methodLink RX9 191 yX9_ageOf ∈ tb := tb_t 1250 (by decide +kernel) (by decide)
theorem k_1252 : Cond.instanceMethod yX9_ageOf ∈ tb := tb_t 1252 (by decide +kernel) (by decide)
theorem k_1253 : Cond.code yX9_ageOf cX9_ageOf 4 (some .int) ∈ tb := tb_t 1253 (by decide +kernel) (by decide)
theorem k_1262 : Cond.methodLink RX9 195 yX9_areDays ∈ tb := tb_t 1262 (by decide +kernel) (by decide)
theorem k_1263 : Cond.static yX9_areDays ∈ tb := tb_t 1263 (by decide +kernel) (by decide)
theorem k_1264 : Cond.code yX9_areDays cX9_areDays 2 (some .boolean) ∈ tb := tb_t 1264 (by decide +kernel) (by decide)
theorem k_1436 : Cond.constant RX9 395 (-2000000) ∈ tb := tb_t 1436 (by decide +kernel) (by decide)
theorem k_1437 : Cond.constant RX9 396 2000000 ∈ tb := tb_t 1437 (by decide +kernel) (by decide)
theorem ks_39 : Cond.selects RX9 yX9_isWatch yX9_isWatch ∈ tb := tb_s 39 (by decide +kernel) (by decide)
theorem ks_40 : Cond.selects RX9 yX9_holderNow yX9_holderNow ∈ tb := tb_s 40 (by decide +kernel) (by decide)
theorem ks_41 : Cond.selects RX9 yX9_watchAt yX9_watchAt ∈ tb := tb_s 41 (by decide +kernel) (by decide)
theorem ks_42 : Cond.selects RX9 yX9_errorOf yX9_errorOf ∈ tb := tb_s 42 (by decide +kernel) (by decide)
theorem ks_43 : Cond.selects RX9 yX9_rateOf yX9_rateOf ∈ tb := tb_s 43 (by decide +kernel) (by decide)
theorem ks_44 : Cond.selects RX9 yX9_ageOf yX9_ageOf ∈ tb := tb_s 44 (by decide +kernel) (by decide)
theorem ok_X9_ageOf : yOk yX9_ageOf 2 := ⟨by decide +kernel, by decide +kernel, by decide +kernel⟩
theorem ok_X9_areDays : yOk yX9_areDays 2 := ⟨by decide +kernel, by decide +kernel, by decide +kernel⟩
theorem ok_X9_errorOf : yOk yX9_errorOf 3 := ⟨by decide +kernel, by decide +kernel, by decide +kernel⟩
theorem ok_X9_holderNow : yOk yX9_holderNow 1 := ⟨by decide +kernel, by decide +kernel, by decide +kernel⟩
theorem ok_X9_in : yOk yX9_in 3 := ⟨by decide +kernel, by decide +kernel, by decide +kernel⟩
theorem ok_X9_isDay : yOk yX9_isDay 1 := ⟨by decide +kernel, by decide +kernel, by decide +kernel⟩
theorem ok_X9_isKnown : yOk yX9_isKnown 1 := ⟨by decide +kernel, by decide +kernel, by decide +kernel⟩
theorem ok_X9_isPlace : yOk yX9_isPlace 1 := ⟨by decide +kernel, by decide +kernel, by decide +kernel⟩
theorem ok_X9_isWatch : yOk yX9_isWatch 1 := ⟨by decide +kernel, by decide +kernel, by decide +kernel⟩
theorem ok_X9_rateOf : yOk yX9_rateOf 3 := ⟨by decide +kernel, by decide +kernel, by decide +kernel⟩
theorem ok_X9_size : yOk yX9_size 1 := ⟨by decide +kernel, by decide +kernel, by decide +kernel⟩
theorem ok_X9_watchAt : yOk yX9_watchAt 1 := ⟨by decide +kernel, by decide +kernel, by decide +kernel⟩
def G0 (a : Nat → Nat) (v_listed : Int32) (v_shared : Int32) (v_sailing : Int32) (v_leastWorst : Int32) : List Value := [.ref (a 0), .ref (a 1), .ref (a 2), .ref (a 3), .ref (a 4), .int v_listed, .int v_shared, .int v_sailing, .int v_leastWorst]
def G1 (a : Nat → Nat) (v_n : Int64) (v_sumR : Int64) (v_sumW : Int64) (v_sumA : Int64) (v_sumWW : Int64) (v_sumAA : Int64) (v_sumWA : Int64) (v_sumWR : Int64) (v_sumAR : Int64) (v_divisor : Int64) (v_byWarmth : Int64) (v_byAge : Int64) (v_form : Int32) (v_whole : Int64) (v_rest : Int64) : List Value := [.long v_n, .long v_sumR, .long v_sumW, .long v_sumA, .long v_sumWW, .long v_sumAA, .long v_sumWA, .long v_sumWR, .long v_sumAR, .long v_divisor, .long v_byWarmth, .long v_byAge, .int v_form, .long v_whole, .long v_rest]
def G2 (a : Nat → Nat) (v_size : Int32) : List Value := [.ref (a 0), .ref (a 1), .ref (a 2), .ref (a 3), .ref (a 4), .int v_size]
def G3 (a : Nat → Nat) (v_size : Int32) : List Value := [.ref (a 0), .ref (a 1), .ref (a 2), .int v_size]
def G4 (a : Nat → Nat) (v_size : Int32) : List Value := [.ref (a 0), .ref (a 1), .ref (a 2), .int v_size]
def G5 (a : Nat → Nat) (v_sights : Int32) (v_stage : Int32) (v_sailed : Int32) (v_voyage : Int32) : List Value := [.ref (a 0), .ref (a 1), .ref (a 2), .ref (a 3), .ref (a 4), .ref (a 5), .ref (a 6), .int v_sights, .int v_stage, .int v_sailed, .int v_voyage]
def G6 (a : Nat → Nat) (v_size : Int32) (v_rule : Nat) (v_words : Nat) (v_at : Int32) (v_word : Int32) (v_wordAt : Int32) (v_value : Int32) : List Value := [.ref (a 0), .int v_size, .ref v_rule, .ref v_words, .int v_at, .int v_word, .int v_wordAt, .int v_value]
def G7 (a : Nat → Nat)  : List Value := [.ref (a 0), .ref (a 1), .ref (a 2), .ref (a 3)]
def G8 (a : Nat → Nat) (v_trialRule : Nat) (v_dropRule : Nat) (v_today : Int32) : List Value := [.ref (a 0), .ref (a 1), .ref (a 2), .ref (a 3), .ref (a 4), .ref (a 5), .ref (a 6), .ref (a 7), .ref (a 8), .ref (a 9), .ref (a 10), .ref v_trialRule, .ref v_dropRule, .int v_today]
def G9 (a : Nat → Nat) (v_code : Int32) (v_today : Int32) (v_offs : Int32) (v_many : Int64) (v_sumW : Int64) (v_sumA : Int64) (v_sumR : Int64) (v_sumWW : Int64) (v_sumWA : Int64) (v_sumAA : Int64) (v_sumWR : Int64) (v_sumAR : Int64) (v_upper : Int64) (v_lower : Int64) (v_rates : Int32) (v_taped : Int32) (v_laid : Int32) (v_at : Int32) (v_tk : Int32) (v_tkAt : Int32) (v_tkNumber : Int32) (v_waits : Int32) (v_listed : Int32) (v_dealtMany : Int32) : List Value := [.int v_code, .int v_today, .ref (a 2), .ref (a 3), .ref (a 4), .ref (a 5), .ref (a 6), .ref (a 7), .ref (a 8), .ref (a 9), .ref (a 10), .int v_offs, .ref (a 12), .ref (a 13), .ref (a 14), .ref (a 15), .ref (a 16), .long v_many, .long v_sumW, .long v_sumA, .long v_sumR, .long v_sumWW, .long v_sumWA, .long v_sumAA, .long v_sumWR, .long v_sumAR, .long v_upper, .long v_lower, .int v_rates, .ref (a 29), .ref (a 30), .ref (a 31), .ref (a 32), .int v_taped, .ref (a 34), .ref (a 35), .ref (a 36), .ref (a 37), .int v_laid, .int v_at, .int v_tk, .int v_tkAt, .int v_tkNumber, .ref (a 43), .int v_waits, .ref (a 45), .ref (a 46), .ref (a 47), .ref (a 48), .ref (a 49), .ref (a 50), .ref (a 51), .ref (a 52), .ref (a 53), .ref (a 54), .ref (a 55), .ref (a 56), .ref (a 57), .ref (a 58), .ref (a 59), .ref (a 60), .int v_listed, .ref (a 62), .ref (a 63), .int v_dealtMany, .ref (a 65), .ref (a 66), .ref (a 67)]
/-! ===== what the reference's reading methods give ===== -/
def errS (sg fr to bz od : Nat → Int32) (src day k v0 : Int32) : Nat → Int32
  | 0 => v0
  | i + 1 => if (sg i).toInt = src.toInt ∧ ((fr i).toInt ≤ day.toInt ∧ day.toInt ≤ (to i).toInt) ∧ (k.toInt < 0 ∨ (od i).toInt ≤ k.toInt) then errS sg fr to bz od src day k v0 i - bz i else errS sg fr to bz od src day k v0 i
theorem errS_succ (sg fr to bz od : Nat → Int32) (src day k v0 : Int32) (i : Nat) : errS sg fr to bz od src day k v0 (i + 1) = if (sg i).toInt = src.toInt ∧ ((fr i).toInt ≤ day.toInt ∧ day.toInt ≤ (to i).toInt) ∧ (k.toInt < 0 ∨ (od i).toInt ≤ k.toInt) then errS sg fr to bz od src day k v0 i - bz i else errS sg fr to bz od src day k v0 i := rfl
def errF (hs er sr sg fr to bz od : Nat → Int32) (n pl day k : Int32) : Int32 :=
  if (hs (400 * pl + day).toNatClampNeg).toInt = 0 then -2000000000 else errS sg fr to bz od (sr (400 * pl + day).toNatClampNeg) day k (er (400 * pl + day).toNatClampNeg) n.toNatClampNeg
def szF (v : Int32) : Int32 := if v.toInt < 0 then -v else v
def ratG (rp lt : Nat → Int32) (a b at_ : Int32) : Int32 :=
  if (rp (at_ + 1).toNatClampNeg).toInt ≠ 0 ∨ (lt at_.toNatClampNeg).toInt ≠ 0 ∨ (lt (at_ + 1).toNatClampNeg).toInt ≠ 0 then -2000000000
  else if a.toInt = -2000000000 ∨ b.toInt = -2000000000 ∨ 999 < (szF (b - a)).toInt then -2000000000 else b - a
def ratF (hs er sr rp lt sg fr to bz od : Nat → Int32) (n pl day k : Int32) : Int32 :=
  ratG rp lt (errF hs er sr sg fr to bz od n pl day k) (errF hs er sr sg fr to bz od n pl (day + 1) k) (400 * pl + day)
/-- how many of the days p, p + 1 .. have a rate -/
def cntF (R : Int32 → Int32) (p : Int32) : Nat → Int
  | 0 => 0
  | j + 1 => cntF R p j + (if (R (p + nI j)).toInt = -2000000000 then 0 else 1)
theorem cntF_succ (R : Int32 → Int32) (p : Int32) (j : Nat) : cntF R p (j + 1) = cntF R p j + (if (R (p + nI j)).toInt = -2000000000 then 0 else 1) := rfl
theorem cntF_le (R : Int32 → Int32) (p : Int32) : ∀ j : Nat, 0 ≤ cntF R p j ∧ cntF R p j ≤ j
  | 0 => ⟨Int.le_refl 0, Int.le_refl 0⟩
  | j + 1 => by
    have h := cntF_le R p j
    rw [cntF_succ]
    split <;> omega
theorem clampS {i j : Int32} (h0 : 0 ≤ i.toInt) (h : j.toInt = i.toInt + 1) : j.toNatClampNeg = i.toNatClampNeg + 1 := by
  have h1 := i_clamp0 h0
  have h2 := i_clamp0 (x := j) (by omega)
  omega
theorem clampE {i j : Int32} (h0 : 0 ≤ i.toInt) (h : j.toInt = i.toInt) : j.toNatClampNeg = i.toNatClampNeg := by
  rw [i_eq.mpr h]
theorem clamp_0 : (0 : Int32).toNatClampNeg = 0 := by decide
theorem day_at {p d : Int32} (h : p.toInt ≤ d.toInt) (h0 : 0 ≤ p.toInt) : p + nI (d.toInt - p.toInt).toNat = d := by
  have hd := i_hi d
  have e : (nI (d.toInt - p.toInt).toNat).toInt = d.toInt - p.toInt := by
    rw [nI_toInt (by omega)]; omega
  refine i_eq.mpr ?_
  rw [g_add rfl e (by omega) (by omega)]
  omega
