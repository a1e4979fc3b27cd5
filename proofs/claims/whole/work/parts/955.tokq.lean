/-! questions to the token, on both sides -/
def wv (T : Tk) : Int := if T.1 = 1 then T.2.2.1 else -1
def isNm (T : Tk) : Bool := decide (T.1 = 1 ∧ T.2.2.1 = -1 ∧ T.2.2.2.2 ≠ 0)
def isNu (T : Tk) (a b : Int) : Bool := decide (T.1 = 2 ∧ a ≤ T.2.2.1 ∧ T.2.2.1 ≤ b)
def isSg (T : Tk) (c : Int) : Bool := decide (T.1 = 3 ∧ T.2.2.1 = c)
def fkT (T : Tk) (k : Int) : Int := if T.1 = 4 then 1 else k
section TQ
variable {t m : Nat} {M : Mem} {B : Int → Int} {n p : Int}
theorem RDp.rd (h : RDp t B n p M) : ∃ i : Int, (0 ≤ i ∧ i ≤ 900) ∧ M.1 t 7 = iI i ∧ M.1 (t + 2) i.toNat = iI (tok B n p).1 ∧ M.1 (t + 3) i.toNat = iI (tok B n p).2.1 ∧ ((tok B n p).1 ≠ 4 → M.1 (t + 4) i.toNat = iI (tok B n p).2.2.1) ∧ M.2.1 (t + 5) i.toNat = lI (tok B n p).2.2.2.2 := by
  obtain ⟨T, i, ⟨⟨a1, a2⟩, f9, f10⟩, h6, h7, hA, hk, hT, hi⟩ := h
  obtain ⟨b1, b2, b3, b4⟩ := hA i (by omega)
  rw [hi] at b1 b2 b3 b4
  exact ⟨i, ⟨by omega, by omega⟩, h7, b1, b2, b3, b4⟩
theorem RDp.fr {S : Nat → Prop} {M' : Mem} (hF : Fr S M M') (hS : ∀ z, z = t ∨ (t + 2 ≤ z ∧ z ≤ t + 5) → ¬ S z) (h : RDp t B n p M) : RDp t B n p M' := by
  unfold RDp TA at h ⊢
  rw [(hF t (hS t (by omega))).1, (hF (t + 2) (hS _ (by omega))).1, (hF (t + 3) (hS _ (by omega))).1, (hF (t + 4) (hS _ (by omega))).1, (hF (t + 5) (hS _ (by omega))).2.1]
  exact h
theorem wv_bd (w : WTk n (tok B n p)) : -1 ≤ wv (tok B n p) ∧ wv (tok B n p) < 24 := by
  unfold wv
  split
  · rename_i h
    have := w.2.2.1 h
    omega
  · omega
theorem c_atEnd (w : WTk n (tok B n p)) (h : RDp t B n p M) : fX6_isAtEnd t M = some (bI (decide ((tok B n p).1 = 0))) := by
  obtain ⟨i, hi, h7, e1, e2, e3, e4⟩ := h.rd
  have w1 := w.1
  unfold fX6_isAtEnd
  by_cases q : (tok B n p).1 = 0
  · rw [decide_eq_true q]
    simp (disch := omega) only [iI_add, iI_sub, iI_mul, iI_neg, iI_nat, addm1, ixkI, ↓sbind, sbind, ↓bdS, bdS, ↓nm_eq, ↓jn_eq, iI_lt, iI_le, iI_eq, k_0, k_1, k_2, k_3, k_4, k_5, k_6, k_7, k_8, k_9, k_10, k_11, k_12, k_13, k_14, k_15, k_16, k_17, k_18, k_19, k_20, k_21, k_22, k_23, k_24, k_27, k_30, k_32, k_48, k_57, k_59, k_60, k_61, k_62, k_63, k_64, k_72, k_78, k_80, k_82, k_97, k_99, k_100, k_122, k_244, k_255, k_268, k_280, k_300, k_432, k_650, k_900, k_901, k_999, k_1700, k_2600, k_2601, k_2602, k_2603, k_2604, k_2610, k_2618, k_2682, k_2777, k_2844, k_2868, k_2880, k_3245, k_3250, k_9551, k_9999, k_65536, k_100000, k_999999, k_1000000, k_2147483647, lt_T, lt_F, le_T, le_F, eq_T, eq_F, ↓reduceIte, not_true_eq_false, not_false_eq_true, or_true, or_false, true_or, false_or, and_true, true_and, and_false, false_and, h7, e1, bI_t]
  · rw [decide_eq_false q]
    simp (disch := omega) only [iI_add, iI_sub, iI_mul, iI_neg, iI_nat, addm1, ixkI, ↓sbind, sbind, ↓bdS, bdS, ↓nm_eq, ↓jn_eq, iI_lt, iI_le, iI_eq, k_0, k_1, k_2, k_3, k_4, k_5, k_6, k_7, k_8, k_9, k_10, k_11, k_12, k_13, k_14, k_15, k_16, k_17, k_18, k_19, k_20, k_21, k_22, k_23, k_24, k_27, k_30, k_32, k_48, k_57, k_59, k_60, k_61, k_62, k_63, k_64, k_72, k_78, k_80, k_82, k_97, k_99, k_100, k_122, k_244, k_255, k_268, k_280, k_300, k_432, k_650, k_900, k_901, k_999, k_1700, k_2600, k_2601, k_2602, k_2603, k_2604, k_2610, k_2618, k_2682, k_2777, k_2844, k_2868, k_2880, k_3245, k_3250, k_9551, k_9999, k_65536, k_100000, k_999999, k_1000000, k_2147483647, lt_T, lt_F, le_T, le_F, eq_T, eq_F, ↓reduceIte, not_true_eq_false, not_false_eq_true, or_true, or_false, true_or, false_or, and_true, true_and, and_false, false_and, h7, e1, bI_f]
theorem c_word (w : WTk n (tok B n p)) (h : RDp t B n p M) : fX6_word t M = some (iI (wv (tok B n p))) := by
  obtain ⟨i, hi, h7, e1, e2, e3, e4⟩ := h.rd
  have w1 := w.1
  unfold fX6_word wv
  by_cases q : (tok B n p).1 = 1
  · have e3 := e3 (by omega)
    rw [if_pos q]
    simp (disch := omega) only [iI_add, iI_sub, iI_mul, iI_neg, iI_nat, addm1, ixkI, ↓sbind, sbind, ↓bdS, bdS, ↓nm_eq, ↓jn_eq, iI_lt, iI_le, iI_eq, k_0, k_1, k_2, k_3, k_4, k_5, k_6, k_7, k_8, k_9, k_10, k_11, k_12, k_13, k_14, k_15, k_16, k_17, k_18, k_19, k_20, k_21, k_22, k_23, k_24, k_27, k_30, k_32, k_48, k_57, k_59, k_60, k_61, k_62, k_63, k_64, k_72, k_78, k_80, k_82, k_97, k_99, k_100, k_122, k_244, k_255, k_268, k_280, k_300, k_432, k_650, k_900, k_901, k_999, k_1700, k_2600, k_2601, k_2602, k_2603, k_2604, k_2610, k_2618, k_2682, k_2777, k_2844, k_2868, k_2880, k_3245, k_3250, k_9551, k_9999, k_65536, k_100000, k_999999, k_1000000, k_2147483647, lt_T, lt_F, le_T, le_F, eq_T, eq_F, ↓reduceIte, not_true_eq_false, not_false_eq_true, or_true, or_false, true_or, false_or, and_true, true_and, and_false, false_and, h7, e1, e3]
  · rw [if_neg q]
    simp (disch := omega) only [iI_add, iI_sub, iI_mul, iI_neg, iI_nat, addm1, ixkI, ↓sbind, sbind, ↓bdS, bdS, ↓nm_eq, ↓jn_eq, iI_lt, iI_le, iI_eq, k_0, k_1, k_2, k_3, k_4, k_5, k_6, k_7, k_8, k_9, k_10, k_11, k_12, k_13, k_14, k_15, k_16, k_17, k_18, k_19, k_20, k_21, k_22, k_23, k_24, k_27, k_30, k_32, k_48, k_57, k_59, k_60, k_61, k_62, k_63, k_64, k_72, k_78, k_80, k_82, k_97, k_99, k_100, k_122, k_244, k_255, k_268, k_280, k_300, k_432, k_650, k_900, k_901, k_999, k_1700, k_2600, k_2601, k_2602, k_2603, k_2604, k_2610, k_2618, k_2682, k_2777, k_2844, k_2868, k_2880, k_3245, k_3250, k_9551, k_9999, k_65536, k_100000, k_999999, k_1000000, k_2147483647, lt_T, lt_F, le_T, le_F, eq_T, eq_F, ↓reduceIte, not_true_eq_false, not_false_eq_true, or_true, or_false, true_or, false_or, and_true, true_and, and_false, false_and, h7, e1]
theorem c_name (h : RDp t B n p M) : fX6_name t M = some (lI (tok B n p).2.2.2.2) := by
  obtain ⟨i, hi, h7, e1, e2, e3, e4⟩ := h.rd
  unfold fX6_name
  simp (disch := omega) only [iI_add, iI_sub, iI_mul, iI_neg, iI_nat, addm1, ixkI, ↓sbind, sbind, ↓bdS, bdS, ↓nm_eq, ↓jn_eq, iI_lt, iI_le, iI_eq, k_0, k_1, k_2, k_3, k_4, k_5, k_6, k_7, k_8, k_9, k_10, k_11, k_12, k_13, k_14, k_15, k_16, k_17, k_18, k_19, k_20, k_21, k_22, k_23, k_24, k_27, k_30, k_32, k_48, k_57, k_59, k_60, k_61, k_62, k_63, k_64, k_72, k_78, k_80, k_82, k_97, k_99, k_100, k_122, k_244, k_255, k_268, k_280, k_300, k_432, k_650, k_900, k_901, k_999, k_1700, k_2600, k_2601, k_2602, k_2603, k_2604, k_2610, k_2618, k_2682, k_2777, k_2844, k_2868, k_2880, k_3245, k_3250, k_9551, k_9999, k_65536, k_100000, k_999999, k_1000000, k_2147483647, lt_T, lt_F, le_T, le_F, eq_T, eq_F, ↓reduceIte, not_true_eq_false, not_false_eq_true, or_true, or_false, true_or, false_or, and_true, true_and, and_false, false_and, h7, e4]
theorem c_value (h : RDp t B n p M) : ∃ v, fX6_value t M = some v ∧ ((tok B n p).1 ≠ 4 → v = iI (tok B n p).2.2.1) := by
  obtain ⟨i, hi, h7, e1, e2, e3, e4⟩ := h.rd
  refine ⟨M.1 (t + 4) i.toNat, ?_, e3⟩
  unfold fX6_value
  simp (disch := omega) only [iI_add, iI_sub, iI_mul, iI_neg, iI_nat, addm1, ixkI, ↓sbind, sbind, ↓bdS, bdS, ↓nm_eq, ↓jn_eq, iI_lt, iI_le, iI_eq, k_0, k_1, k_2, k_3, k_4, k_5, k_6, k_7, k_8, k_9, k_10, k_11, k_12, k_13, k_14, k_15, k_16, k_17, k_18, k_19, k_20, k_21, k_22, k_23, k_24, k_27, k_30, k_32, k_48, k_57, k_59, k_60, k_61, k_62, k_63, k_64, k_72, k_78, k_80, k_82, k_97, k_99, k_100, k_122, k_244, k_255, k_268, k_280, k_300, k_432, k_650, k_900, k_901, k_999, k_1700, k_2600, k_2601, k_2602, k_2603, k_2604, k_2610, k_2618, k_2682, k_2777, k_2844, k_2868, k_2880, k_3245, k_3250, k_9551, k_9999, k_65536, k_100000, k_999999, k_1000000, k_2147483647, lt_T, lt_F, le_T, le_F, eq_T, eq_F, ↓reduceIte, not_true_eq_false, not_false_eq_true, or_true, or_false, true_or, false_or, and_true, true_and, and_false, false_and, h7]
theorem nc_bd (w : WTk n (tok B n p)) : 0 ≤ (tok B n p).2.2.2.2 ∧ (tok B n p).2.2.2.2 < 1099511627777 := by
  by_cases q : (tok B n p).2.2.2.2 = 0
  · omega
  · have := (w.2.2.2.2.2.2.2.2.1 q).2.1.bd
    omega
theorem c_isName (w : WTk n (tok B n p)) (h : RDp t B n p M) : fX6_isName t M = some (bI (isNm (tok B n p))) := by
  obtain ⟨i, hi, h7, e1, e2, e3, e4⟩ := h.rd
  have w1 := w.1
  have z1 : (-1 : Int32) = iI (-1) := rfl
  have z0 : (0 : Int64) = lI 0 := rfl
  have b := nc_bd w
  unfold fX6_isName isNm
  by_cases q : (tok B n p).1 = 1
  · have e3 := e3 (by omega)
    have w2 := w.2.2.1 q
    by_cases q2 : (tok B n p).2.2.1 = -1
    · by_cases q3 : (tok B n p).2.2.2.2 = 0
      · rw [decide_eq_false (fun z => z.2.2 q3)]
        rw [q3] at e4
        simp (disch := omega) only [iI_add, iI_sub, iI_mul, iI_neg, iI_nat, addm1, ixkI, ↓sbind, sbind, ↓bdS, bdS, ↓nm_eq, ↓jn_eq, iI_lt, iI_le, iI_eq, k_0, k_1, k_2, k_3, k_4, k_5, k_6, k_7, k_8, k_9, k_10, k_11, k_12, k_13, k_14, k_15, k_16, k_17, k_18, k_19, k_20, k_21, k_22, k_23, k_24, k_27, k_30, k_32, k_48, k_57, k_59, k_60, k_61, k_62, k_63, k_64, k_72, k_78, k_80, k_82, k_97, k_99, k_100, k_122, k_244, k_255, k_268, k_280, k_300, k_432, k_650, k_900, k_901, k_999, k_1700, k_2600, k_2601, k_2602, k_2603, k_2604, k_2610, k_2618, k_2682, k_2777, k_2844, k_2868, k_2880, k_3245, k_3250, k_9551, k_9999, k_65536, k_100000, k_999999, k_1000000, k_2147483647, lt_T, lt_F, le_T, le_F, eq_T, eq_F, ↓reduceIte, not_true_eq_false, not_false_eq_true, or_true, or_false, true_or, false_or, and_true, true_and, and_false, false_and, h7, e1, e3, e4, z1, z0, bI_f]
      · rw [decide_eq_true ⟨q, q2, q3⟩]
        simp (disch := omega) only [iI_add, iI_sub, iI_mul, iI_neg, iI_nat, addm1, ixkI, ↓sbind, sbind, ↓bdS, bdS, ↓nm_eq, ↓jn_eq, iI_lt, iI_le, iI_eq, k_0, k_1, k_2, k_3, k_4, k_5, k_6, k_7, k_8, k_9, k_10, k_11, k_12, k_13, k_14, k_15, k_16, k_17, k_18, k_19, k_20, k_21, k_22, k_23, k_24, k_27, k_30, k_32, k_48, k_57, k_59, k_60, k_61, k_62, k_63, k_64, k_72, k_78, k_80, k_82, k_97, k_99, k_100, k_122, k_244, k_255, k_268, k_280, k_300, k_432, k_650, k_900, k_901, k_999, k_1700, k_2600, k_2601, k_2602, k_2603, k_2604, k_2610, k_2618, k_2682, k_2777, k_2844, k_2868, k_2880, k_3245, k_3250, k_9551, k_9999, k_65536, k_100000, k_999999, k_1000000, k_2147483647, lI_add, lI_sub, lI_mul, lI_neg, lI_lt, lI_le, lI_eq, iI_l, kl_0, kl_1, kl_2, kl_6, kl_9, kl_10, kl_32, kl_99, kl_999, kl_9999, kl_999999, lt_T, lt_F, le_T, le_F, eq_T, eq_F, ↓reduceIte, not_true_eq_false, not_false_eq_true, or_true, or_false, true_or, false_or, and_true, true_and, and_false, false_and, h7, e1, e3, e4, z1, z0, bI_t]
    · rw [decide_eq_false (fun z => q2 z.2.1)]
      simp (disch := omega) only [iI_add, iI_sub, iI_mul, iI_neg, iI_nat, addm1, ixkI, ↓sbind, sbind, ↓bdS, bdS, ↓nm_eq, ↓jn_eq, iI_lt, iI_le, iI_eq, k_0, k_1, k_2, k_3, k_4, k_5, k_6, k_7, k_8, k_9, k_10, k_11, k_12, k_13, k_14, k_15, k_16, k_17, k_18, k_19, k_20, k_21, k_22, k_23, k_24, k_27, k_30, k_32, k_48, k_57, k_59, k_60, k_61, k_62, k_63, k_64, k_72, k_78, k_80, k_82, k_97, k_99, k_100, k_122, k_244, k_255, k_268, k_280, k_300, k_432, k_650, k_900, k_901, k_999, k_1700, k_2600, k_2601, k_2602, k_2603, k_2604, k_2610, k_2618, k_2682, k_2777, k_2844, k_2868, k_2880, k_3245, k_3250, k_9551, k_9999, k_65536, k_100000, k_999999, k_1000000, k_2147483647, lt_T, lt_F, le_T, le_F, eq_T, eq_F, ↓reduceIte, not_true_eq_false, not_false_eq_true, or_true, or_false, true_or, false_or, and_true, true_and, and_false, false_and, h7, e1, e3, z1, bI_f]
  · rw [decide_eq_false (fun z => q z.1)]
    simp (disch := omega) only [iI_add, iI_sub, iI_mul, iI_neg, iI_nat, addm1, ixkI, ↓sbind, sbind, ↓bdS, bdS, ↓nm_eq, ↓jn_eq, iI_lt, iI_le, iI_eq, k_0, k_1, k_2, k_3, k_4, k_5, k_6, k_7, k_8, k_9, k_10, k_11, k_12, k_13, k_14, k_15, k_16, k_17, k_18, k_19, k_20, k_21, k_22, k_23, k_24, k_27, k_30, k_32, k_48, k_57, k_59, k_60, k_61, k_62, k_63, k_64, k_72, k_78, k_80, k_82, k_97, k_99, k_100, k_122, k_244, k_255, k_268, k_280, k_300, k_432, k_650, k_900, k_901, k_999, k_1700, k_2600, k_2601, k_2602, k_2603, k_2604, k_2610, k_2618, k_2682, k_2777, k_2844, k_2868, k_2880, k_3245, k_3250, k_9551, k_9999, k_65536, k_100000, k_999999, k_1000000, k_2147483647, lt_T, lt_F, le_T, le_F, eq_T, eq_F, ↓reduceIte, not_true_eq_false, not_false_eq_true, or_true, or_false, true_or, false_or, and_true, true_and, and_false, false_and, h7, e1, bI_f]
theorem c_nameFault (w : WTk n (tok B n p)) (h : RDp t B n p M) : fX6_nameFault t M = some (iI (if isNm (tok B n p) = true then 3 else 2)) := by
  unfold fX6_nameFault
  rw [c_isName w h, sbind]
  cases isNm (tok B n p) with
  | true => rfl
  | false => rfl
theorem c_isNumber (w : WTk n (tok B n p)) (h : RDp t B n p M) {a b : Int} (ha : 0 ≤ a ∧ a ≤ 99999) (hb : 0 ≤ b ∧ b ≤ 99999) : fX6_isNumber t (iI a) (iI b) M = some (bI (isNu (tok B n p) a b)) := by
  obtain ⟨i, hi, h7, e1, e2, e3, e4⟩ := h.rd
  have w1 := w.1
  unfold fX6_isNumber isNu
  by_cases q : (tok B n p).1 = 2
  · have e3 := e3 (by omega)
    have w2 := w.2.2.2.1 q
    by_cases q2 : a ≤ (tok B n p).2.2.1
    · by_cases q3 : (tok B n p).2.2.1 ≤ b
      · rw [decide_eq_true ⟨q, q2, q3⟩]
        simp (disch := omega) only [iI_add, iI_sub, iI_mul, iI_neg, iI_nat, addm1, ixkI, ↓sbind, sbind, ↓bdS, bdS, ↓nm_eq, ↓jn_eq, iI_lt, iI_le, iI_eq, k_0, k_1, k_2, k_3, k_4, k_5, k_6, k_7, k_8, k_9, k_10, k_11, k_12, k_13, k_14, k_15, k_16, k_17, k_18, k_19, k_20, k_21, k_22, k_23, k_24, k_27, k_30, k_32, k_48, k_57, k_59, k_60, k_61, k_62, k_63, k_64, k_72, k_78, k_80, k_82, k_97, k_99, k_100, k_122, k_244, k_255, k_268, k_280, k_300, k_432, k_650, k_900, k_901, k_999, k_1700, k_2600, k_2601, k_2602, k_2603, k_2604, k_2610, k_2618, k_2682, k_2777, k_2844, k_2868, k_2880, k_3245, k_3250, k_9551, k_9999, k_65536, k_100000, k_999999, k_1000000, k_2147483647, lt_T, lt_F, le_T, le_F, eq_T, eq_F, ↓reduceIte, not_true_eq_false, not_false_eq_true, or_true, or_false, true_or, false_or, and_true, true_and, and_false, false_and, h7, e1, e3, bI_t]
      · rw [decide_eq_false (fun z => q3 z.2.2)]
        simp (disch := omega) only [iI_add, iI_sub, iI_mul, iI_neg, iI_nat, addm1, ixkI, ↓sbind, sbind, ↓bdS, bdS, ↓nm_eq, ↓jn_eq, iI_lt, iI_le, iI_eq, k_0, k_1, k_2, k_3, k_4, k_5, k_6, k_7, k_8, k_9, k_10, k_11, k_12, k_13, k_14, k_15, k_16, k_17, k_18, k_19, k_20, k_21, k_22, k_23, k_24, k_27, k_30, k_32, k_48, k_57, k_59, k_60, k_61, k_62, k_63, k_64, k_72, k_78, k_80, k_82, k_97, k_99, k_100, k_122, k_244, k_255, k_268, k_280, k_300, k_432, k_650, k_900, k_901, k_999, k_1700, k_2600, k_2601, k_2602, k_2603, k_2604, k_2610, k_2618, k_2682, k_2777, k_2844, k_2868, k_2880, k_3245, k_3250, k_9551, k_9999, k_65536, k_100000, k_999999, k_1000000, k_2147483647, lt_T, lt_F, le_T, le_F, eq_T, eq_F, ↓reduceIte, not_true_eq_false, not_false_eq_true, or_true, or_false, true_or, false_or, and_true, true_and, and_false, false_and, h7, e1, e3, bI_f]
    · rw [decide_eq_false (fun z => q2 z.2.1)]
      simp (disch := omega) only [iI_add, iI_sub, iI_mul, iI_neg, iI_nat, addm1, ixkI, ↓sbind, sbind, ↓bdS, bdS, ↓nm_eq, ↓jn_eq, iI_lt, iI_le, iI_eq, k_0, k_1, k_2, k_3, k_4, k_5, k_6, k_7, k_8, k_9, k_10, k_11, k_12, k_13, k_14, k_15, k_16, k_17, k_18, k_19, k_20, k_21, k_22, k_23, k_24, k_27, k_30, k_32, k_48, k_57, k_59, k_60, k_61, k_62, k_63, k_64, k_72, k_78, k_80, k_82, k_97, k_99, k_100, k_122, k_244, k_255, k_268, k_280, k_300, k_432, k_650, k_900, k_901, k_999, k_1700, k_2600, k_2601, k_2602, k_2603, k_2604, k_2610, k_2618, k_2682, k_2777, k_2844, k_2868, k_2880, k_3245, k_3250, k_9551, k_9999, k_65536, k_100000, k_999999, k_1000000, k_2147483647, lt_T, lt_F, le_T, le_F, eq_T, eq_F, ↓reduceIte, not_true_eq_false, not_false_eq_true, or_true, or_false, true_or, false_or, and_true, true_and, and_false, false_and, h7, e1, e3, bI_f]
  · rw [decide_eq_false (fun z => q z.1)]
    simp (disch := omega) only [iI_add, iI_sub, iI_mul, iI_neg, iI_nat, addm1, ixkI, ↓sbind, sbind, ↓bdS, bdS, ↓nm_eq, ↓jn_eq, iI_lt, iI_le, iI_eq, k_0, k_1, k_2, k_3, k_4, k_5, k_6, k_7, k_8, k_9, k_10, k_11, k_12, k_13, k_14, k_15, k_16, k_17, k_18, k_19, k_20, k_21, k_22, k_23, k_24, k_27, k_30, k_32, k_48, k_57, k_59, k_60, k_61, k_62, k_63, k_64, k_72, k_78, k_80, k_82, k_97, k_99, k_100, k_122, k_244, k_255, k_268, k_280, k_300, k_432, k_650, k_900, k_901, k_999, k_1700, k_2600, k_2601, k_2602, k_2603, k_2604, k_2610, k_2618, k_2682, k_2777, k_2844, k_2868, k_2880, k_3245, k_3250, k_9551, k_9999, k_65536, k_100000, k_999999, k_1000000, k_2147483647, lt_T, lt_F, le_T, le_F, eq_T, eq_F, ↓reduceIte, not_true_eq_false, not_false_eq_true, or_true, or_false, true_or, false_or, and_true, true_and, and_false, false_and, h7, e1, bI_f]
theorem c_numFault (w : WTk n (tok B n p)) (h : RDp t B n p M) : fX6_numberFault t M = some (iI (if (tok B n p).1 = 2 then 4 else 2)) := by
  obtain ⟨i, hi, h7, e1, e2, e3, e4⟩ := h.rd
  have w1 := w.1
  unfold fX6_numberFault
  by_cases q : (tok B n p).1 = 2
  · rw [if_pos q]
    simp (disch := omega) only [iI_add, iI_sub, iI_mul, iI_neg, iI_nat, addm1, ixkI, ↓sbind, sbind, ↓bdS, bdS, ↓nm_eq, ↓jn_eq, iI_lt, iI_le, iI_eq, k_0, k_1, k_2, k_3, k_4, k_5, k_6, k_7, k_8, k_9, k_10, k_11, k_12, k_13, k_14, k_15, k_16, k_17, k_18, k_19, k_20, k_21, k_22, k_23, k_24, k_27, k_30, k_32, k_48, k_57, k_59, k_60, k_61, k_62, k_63, k_64, k_72, k_78, k_80, k_82, k_97, k_99, k_100, k_122, k_244, k_255, k_268, k_280, k_300, k_432, k_650, k_900, k_901, k_999, k_1700, k_2600, k_2601, k_2602, k_2603, k_2604, k_2610, k_2618, k_2682, k_2777, k_2844, k_2868, k_2880, k_3245, k_3250, k_9551, k_9999, k_65536, k_100000, k_999999, k_1000000, k_2147483647, lt_T, lt_F, le_T, le_F, eq_T, eq_F, ↓reduceIte, not_true_eq_false, not_false_eq_true, or_true, or_false, true_or, false_or, and_true, true_and, and_false, false_and, h7, e1]
  · rw [if_neg q]
    simp (disch := omega) only [iI_add, iI_sub, iI_mul, iI_neg, iI_nat, addm1, ixkI, ↓sbind, sbind, ↓bdS, bdS, ↓nm_eq, ↓jn_eq, iI_lt, iI_le, iI_eq, k_0, k_1, k_2, k_3, k_4, k_5, k_6, k_7, k_8, k_9, k_10, k_11, k_12, k_13, k_14, k_15, k_16, k_17, k_18, k_19, k_20, k_21, k_22, k_23, k_24, k_27, k_30, k_32, k_48, k_57, k_59, k_60, k_61, k_62, k_63, k_64, k_72, k_78, k_80, k_82, k_97, k_99, k_100, k_122, k_244, k_255, k_268, k_280, k_300, k_432, k_650, k_900, k_901, k_999, k_1700, k_2600, k_2601, k_2602, k_2603, k_2604, k_2610, k_2618, k_2682, k_2777, k_2844, k_2868, k_2880, k_3245, k_3250, k_9551, k_9999, k_65536, k_100000, k_999999, k_1000000, k_2147483647, lt_T, lt_F, le_T, le_F, eq_T, eq_F, ↓reduceIte, not_true_eq_false, not_false_eq_true, or_true, or_false, true_or, false_or, and_true, true_and, and_false, false_and, h7, e1]
theorem c_isSign (w : WTk n (tok B n p)) (h : RDp t B n p M) {c : Int} (hc : 0 ≤ c ∧ c ≤ 255) : fX6_isSign t (iI c) M = some (bI (isSg (tok B n p) c)) := by
  obtain ⟨i, hi, h7, e1, e2, e3, e4⟩ := h.rd
  have w1 := w.1
  unfold fX6_isSign isSg
  by_cases q : (tok B n p).1 = 3
  · have e3 := e3 (by omega)
    have w2 := w.2.2.2.2.1 q
    by_cases q2 : (tok B n p).2.2.1 = c
    · rw [decide_eq_true ⟨q, q2⟩]
      simp (disch := omega) only [iI_add, iI_sub, iI_mul, iI_neg, iI_nat, addm1, ixkI, ↓sbind, sbind, ↓bdS, bdS, ↓nm_eq, ↓jn_eq, iI_lt, iI_le, iI_eq, k_0, k_1, k_2, k_3, k_4, k_5, k_6, k_7, k_8, k_9, k_10, k_11, k_12, k_13, k_14, k_15, k_16, k_17, k_18, k_19, k_20, k_21, k_22, k_23, k_24, k_27, k_30, k_32, k_48, k_57, k_59, k_60, k_61, k_62, k_63, k_64, k_72, k_78, k_80, k_82, k_97, k_99, k_100, k_122, k_244, k_255, k_268, k_280, k_300, k_432, k_650, k_900, k_901, k_999, k_1700, k_2600, k_2601, k_2602, k_2603, k_2604, k_2610, k_2618, k_2682, k_2777, k_2844, k_2868, k_2880, k_3245, k_3250, k_9551, k_9999, k_65536, k_100000, k_999999, k_1000000, k_2147483647, lt_T, lt_F, le_T, le_F, eq_T, eq_F, ↓reduceIte, not_true_eq_false, not_false_eq_true, or_true, or_false, true_or, false_or, and_true, true_and, and_false, false_and, h7, e1, e3, bI_t]
    · rw [decide_eq_false (fun z => q2 z.2)]
      simp (disch := omega) only [iI_add, iI_sub, iI_mul, iI_neg, iI_nat, addm1, ixkI, ↓sbind, sbind, ↓bdS, bdS, ↓nm_eq, ↓jn_eq, iI_lt, iI_le, iI_eq, k_0, k_1, k_2, k_3, k_4, k_5, k_6, k_7, k_8, k_9, k_10, k_11, k_12, k_13, k_14, k_15, k_16, k_17, k_18, k_19, k_20, k_21, k_22, k_23, k_24, k_27, k_30, k_32, k_48, k_57, k_59, k_60, k_61, k_62, k_63, k_64, k_72, k_78, k_80, k_82, k_97, k_99, k_100, k_122, k_244, k_255, k_268, k_280, k_300, k_432, k_650, k_900, k_901, k_999, k_1700, k_2600, k_2601, k_2602, k_2603, k_2604, k_2610, k_2618, k_2682, k_2777, k_2844, k_2868, k_2880, k_3245, k_3250, k_9551, k_9999, k_65536, k_100000, k_999999, k_1000000, k_2147483647, lt_T, lt_F, le_T, le_F, eq_T, eq_F, ↓reduceIte, not_true_eq_false, not_false_eq_true, or_true, or_false, true_or, false_or, and_true, true_and, and_false, false_and, h7, e1, e3, bI_f]
  · rw [decide_eq_false (fun z => q z.1)]
    simp (disch := omega) only [iI_add, iI_sub, iI_mul, iI_neg, iI_nat, addm1, ixkI, ↓sbind, sbind, ↓bdS, bdS, ↓nm_eq, ↓jn_eq, iI_lt, iI_le, iI_eq, k_0, k_1, k_2, k_3, k_4, k_5, k_6, k_7, k_8, k_9, k_10, k_11, k_12, k_13, k_14, k_15, k_16, k_17, k_18, k_19, k_20, k_21, k_22, k_23, k_24, k_27, k_30, k_32, k_48, k_57, k_59, k_60, k_61, k_62, k_63, k_64, k_72, k_78, k_80, k_82, k_97, k_99, k_100, k_122, k_244, k_255, k_268, k_280, k_300, k_432, k_650, k_900, k_901, k_999, k_1700, k_2600, k_2601, k_2602, k_2603, k_2604, k_2610, k_2618, k_2682, k_2777, k_2844, k_2868, k_2880, k_3245, k_3250, k_9551, k_9999, k_65536, k_100000, k_999999, k_1000000, k_2147483647, lt_T, lt_F, le_T, le_F, eq_T, eq_F, ↓reduceIte, not_true_eq_false, not_false_eq_true, or_true, or_false, true_or, false_or, and_true, true_and, and_false, false_and, h7, e1, bI_f]
/-- only where the class's reader stands is changed -/
def cGo (t : Nat) (M M1 : Mem) : Prop := (∀ i, i ≠ 7 → M1.1 t i = M.1 t i) ∧ M1.2 = M.2 ∧ Fr (fun z => z = t) M M1
theorem tok_n (B : Int → Int) (n : Int) : tok B n n = (0, n, 0, n, 0) := by
  unfold tok
  rw [rn_e (Int.le_refl n)]
  exact if_pos (Int.le_refl n)
theorem c_goOn (h : RDp t B n p M) : ∃ M1, fX6_goOn t M = some ((), M1) ∧ RDp t B n (tok B n p).2.2.2.1 M1 ∧ cGo t M M1 := by
  obtain ⟨T, i, ⟨⟨a1, a2⟩, f9, f10⟩, h6, h7, hA, hk, hT, hi⟩ := h
  by_cases q : i = T
  · refine ⟨M, ?_, ⟨T, i, ⟨⟨a1, a2⟩, f9, f10⟩, h6, h7, hA, hk, hT, ?_⟩, fun _ _ => rfl, rfl, Fr.refl M⟩
    · unfold fX6_goOn
      simp (disch := omega) only [iI_add, iI_sub, iI_mul, iI_neg, iI_nat, addm1, ixkI, ↓sbind, sbind, ↓bdS, bdS, ↓nm_eq, ↓jn_eq, iI_lt, iI_le, iI_eq, k_0, k_1, k_2, k_3, k_4, k_5, k_6, k_7, k_8, k_9, k_10, k_11, k_12, k_13, k_14, k_15, k_16, k_17, k_18, k_19, k_20, k_21, k_22, k_23, k_24, k_27, k_30, k_32, k_48, k_57, k_59, k_60, k_61, k_62, k_63, k_64, k_72, k_78, k_80, k_82, k_97, k_99, k_100, k_122, k_244, k_255, k_268, k_280, k_300, k_432, k_650, k_900, k_901, k_999, k_1700, k_2600, k_2601, k_2602, k_2603, k_2604, k_2610, k_2618, k_2682, k_2777, k_2844, k_2868, k_2880, k_3245, k_3250, k_9551, k_9999, k_65536, k_100000, k_999999, k_1000000, k_2147483647, lt_T, lt_F, le_T, le_F, eq_T, eq_F, ↓reduceIte, not_true_eq_false, not_false_eq_true, or_true, or_false, true_or, false_or, and_true, true_and, and_false, false_and, h6, h7]
    · rw [← hi, q, hT]
      exact (tok_n B n).symm
  · have fr : Fr (fun z => z = t) M (stI M t 7 (iI ((i : Int) + 1))) := Fr.stI rfl (Fr.refl M)
    refine ⟨stI M t 7 (iI ((i : Int) + 1)), ?_, ⟨T, i + 1, ⟨⟨a1, by omega⟩, by rw [rI_nk (by omega)]; exact f9, by rw [rI_nk (by omega)]; exact f10⟩, by rw [rI_nk (by omega)]; exact h6, (rI_at rfl rfl).trans (by rw [show (((i + 1 : Nat)) : Int) = (i : Int) + 1 from by omega]), fun k hk' => ?_, hk, hT, ?_⟩, fun i hi => rI_nk hi, rfl, fr⟩
    · unfold fX6_goOn
      simp (disch := omega) only [iI_add, iI_sub, iI_mul, iI_neg, iI_nat, addm1, ixkI, ↓sbind, sbind, ↓bdS, bdS, ↓nm_eq, ↓jn_eq, iI_lt, iI_le, iI_eq, k_0, k_1, k_2, k_3, k_4, k_5, k_6, k_7, k_8, k_9, k_10, k_11, k_12, k_13, k_14, k_15, k_16, k_17, k_18, k_19, k_20, k_21, k_22, k_23, k_24, k_27, k_30, k_32, k_48, k_57, k_59, k_60, k_61, k_62, k_63, k_64, k_72, k_78, k_80, k_82, k_97, k_99, k_100, k_122, k_244, k_255, k_268, k_280, k_300, k_432, k_650, k_900, k_901, k_999, k_1700, k_2600, k_2601, k_2602, k_2603, k_2604, k_2610, k_2618, k_2682, k_2777, k_2844, k_2868, k_2880, k_3245, k_3250, k_9551, k_9999, k_65536, k_100000, k_999999, k_1000000, k_2147483647, lt_T, lt_F, le_T, le_F, eq_T, eq_F, ↓reduceIte, not_true_eq_false, not_false_eq_true, or_true, or_false, true_or, false_or, and_true, true_and, and_false, false_and, h6, h7]
    · obtain ⟨b1, b2, b3, b4⟩ := hA k hk'
      exact ⟨by rw [rI_ng (by omega)]; exact b1, by rw [rI_ng (by omega)]; exact b2, fun z => by rw [rI_ng (by omega)]; exact b3 z, b4⟩
    · rw [← hi]
      rfl
theorem c_refuse (w : WTk n (tok B n p)) (h : RDp t B n p M) (k : Int) : fX6_refuseToken t (iI k) M = some (iI 0, stI (stI M t 9 (iI (fkT (tok B n p) k))) t 10 (iI (tok B n p).2.1)) := by
  obtain ⟨i, hi, h7, e1, e2, e3, e4⟩ := h.rd
  have w1 := w.1
  unfold fX6_refuseToken fkT
  by_cases q : (tok B n p).1 = 4
  · have g7 : (stI M t 9 (iI 1)).1 t 7 = iI i := by rw [rI_nk (by omega)]; exact h7
    have g3 : (stI M t 9 (iI 1)).1 (t + 3) i.toNat = iI (tok B n p).2.1 := by rw [rI_ng (by omega)]; exact e2
    rw [if_pos q]
    simp (disch := omega) only [iI_add, iI_sub, iI_mul, iI_neg, iI_nat, addm1, ixkI, ↓sbind, sbind, ↓bdS, bdS, ↓nm_eq, ↓jn_eq, iI_lt, iI_le, iI_eq, k_0, k_1, k_2, k_3, k_4, k_5, k_6, k_7, k_8, k_9, k_10, k_11, k_12, k_13, k_14, k_15, k_16, k_17, k_18, k_19, k_20, k_21, k_22, k_23, k_24, k_27, k_30, k_32, k_48, k_57, k_59, k_60, k_61, k_62, k_63, k_64, k_72, k_78, k_80, k_82, k_97, k_99, k_100, k_122, k_244, k_255, k_268, k_280, k_300, k_432, k_650, k_900, k_901, k_999, k_1700, k_2600, k_2601, k_2602, k_2603, k_2604, k_2610, k_2618, k_2682, k_2777, k_2844, k_2868, k_2880, k_3245, k_3250, k_9551, k_9999, k_65536, k_100000, k_999999, k_1000000, k_2147483647, lt_T, lt_F, le_T, le_F, eq_T, eq_F, ↓reduceIte, not_true_eq_false, not_false_eq_true, or_true, or_false, true_or, false_or, and_true, true_and, and_false, false_and, h7, e1, g7, g3]
  · have g7 : (stI M t 9 (iI k)).1 t 7 = iI i := by rw [rI_nk (by omega)]; exact h7
    have g3 : (stI M t 9 (iI k)).1 (t + 3) i.toNat = iI (tok B n p).2.1 := by rw [rI_ng (by omega)]; exact e2
    rw [if_neg q]
    simp (disch := omega) only [iI_add, iI_sub, iI_mul, iI_neg, iI_nat, addm1, ixkI, ↓sbind, sbind, ↓bdS, bdS, ↓nm_eq, ↓jn_eq, iI_lt, iI_le, iI_eq, k_0, k_1, k_2, k_3, k_4, k_5, k_6, k_7, k_8, k_9, k_10, k_11, k_12, k_13, k_14, k_15, k_16, k_17, k_18, k_19, k_20, k_21, k_22, k_23, k_24, k_27, k_30, k_32, k_48, k_57, k_59, k_60, k_61, k_62, k_63, k_64, k_72, k_78, k_80, k_82, k_97, k_99, k_100, k_122, k_244, k_255, k_268, k_280, k_300, k_432, k_650, k_900, k_901, k_999, k_1700, k_2600, k_2601, k_2602, k_2603, k_2604, k_2610, k_2618, k_2682, k_2777, k_2844, k_2868, k_2880, k_3245, k_3250, k_9551, k_9999, k_65536, k_100000, k_999999, k_1000000, k_2147483647, lt_T, lt_F, le_T, le_F, eq_T, eq_F, ↓reduceIte, not_true_eq_false, not_false_eq_true, or_true, or_false, true_or, false_or, and_true, true_and, and_false, false_and, h7, e1, g7, g3]
/-! the reference -/
theorem rkd_v {k : Int} (h : 0 ≤ k ∧ k ≤ 4) : (k = 0 → rkd k = 0) ∧ (k = 1 → rkd k = 2) ∧ (k = 2 → rkd k = 3) ∧ (k = 3 → rkd k = 4) ∧ (k = 4 → rkd k = 1) := by
  refine ⟨fun q => ?_, fun q => ?_, fun q => ?_, fun q => ?_, fun q => ?_⟩ <;> rw [q] <;> rfl
theorem tok_word (hn : p ≤ n) (h : (tok B n p).1 = 1) (h0 : 0 ≤ p) : ∃ s e : Int, (0 ≤ s ∧ s < e ∧ e ≤ n) ∧ (tok B n p).2.1 = s ∧ (tok B n p).2.2.2.1 = e ∧ LD (fun k => B (s + k)) (e - s).toNat ∧ (tok B n p).2.2.1 = kwC (cdN (fun k => B (s + k)) (e - s).toNat) ∧ (tok B n p).2.2.2.2 = if e - s ≤ 8 then cdN (fun k => B (s + k)) (e - s).toNat else 0 := by
  obtain ⟨s, hs⟩ : ∃ s, s = rn (fun k => lx_B (B k)) n p := ⟨_, rfl⟩
  have sr := rn_r (P := fun k => lx_B (B k)) (n := n) (i := p) hn
  rw [← hs] at sr
  have htok : tok B n p = tokS B n s := by rw [hs]; rfl
  rw [htok] at h ⊢
  unfold tokS at h ⊢
  by_cases h1 : n ≤ s
  · rw [if_pos h1] at h
    exact absurd (show (0 : Int) = 1 from h) (by decide)
  rw [if_neg h1] at h ⊢
  by_cases h2 : lx_L (B s) = true
  · rw [if_pos h2]
    obtain ⟨a1, a2, a3, a4⟩ := rn_r (P := fun k => lx_L (B k)) (n := n) (i := s) (by omega)
    have h3 : s < rn (fun k => lx_L (B k)) n s := by
      rw [rn_t (P := fun k => lx_L (B k)) (by omega) h2]
      have := (rn_r (P := fun k => lx_L (B k)) (n := n) (i := s + 1) (by omega)).1
      omega
    exact ⟨s, rn (fun k => lx_L (B k)) n s, by omega, rfl, rfl, fun i hi => lx_Lt (a3 (s + i) (by omega) (by omega)), rfl, rfl⟩
  rw [if_neg h2] at h
  by_cases h3 : lx_D (B s) = true
  · rw [if_pos h3] at h
    exfalso
    have h : (if rn (fun k => lx_D (B k)) n s - s ≤ 4 then (2 : Int) else 4) = 1 := h
    split at h <;> omega
  · rw [if_neg h3] at h
    exfalso
    have h : (if lx_S (B s) = true then (3 : Int) else 4) = 1 := h
    split at h <;> omega
theorem m_words {φ : Nat} (hφ : 2000 < φ) (hn : 0 ≤ n ∧ n ≤ 900) (hB : ∀ k, -128 ≤ B k ∧ B k ≤ 127) (h : RKp m B n p M) : fX11_inWords φ m 1002 M = some (iI (pr (wv (tok B n p)))) := by
  obtain ⟨⟨hp, h17⟩, h11, hT, r1, r2, r3, r4⟩ := h
  have w := wtk (B := B) hp (fun k => (hB k).2)
  have w1 := w.1
  obtain ⟨k0, k1, k2, k3, k4⟩ := rkd_v w1
  unfold wv
  by_cases q : (tok B n p).1 = 1
  · obtain ⟨s, e, b0, b1, b2, b3, b4, b5⟩ := tok_word hp.2 q hp.1
    rw [b1] at r2
    rw [b2] at r3
    rw [k1 q] at r1
    rw [if_pos q, b4]
    exact m_kept hφ hn h11 hB hT r1 r2 r3 b0.1 b0.2.1 b0.2.2 b3
  · rw [if_neg q]
    have : rkd (tok B n p).1 ≠ 2 ∧ 0 ≤ rkd (tok B n p).1 ∧ rkd (tok B n p).1 ≤ 4 := by
      have : (tok B n p).1 = 0 ∨ (tok B n p).1 = 2 ∨ (tok B n p).1 = 3 ∨ (tok B n p).1 = 4 := by omega
      rcases this with z | z | z | z
      · rw [k0 z]; omega
      · rw [k2 z]; omega
      · rw [k3 z]; omega
      · rw [k4 z]; omega
    unfold fX11_inWords
    rw [r1, if_neg (by rw [k_2, iI_eq (by omega) (by omega)]; exact this.1)]
    rfl
theorem pr_inj {a b : Int} (ha : -1 ≤ a ∧ a < 24) (hb : -1 ≤ b ∧ b < 24) : (pr a = pr b) = (a = b) := by
  have h : ∀ x y : Fin 25, pr ((x.1 : Int) - 1) = pr ((y.1 : Int) - 1) ↔ x = y := by decide +kernel
  have h1 := h ⟨(a + 1).toNat, by omega⟩ ⟨(b + 1).toNat, by omega⟩
  have h1 : pr ((((a + 1).toNat : Nat) : Int) - 1) = pr ((((b + 1).toNat : Nat) : Int) - 1) ↔ _ := h1
  rw [show (((a + 1).toNat : Nat) : Int) - 1 = a from by omega, show (((b + 1).toNat : Nat) : Int) - 1 = b from by omega] at h1
  refine propext ⟨fun q => ?_, fun q => by rw [q]⟩
  have h2 := congrArg Fin.val (h1.mp q)
  have h2 : (a + 1).toNat = (b + 1).toNat := h2
  omega
theorem pr_bd {a : Int} (ha : -1 ≤ a ∧ a < 24) : -1 ≤ pr a ∧ pr a < 24 := by
  have h : ∀ x : Fin 25, -1 ≤ pr ((x.1 : Int) - 1) ∧ pr ((x.1 : Int) - 1) < 24 := by decide +kernel
  have h1 := h ⟨(a + 1).toNat, by omega⟩
  have h1 : -1 ≤ pr ((((a + 1).toNat : Nat) : Int) - 1) ∧ pr ((((a + 1).toNat : Nat) : Int) - 1) < 24 := h1
  rw [show (((a + 1).toNat : Nat) : Int) - 1 = a from by omega] at h1
  exact h1
theorem m_isName {φ : Nat} (hφ : 2000 < φ) (hn : 0 ≤ n ∧ n ≤ 900) (hB : ∀ k, -128 ≤ B k ∧ B k ≤ 127) (h : RKp m B n p M) : fX11_isName φ m 1002 M = some (bI (isNm (tok B n p))) := by
  have e0 := m_words hφ hn hB h
  obtain ⟨⟨hp, h17⟩, h11, hT, r1, r2, r3, r4⟩ := h
  have w := wtk (B := B) hp (fun k => (hB k).2)
  have w1 := w.1
  obtain ⟨k0, k1, k2, k3, k4⟩ := rkd_v w1
  have z1 : (-1 : Int32) = iI (-1) := rfl
  unfold fX11_isName isNm
  by_cases q : (tok B n p).1 = 1
  · obtain ⟨s, e, b0, b1, b2, b3, b4, b5⟩ := tok_word hp.2 q hp.1
    have ew : wv (tok B n p) = (tok B n p).2.2.1 := if_pos q
    have wb := wv_bd w
    have pb := pr_bd wb
    rw [ew] at wb pb e0
    rw [b1] at r2
    rw [b2] at r3
    rw [k1 q] at r1
    by_cases q8 : e - s ≤ 8
    · have nz : (tok B n p).2.2.2.2 ≠ 0 := by
        rw [b5, if_pos q8]
        have := (cd_nn _ b3).2 (by omega)
        omega
      by_cases q2 : (tok B n p).2.2.1 = -1
      · rw [decide_eq_true ⟨q, q2, nz⟩]
        have pe : pr (tok B n p).2.2.1 = -1 := by rw [q2]; rfl
        simp (disch := omega) only [iI_add, iI_sub, iI_mul, iI_neg, iI_nat, addm1, ixkI, ↓sbind, sbind, ↓bdS, bdS, ↓nm_eq, ↓jn_eq, iI_lt, iI_le, iI_eq, k_0, k_1, k_2, k_3, k_4, k_5, k_6, k_7, k_8, k_9, k_10, k_11, k_12, k_13, k_14, k_15, k_16, k_17, k_18, k_19, k_20, k_21, k_22, k_23, k_24, k_27, k_30, k_32, k_48, k_57, k_59, k_60, k_61, k_62, k_63, k_64, k_72, k_78, k_80, k_82, k_97, k_99, k_100, k_122, k_244, k_255, k_268, k_280, k_300, k_432, k_650, k_900, k_901, k_999, k_1700, k_2600, k_2601, k_2602, k_2603, k_2604, k_2610, k_2618, k_2682, k_2777, k_2844, k_2868, k_2880, k_3245, k_3250, k_9551, k_9999, k_65536, k_100000, k_999999, k_1000000, k_2147483647, lt_T, lt_F, le_T, le_F, eq_T, eq_F, ↓reduceIte, not_true_eq_false, not_false_eq_true, or_true, or_false, true_or, false_or, and_true, true_and, and_false, false_and, r1, r2, r3, e0, z1, pe, bI_t]
      · rw [decide_eq_false (fun z => q2 z.2.1)]
        have pe : pr (tok B n p).2.2.1 ≠ -1 := fun z => by
          have := pr_inj wb (b := -1) (by omega)
          rw [show pr (-1) = -1 from rfl, z] at this
          have := this.mp rfl
          exact q2 this
        simp (disch := omega) only [iI_add, iI_sub, iI_mul, iI_neg, iI_nat, addm1, ixkI, ↓sbind, sbind, ↓bdS, bdS, ↓nm_eq, ↓jn_eq, iI_lt, iI_le, iI_eq, k_0, k_1, k_2, k_3, k_4, k_5, k_6, k_7, k_8, k_9, k_10, k_11, k_12, k_13, k_14, k_15, k_16, k_17, k_18, k_19, k_20, k_21, k_22, k_23, k_24, k_27, k_30, k_32, k_48, k_57, k_59, k_60, k_61, k_62, k_63, k_64, k_72, k_78, k_80, k_82, k_97, k_99, k_100, k_122, k_244, k_255, k_268, k_280, k_300, k_432, k_650, k_900, k_901, k_999, k_1700, k_2600, k_2601, k_2602, k_2603, k_2604, k_2610, k_2618, k_2682, k_2777, k_2844, k_2868, k_2880, k_3245, k_3250, k_9551, k_9999, k_65536, k_100000, k_999999, k_1000000, k_2147483647, lt_T, lt_F, le_T, le_F, eq_T, eq_F, ↓reduceIte, not_true_eq_false, not_false_eq_true, or_true, or_false, true_or, false_or, and_true, true_and, and_false, false_and, r1, r2, r3, e0, z1, bI_f]
    · have nz : (tok B n p).2.2.2.2 = 0 := by rw [b5, if_neg q8]
      rw [decide_eq_false (fun z => z.2.2 nz)]
      simp (disch := omega) only [iI_add, iI_sub, iI_mul, iI_neg, iI_nat, addm1, ixkI, ↓sbind, sbind, ↓bdS, bdS, ↓nm_eq, ↓jn_eq, iI_lt, iI_le, iI_eq, k_0, k_1, k_2, k_3, k_4, k_5, k_6, k_7, k_8, k_9, k_10, k_11, k_12, k_13, k_14, k_15, k_16, k_17, k_18, k_19, k_20, k_21, k_22, k_23, k_24, k_27, k_30, k_32, k_48, k_57, k_59, k_60, k_61, k_62, k_63, k_64, k_72, k_78, k_80, k_82, k_97, k_99, k_100, k_122, k_244, k_255, k_268, k_280, k_300, k_432, k_650, k_900, k_901, k_999, k_1700, k_2600, k_2601, k_2602, k_2603, k_2604, k_2610, k_2618, k_2682, k_2777, k_2844, k_2868, k_2880, k_3245, k_3250, k_9551, k_9999, k_65536, k_100000, k_999999, k_1000000, k_2147483647, lt_T, lt_F, le_T, le_F, eq_T, eq_F, ↓reduceIte, not_true_eq_false, not_false_eq_true, or_true, or_false, true_or, false_or, and_true, true_and, and_false, false_and, r1, r2, r3, bI_f]
  · rw [decide_eq_false (fun z => q z.1)]
    have : rkd (tok B n p).1 ≠ 2 ∧ 0 ≤ rkd (tok B n p).1 ∧ rkd (tok B n p).1 ≤ 4 := by
      have : (tok B n p).1 = 0 ∨ (tok B n p).1 = 2 ∨ (tok B n p).1 = 3 ∨ (tok B n p).1 = 4 := by omega
      rcases this with z | z | z | z
      · rw [k0 z]; omega
      · rw [k2 z]; omega
      · rw [k3 z]; omega
      · rw [k4 z]; omega
    simp (disch := omega) only [iI_add, iI_sub, iI_mul, iI_neg, iI_nat, addm1, ixkI, ↓sbind, sbind, ↓bdS, bdS, ↓nm_eq, ↓jn_eq, iI_lt, iI_le, iI_eq, k_0, k_1, k_2, k_3, k_4, k_5, k_6, k_7, k_8, k_9, k_10, k_11, k_12, k_13, k_14, k_15, k_16, k_17, k_18, k_19, k_20, k_21, k_22, k_23, k_24, k_27, k_30, k_32, k_48, k_57, k_59, k_60, k_61, k_62, k_63, k_64, k_72, k_78, k_80, k_82, k_97, k_99, k_100, k_122, k_244, k_255, k_268, k_280, k_300, k_432, k_650, k_900, k_901, k_999, k_1700, k_2600, k_2601, k_2602, k_2603, k_2604, k_2610, k_2618, k_2682, k_2777, k_2844, k_2868, k_2880, k_3245, k_3250, k_9551, k_9999, k_65536, k_100000, k_999999, k_1000000, k_2147483647, lt_T, lt_F, le_T, le_F, eq_T, eq_F, ↓reduceIte, not_true_eq_false, not_false_eq_true, or_true, or_false, true_or, false_or, and_true, true_and, and_false, false_and, r1, bI_f]
theorem m_isSign (hB : ∀ k, -128 ≤ B k ∧ B k ≤ 127) (h : RKp m B n p M) {c : Int} (hc : 0 ≤ c ∧ c ≤ 255) : fX11_isSign m (iI c) M = some (bI (isSg (tok B n p) c)) := by
  obtain ⟨⟨hp, h17⟩, h11, hT, r1, r2, r3, r4⟩ := h
  have w := wtk (B := B) hp (fun k => (hB k).2)
  have w1 := w.1
  obtain ⟨k0, k1, k2, k3, k4⟩ := rkd_v w1
  unfold fX11_isSign isSg
  by_cases q : (tok B n p).1 = 3
  · have r4 := r4 (Or.inr q)
    have w2 := w.2.2.2.2.1 q
    rw [k3 q] at r1
    by_cases q2 : (tok B n p).2.2.1 = c
    · rw [decide_eq_true ⟨q, q2⟩]
      simp (disch := omega) only [iI_add, iI_sub, iI_mul, iI_neg, iI_nat, addm1, ixkI, ↓sbind, sbind, ↓bdS, bdS, ↓nm_eq, ↓jn_eq, iI_lt, iI_le, iI_eq, k_0, k_1, k_2, k_3, k_4, k_5, k_6, k_7, k_8, k_9, k_10, k_11, k_12, k_13, k_14, k_15, k_16, k_17, k_18, k_19, k_20, k_21, k_22, k_23, k_24, k_27, k_30, k_32, k_48, k_57, k_59, k_60, k_61, k_62, k_63, k_64, k_72, k_78, k_80, k_82, k_97, k_99, k_100, k_122, k_244, k_255, k_268, k_280, k_300, k_432, k_650, k_900, k_901, k_999, k_1700, k_2600, k_2601, k_2602, k_2603, k_2604, k_2610, k_2618, k_2682, k_2777, k_2844, k_2868, k_2880, k_3245, k_3250, k_9551, k_9999, k_65536, k_100000, k_999999, k_1000000, k_2147483647, lt_T, lt_F, le_T, le_F, eq_T, eq_F, ↓reduceIte, not_true_eq_false, not_false_eq_true, or_true, or_false, true_or, false_or, and_true, true_and, and_false, false_and, r1, r4, bI_t]
    · rw [decide_eq_false (fun z => q2 z.2)]
      simp (disch := omega) only [iI_add, iI_sub, iI_mul, iI_neg, iI_nat, addm1, ixkI, ↓sbind, sbind, ↓bdS, bdS, ↓nm_eq, ↓jn_eq, iI_lt, iI_le, iI_eq, k_0, k_1, k_2, k_3, k_4, k_5, k_6, k_7, k_8, k_9, k_10, k_11, k_12, k_13, k_14, k_15, k_16, k_17, k_18, k_19, k_20, k_21, k_22, k_23, k_24, k_27, k_30, k_32, k_48, k_57, k_59, k_60, k_61, k_62, k_63, k_64, k_72, k_78, k_80, k_82, k_97, k_99, k_100, k_122, k_244, k_255, k_268, k_280, k_300, k_432, k_650, k_900, k_901, k_999, k_1700, k_2600, k_2601, k_2602, k_2603, k_2604, k_2610, k_2618, k_2682, k_2777, k_2844, k_2868, k_2880, k_3245, k_3250, k_9551, k_9999, k_65536, k_100000, k_999999, k_1000000, k_2147483647, lt_T, lt_F, le_T, le_F, eq_T, eq_F, ↓reduceIte, not_true_eq_false, not_false_eq_true, or_true, or_false, true_or, false_or, and_true, true_and, and_false, false_and, r1, r4, bI_f]
  · rw [decide_eq_false (fun z => q z.1)]
    have : rkd (tok B n p).1 ≠ 4 ∧ 0 ≤ rkd (tok B n p).1 ∧ rkd (tok B n p).1 ≤ 4 := by
      have : (tok B n p).1 = 0 ∨ (tok B n p).1 = 2 ∨ (tok B n p).1 = 1 ∨ (tok B n p).1 = 4 := by omega
      rcases this with z | z | z | z
      · rw [k0 z]; omega
      · rw [k2 z]; omega
      · rw [k1 z]; omega
      · rw [k4 z]; omega
    simp (disch := omega) only [iI_add, iI_sub, iI_mul, iI_neg, iI_nat, addm1, ixkI, ↓sbind, sbind, ↓bdS, bdS, ↓nm_eq, ↓jn_eq, iI_lt, iI_le, iI_eq, k_0, k_1, k_2, k_3, k_4, k_5, k_6, k_7, k_8, k_9, k_10, k_11, k_12, k_13, k_14, k_15, k_16, k_17, k_18, k_19, k_20, k_21, k_22, k_23, k_24, k_27, k_30, k_32, k_48, k_57, k_59, k_60, k_61, k_62, k_63, k_64, k_72, k_78, k_80, k_82, k_97, k_99, k_100, k_122, k_244, k_255, k_268, k_280, k_300, k_432, k_650, k_900, k_901, k_999, k_1700, k_2600, k_2601, k_2602, k_2603, k_2604, k_2610, k_2618, k_2682, k_2777, k_2844, k_2868, k_2880, k_3245, k_3250, k_9551, k_9999, k_65536, k_100000, k_999999, k_1000000, k_2147483647, lt_T, lt_F, le_T, le_F, eq_T, eq_F, ↓reduceIte, not_true_eq_false, not_false_eq_true, or_true, or_false, true_or, false_or, and_true, true_and, and_false, false_and, r1, bI_f]
theorem m_fails (hB : ∀ k, -128 ≤ B k ∧ B k ≤ 127) (h : RKp m B n p M) (h18 : M.1 m 18 = iI 0) (k : Int) : fX11_fails m (iI k) M = some (iI 0, stI (stI M m 18 (iI (fkT (tok B n p) k))) m 17 (iI (tok B n p).2.1)) := by
  obtain ⟨⟨hp, h17⟩, h11, hT, r1, r2, r3, r4⟩ := h
  have w := wtk (B := B) hp (fun k => (hB k).2)
  have w1 := w.1
  obtain ⟨k0, k1, k2, k3, k4⟩ := rkd_v w1
  unfold fX11_fails fkT
  by_cases q : (tok B n p).1 = 4
  · rw [k4 q] at r1
    have g3 : (stI M m 18 (iI 1)).1 m 13 = iI (tok B n p).2.1 := by rw [rI_nk (by omega)]; exact r2
    rw [if_pos q]
    simp (disch := omega) only [iI_add, iI_sub, iI_mul, iI_neg, iI_nat, addm1, ixkI, ↓sbind, sbind, ↓bdS, bdS, ↓nm_eq, ↓jn_eq, iI_lt, iI_le, iI_eq, k_0, k_1, k_2, k_3, k_4, k_5, k_6, k_7, k_8, k_9, k_10, k_11, k_12, k_13, k_14, k_15, k_16, k_17, k_18, k_19, k_20, k_21, k_22, k_23, k_24, k_27, k_30, k_32, k_48, k_57, k_59, k_60, k_61, k_62, k_63, k_64, k_72, k_78, k_80, k_82, k_97, k_99, k_100, k_122, k_244, k_255, k_268, k_280, k_300, k_432, k_650, k_900, k_901, k_999, k_1700, k_2600, k_2601, k_2602, k_2603, k_2604, k_2610, k_2618, k_2682, k_2777, k_2844, k_2868, k_2880, k_3245, k_3250, k_9551, k_9999, k_65536, k_100000, k_999999, k_1000000, k_2147483647, lt_T, lt_F, le_T, le_F, eq_T, eq_F, ↓reduceIte, not_true_eq_false, not_false_eq_true, or_true, or_false, true_or, false_or, and_true, true_and, and_false, false_and, h18, r1, g3]
  · have : rkd (tok B n p).1 ≠ 1 ∧ 0 ≤ rkd (tok B n p).1 ∧ rkd (tok B n p).1 ≤ 4 := by
      have : (tok B n p).1 = 0 ∨ (tok B n p).1 = 2 ∨ (tok B n p).1 = 1 ∨ (tok B n p).1 = 3 := by omega
      rcases this with z | z | z | z
      · rw [k0 z]; omega
      · rw [k2 z]; omega
      · rw [k1 z]; omega
      · rw [k3 z]; omega
    have g3 : (stI M m 18 (iI k)).1 m 13 = iI (tok B n p).2.1 := by rw [rI_nk (by omega)]; exact r2
    rw [if_neg q]
    simp (disch := omega) only [iI_add, iI_sub, iI_mul, iI_neg, iI_nat, addm1, ixkI, ↓sbind, sbind, ↓bdS, bdS, ↓nm_eq, ↓jn_eq, iI_lt, iI_le, iI_eq, k_0, k_1, k_2, k_3, k_4, k_5, k_6, k_7, k_8, k_9, k_10, k_11, k_12, k_13, k_14, k_15, k_16, k_17, k_18, k_19, k_20, k_21, k_22, k_23, k_24, k_27, k_30, k_32, k_48, k_57, k_59, k_60, k_61, k_62, k_63, k_64, k_72, k_78, k_80, k_82, k_97, k_99, k_100, k_122, k_244, k_255, k_268, k_280, k_300, k_432, k_650, k_900, k_901, k_999, k_1700, k_2600, k_2601, k_2602, k_2603, k_2604, k_2610, k_2618, k_2682, k_2777, k_2844, k_2868, k_2880, k_3245, k_3250, k_9551, k_9999, k_65536, k_100000, k_999999, k_1000000, k_2147483647, lt_T, lt_F, le_T, le_F, eq_T, eq_F, ↓reduceIte, not_true_eq_false, not_false_eq_true, or_true, or_false, true_or, false_or, and_true, true_and, and_false, false_and, h18, r1, g3]
theorem m_goOn {φ : Nat} (hφ : 2000 < φ) (hn : 0 ≤ n ∧ n ≤ 900) (hB : ∀ k, -128 ≤ B k ∧ B k ≤ 127) (h : RKp m B n p M) : ∃ M1, fX11_ahead φ m M = some ((), M1) ∧ RKp m B n (tok B n p).2.2.2.1 M1 ∧ mAh m M M1 := by
  obtain ⟨⟨hp, h17⟩, h11, hT, r1, r2, r3, r4⟩ := h
  have w := wtk (B := B) hp (fun k => (hB k).2)
  obtain ⟨w1, w2, w3, w4, w5, w6, w7, w8, w9⟩ := w
  refine m_ahead hφ hn hB ⟨?_, w8⟩ h17 h11 hT r3
  by_cases q : (tok B n p).1 = 0
  · have := w6 q
    omega
  · have := w7 q
    omega
end TQ
