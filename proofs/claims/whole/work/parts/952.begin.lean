/-! the class's tokens -/
section BG
variable {t : Nat} {M : Mem} {B : Int → Int} {n : Int}
theorem c_isLetter {v : Int} (h : -128 ≤ v ∧ v ≤ 127) : fX6_isLetter (iI v) M = some (bI (lx_L v)) := by
  unfold fX6_isLetter lx_L
  by_cases h1 : v < 97
  · rw [decide_eq_false (by omega)]; simp (disch := omega) only [iI_add, iI_sub, iI_mul, iI_neg, iI_nat, addm1, ixkI, ↓sbind, sbind, ↓bdS, bdS, ↓nm_eq, ↓jn_eq, iI_lt, iI_le, iI_eq, k_0, k_1, k_2, k_3, k_4, k_5, k_6, k_7, k_8, k_9, k_10, k_11, k_12, k_13, k_14, k_15, k_16, k_17, k_18, k_19, k_20, k_21, k_22, k_23, k_24, k_27, k_30, k_32, k_48, k_57, k_59, k_60, k_61, k_62, k_63, k_64, k_72, k_78, k_80, k_82, k_97, k_99, k_100, k_122, k_244, k_255, k_268, k_280, k_300, k_432, k_650, k_900, k_901, k_999, k_1700, k_2600, k_2601, k_2602, k_2603, k_2604, k_2610, k_2618, k_2682, k_2777, k_2844, k_2868, k_2880, k_3245, k_3250, k_9551, k_9999, k_65536, k_100000, k_999999, k_1000000, k_2147483647, lt_T, lt_F, le_T, le_F, eq_T, eq_F, ↓reduceIte, not_true_eq_false, not_false_eq_true, or_true, or_false, true_or, false_or, and_true, true_and, and_false, false_and, bI_f]
  · by_cases h2 : 122 < v
    · rw [decide_eq_false (by omega)]; simp (disch := omega) only [iI_add, iI_sub, iI_mul, iI_neg, iI_nat, addm1, ixkI, ↓sbind, sbind, ↓bdS, bdS, ↓nm_eq, ↓jn_eq, iI_lt, iI_le, iI_eq, k_0, k_1, k_2, k_3, k_4, k_5, k_6, k_7, k_8, k_9, k_10, k_11, k_12, k_13, k_14, k_15, k_16, k_17, k_18, k_19, k_20, k_21, k_22, k_23, k_24, k_27, k_30, k_32, k_48, k_57, k_59, k_60, k_61, k_62, k_63, k_64, k_72, k_78, k_80, k_82, k_97, k_99, k_100, k_122, k_244, k_255, k_268, k_280, k_300, k_432, k_650, k_900, k_901, k_999, k_1700, k_2600, k_2601, k_2602, k_2603, k_2604, k_2610, k_2618, k_2682, k_2777, k_2844, k_2868, k_2880, k_3245, k_3250, k_9551, k_9999, k_65536, k_100000, k_999999, k_1000000, k_2147483647, lt_T, lt_F, le_T, le_F, eq_T, eq_F, ↓reduceIte, not_true_eq_false, not_false_eq_true, or_true, or_false, true_or, false_or, and_true, true_and, and_false, false_and, bI_f]
    · rw [decide_eq_true (by omega)]; simp (disch := omega) only [iI_add, iI_sub, iI_mul, iI_neg, iI_nat, addm1, ixkI, ↓sbind, sbind, ↓bdS, bdS, ↓nm_eq, ↓jn_eq, iI_lt, iI_le, iI_eq, k_0, k_1, k_2, k_3, k_4, k_5, k_6, k_7, k_8, k_9, k_10, k_11, k_12, k_13, k_14, k_15, k_16, k_17, k_18, k_19, k_20, k_21, k_22, k_23, k_24, k_27, k_30, k_32, k_48, k_57, k_59, k_60, k_61, k_62, k_63, k_64, k_72, k_78, k_80, k_82, k_97, k_99, k_100, k_122, k_244, k_255, k_268, k_280, k_300, k_432, k_650, k_900, k_901, k_999, k_1700, k_2600, k_2601, k_2602, k_2603, k_2604, k_2610, k_2618, k_2682, k_2777, k_2844, k_2868, k_2880, k_3245, k_3250, k_9551, k_9999, k_65536, k_100000, k_999999, k_1000000, k_2147483647, lt_T, lt_F, le_T, le_F, eq_T, eq_F, ↓reduceIte, not_true_eq_false, not_false_eq_true, or_true, or_false, true_or, false_or, and_true, true_and, and_false, false_and, bI_t]
theorem c_isDigit {v : Int} (h : -128 ≤ v ∧ v ≤ 127) : fX6_isDigit (iI v) M = some (bI (lx_D v)) := by
  unfold fX6_isDigit lx_D
  by_cases h1 : v < 48
  · rw [decide_eq_false (by omega)]; simp (disch := omega) only [iI_add, iI_sub, iI_mul, iI_neg, iI_nat, addm1, ixkI, ↓sbind, sbind, ↓bdS, bdS, ↓nm_eq, ↓jn_eq, iI_lt, iI_le, iI_eq, k_0, k_1, k_2, k_3, k_4, k_5, k_6, k_7, k_8, k_9, k_10, k_11, k_12, k_13, k_14, k_15, k_16, k_17, k_18, k_19, k_20, k_21, k_22, k_23, k_24, k_27, k_30, k_32, k_48, k_57, k_59, k_60, k_61, k_62, k_63, k_64, k_72, k_78, k_80, k_82, k_97, k_99, k_100, k_122, k_244, k_255, k_268, k_280, k_300, k_432, k_650, k_900, k_901, k_999, k_1700, k_2600, k_2601, k_2602, k_2603, k_2604, k_2610, k_2618, k_2682, k_2777, k_2844, k_2868, k_2880, k_3245, k_3250, k_9551, k_9999, k_65536, k_100000, k_999999, k_1000000, k_2147483647, lt_T, lt_F, le_T, le_F, eq_T, eq_F, ↓reduceIte, not_true_eq_false, not_false_eq_true, or_true, or_false, true_or, false_or, and_true, true_and, and_false, false_and, bI_f]
  · by_cases h2 : 57 < v
    · rw [decide_eq_false (by omega)]; simp (disch := omega) only [iI_add, iI_sub, iI_mul, iI_neg, iI_nat, addm1, ixkI, ↓sbind, sbind, ↓bdS, bdS, ↓nm_eq, ↓jn_eq, iI_lt, iI_le, iI_eq, k_0, k_1, k_2, k_3, k_4, k_5, k_6, k_7, k_8, k_9, k_10, k_11, k_12, k_13, k_14, k_15, k_16, k_17, k_18, k_19, k_20, k_21, k_22, k_23, k_24, k_27, k_30, k_32, k_48, k_57, k_59, k_60, k_61, k_62, k_63, k_64, k_72, k_78, k_80, k_82, k_97, k_99, k_100, k_122, k_244, k_255, k_268, k_280, k_300, k_432, k_650, k_900, k_901, k_999, k_1700, k_2600, k_2601, k_2602, k_2603, k_2604, k_2610, k_2618, k_2682, k_2777, k_2844, k_2868, k_2880, k_3245, k_3250, k_9551, k_9999, k_65536, k_100000, k_999999, k_1000000, k_2147483647, lt_T, lt_F, le_T, le_F, eq_T, eq_F, ↓reduceIte, not_true_eq_false, not_false_eq_true, or_true, or_false, true_or, false_or, and_true, true_and, and_false, false_and, bI_f]
    · rw [decide_eq_true (by omega)]; simp (disch := omega) only [iI_add, iI_sub, iI_mul, iI_neg, iI_nat, addm1, ixkI, ↓sbind, sbind, ↓bdS, bdS, ↓nm_eq, ↓jn_eq, iI_lt, iI_le, iI_eq, k_0, k_1, k_2, k_3, k_4, k_5, k_6, k_7, k_8, k_9, k_10, k_11, k_12, k_13, k_14, k_15, k_16, k_17, k_18, k_19, k_20, k_21, k_22, k_23, k_24, k_27, k_30, k_32, k_48, k_57, k_59, k_60, k_61, k_62, k_63, k_64, k_72, k_78, k_80, k_82, k_97, k_99, k_100, k_122, k_244, k_255, k_268, k_280, k_300, k_432, k_650, k_900, k_901, k_999, k_1700, k_2600, k_2601, k_2602, k_2603, k_2604, k_2610, k_2618, k_2682, k_2777, k_2844, k_2868, k_2880, k_3245, k_3250, k_9551, k_9999, k_65536, k_100000, k_999999, k_1000000, k_2147483647, lt_T, lt_F, le_T, le_F, eq_T, eq_F, ↓reduceIte, not_true_eq_false, not_false_eq_true, or_true, or_false, true_or, false_or, and_true, true_and, and_false, false_and, bI_t]
theorem c_isBlank {v : Int} (h : -128 ≤ v ∧ v ≤ 127) : fX6_isBlank (iI v) M = some (bI (lx_B v)) := by
  unfold fX6_isBlank lx_B
  by_cases h1 : v = 32
  · rw [decide_eq_true (by omega)]; simp (disch := omega) only [iI_add, iI_sub, iI_mul, iI_neg, iI_nat, addm1, ixkI, ↓sbind, sbind, ↓bdS, bdS, ↓nm_eq, ↓jn_eq, iI_lt, iI_le, iI_eq, k_0, k_1, k_2, k_3, k_4, k_5, k_6, k_7, k_8, k_9, k_10, k_11, k_12, k_13, k_14, k_15, k_16, k_17, k_18, k_19, k_20, k_21, k_22, k_23, k_24, k_27, k_30, k_32, k_48, k_57, k_59, k_60, k_61, k_62, k_63, k_64, k_72, k_78, k_80, k_82, k_97, k_99, k_100, k_122, k_244, k_255, k_268, k_280, k_300, k_432, k_650, k_900, k_901, k_999, k_1700, k_2600, k_2601, k_2602, k_2603, k_2604, k_2610, k_2618, k_2682, k_2777, k_2844, k_2868, k_2880, k_3245, k_3250, k_9551, k_9999, k_65536, k_100000, k_999999, k_1000000, k_2147483647, lt_T, lt_F, le_T, le_F, eq_T, eq_F, ↓reduceIte, not_true_eq_false, not_false_eq_true, or_true, or_false, true_or, false_or, and_true, true_and, and_false, false_and, bI_t]
  · by_cases h2 : v = 10
    · rw [decide_eq_true (by omega)]; simp (disch := omega) only [iI_add, iI_sub, iI_mul, iI_neg, iI_nat, addm1, ixkI, ↓sbind, sbind, ↓bdS, bdS, ↓nm_eq, ↓jn_eq, iI_lt, iI_le, iI_eq, k_0, k_1, k_2, k_3, k_4, k_5, k_6, k_7, k_8, k_9, k_10, k_11, k_12, k_13, k_14, k_15, k_16, k_17, k_18, k_19, k_20, k_21, k_22, k_23, k_24, k_27, k_30, k_32, k_48, k_57, k_59, k_60, k_61, k_62, k_63, k_64, k_72, k_78, k_80, k_82, k_97, k_99, k_100, k_122, k_244, k_255, k_268, k_280, k_300, k_432, k_650, k_900, k_901, k_999, k_1700, k_2600, k_2601, k_2602, k_2603, k_2604, k_2610, k_2618, k_2682, k_2777, k_2844, k_2868, k_2880, k_3245, k_3250, k_9551, k_9999, k_65536, k_100000, k_999999, k_1000000, k_2147483647, lt_T, lt_F, le_T, le_F, eq_T, eq_F, ↓reduceIte, not_true_eq_false, not_false_eq_true, or_true, or_false, true_or, false_or, and_true, true_and, and_false, false_and, bI_t]
    · rw [decide_eq_false (by omega)]; simp (disch := omega) only [iI_add, iI_sub, iI_mul, iI_neg, iI_nat, addm1, ixkI, ↓sbind, sbind, ↓bdS, bdS, ↓nm_eq, ↓jn_eq, iI_lt, iI_le, iI_eq, k_0, k_1, k_2, k_3, k_4, k_5, k_6, k_7, k_8, k_9, k_10, k_11, k_12, k_13, k_14, k_15, k_16, k_17, k_18, k_19, k_20, k_21, k_22, k_23, k_24, k_27, k_30, k_32, k_48, k_57, k_59, k_60, k_61, k_62, k_63, k_64, k_72, k_78, k_80, k_82, k_97, k_99, k_100, k_122, k_244, k_255, k_268, k_280, k_300, k_432, k_650, k_900, k_901, k_999, k_1700, k_2600, k_2601, k_2602, k_2603, k_2604, k_2610, k_2618, k_2682, k_2777, k_2844, k_2868, k_2880, k_3245, k_3250, k_9551, k_9999, k_65536, k_100000, k_999999, k_1000000, k_2147483647, lt_T, lt_F, le_T, le_F, eq_T, eq_F, ↓reduceIte, not_true_eq_false, not_false_eq_true, or_true, or_false, true_or, false_or, and_true, true_and, and_false, false_and, bI_f]
def TA (t : Nat) (tk : Nat → Tk) (j : Int) (M : Mem) : Prop := ∀ k : Nat, (k : Int) < j → M.1 (t + 2) k = iI (tk k).1 ∧ M.1 (t + 3) k = iI (tk k).2.1 ∧ ((tk k).1 ≠ 4 → M.1 (t + 4) k = iI (tk k).2.2.1) ∧ M.2.1 (t + 5) k = lI (tk k).2.2.2.2
def adT (t : Nat) (j : Int) (kd st v : Int32) (nm : Int64) (M : Mem) : Mem := stI (stL (stI (stI (stI M (t + 2) j.toNat kd) (t + 3) j.toNat st) (t + 4) j.toNat v) (t + 5) j.toNat nm) t 6 (iI (j + 1))
theorem c_addToken {j : Int} (hj : 0 ≤ j ∧ j ≤ 900) (h6 : M.1 t 6 = iI j) (kd st v : Int32) (nm : Int64) : fX6_addToken t kd st v nm M = some ((), adT t j kd st v nm M) := by
  have e1 : (stI M (t + 2) j.toNat kd).1 t 6 = iI j := by rw [rI_ng (by omega)]; exact h6
  have e2 : (stI (stI M (t + 2) j.toNat kd) (t + 3) j.toNat st).1 t 6 = iI j := by rw [rI_ng (by omega)]; exact e1
  have e3 : (stI (stI (stI M (t + 2) j.toNat kd) (t + 3) j.toNat st) (t + 4) j.toNat v).1 t 6 = iI j := by rw [rI_ng (by omega)]; exact e2
  have e4 : (stL (stI (stI (stI M (t + 2) j.toNat kd) (t + 3) j.toNat st) (t + 4) j.toNat v) (t + 5) j.toNat nm).1 t 6 = iI j := e3
  unfold fX6_addToken adT
  simp (disch := omega) only [iI_add, iI_sub, iI_mul, iI_neg, iI_nat, addm1, ixkI, ↓sbind, sbind, ↓bdS, bdS, ↓nm_eq, ↓jn_eq, iI_lt, iI_le, iI_eq, k_0, k_1, k_2, k_3, k_4, k_5, k_6, k_7, k_8, k_9, k_10, k_11, k_12, k_13, k_14, k_15, k_16, k_17, k_18, k_19, k_20, k_21, k_22, k_23, k_24, k_27, k_30, k_32, k_48, k_57, k_59, k_60, k_61, k_62, k_63, k_64, k_72, k_78, k_80, k_82, k_97, k_99, k_100, k_122, k_244, k_255, k_268, k_280, k_300, k_432, k_650, k_900, k_901, k_999, k_1700, k_2600, k_2601, k_2602, k_2603, k_2604, k_2610, k_2618, k_2682, k_2777, k_2844, k_2868, k_2880, k_3245, k_3250, k_9551, k_9999, k_65536, k_100000, k_999999, k_1000000, k_2147483647, lt_T, lt_F, le_T, le_F, eq_T, eq_F, ↓reduceIte, not_true_eq_false, not_false_eq_true, or_true, or_false, true_or, false_or, and_true, true_and, and_false, false_and, h6, e1, e2, e3, e4]
theorem adT_fr {j : Int} {kd st v : Int32} {nm : Int64} : Fr (fun z => z = t ∨ (t + 2 ≤ z ∧ z ≤ t + 5)) M (adT t j kd st v nm M) := Fr.stI (Or.inl rfl) (Fr.stL (Or.inr ⟨by omega, by omega⟩) (Fr.stI (Or.inr ⟨by omega, by omega⟩) (Fr.stI (Or.inr ⟨by omega, by omega⟩) (Fr.stI (Or.inr ⟨by omega, by omega⟩) (Fr.refl M)))))
theorem adT_6 {j : Int} {kd st v : Int32} {nm : Int64} : (adT t j kd st v nm M).1 t 6 = iI (j + 1) := rI_at rfl rfl
theorem adT_o {j : Int} {kd st v : Int32} {nm : Int64} {i : Nat} (h : i ≠ 6) : (adT t j kd st v nm M).1 t i = M.1 t i := by
  unfold adT
  rw [rI_nk h, rL_1, rI_ng (by omega), rI_ng (by omega), rI_ng (by omega)]
theorem TA.add {tk : Nat → Tk} {j : Nat} {kd st v : Int32} {nm : Int64} (h : TA t tk j M) (h1 : kd = iI (tk j).1) (h2 : st = iI (tk j).2.1) (h3 : (tk j).1 ≠ 4 → v = iI (tk j).2.2.1) (h4 : nm = lI (tk j).2.2.2.2) : TA t tk ((j : Int) + 1) (adT t j kd st v nm M) := by
  intro k hk
  unfold adT
  by_cases q : k = j
  · subst q
    refine ⟨?_, ?_, fun z => ?_, ?_⟩
    · rw [rI_ng (by omega), rL_1, rI_ng (by omega), rI_ng (by omega), rI_at rfl (by omega)]; exact h1
    · rw [rI_ng (by omega), rL_1, rI_ng (by omega), rI_at rfl (by omega)]; exact h2
    · rw [rI_ng (by omega), rL_1, rI_at rfl (by omega)]; exact h3 z
    · rw [rI_2, rL_at rfl (by omega)]; exact h4
  · obtain ⟨a, b, c, d⟩ := h k (by omega)
    refine ⟨?_, ?_, fun z => ?_, ?_⟩
    · rw [rI_ng (by omega), rL_1, rI_ng (by omega), rI_ng (by omega), rI_nk (by omega)]; exact a
    · rw [rI_ng (by omega), rL_1, rI_ng (by omega), rI_nk (by omega), rI_ng (by omega)]; exact b
    · rw [rI_ng (by omega), rL_1, rI_nk (by omega), rI_ng (by omega), rI_ng (by omega)]; exact c z
    · rw [rI_2, rL_nk (by omega), rI_2, rI_2, rI_2]; exact d
theorem c_rword (K : Int32 → Int64 → Option (Int32 × Mem)) (hn : n ≤ 900) (hB : ∀ k, -128 ≤ B k ∧ B k ≤ 127) (hT : TX (t + 1) B n M) {s : Int} (hs : 0 ≤ s ∧ s ≤ n) : ∀ (d : Nat) (i : Int), n - i = d → s ≤ i → ∀ k, d < k → lX6_readWord_5 K t (iI s) (iI n) M k (iI i) (lI (if i - s ≤ 8 then cdN (fun k => B (s + k)) (i - s).toNat else 0)) = K (iI (rn (fun k => lx_L (B k)) n i)) (lI (if rn (fun k => lx_L (B k)) n i - s ≤ 8 then cdN (fun k => B (s + k)) (rn (fun k => lx_L (B k)) n i - s).toNat else 0)) := by
  intro d
  induction d with
  | zero =>
    intro i hd hi k hk
    obtain ⟨k, rfl⟩ : ∃ q, k = q + 1 := ⟨k - 1, by omega⟩
    rw [rn_e (by omega), lX6_readWord_5]
    simp (disch := omega) only [iI_add, iI_sub, iI_mul, iI_neg, iI_nat, addm1, ixkI, ↓sbind, sbind, ↓bdS, bdS, ↓nm_eq, ↓jn_eq, iI_lt, iI_le, iI_eq, k_0, k_1, k_2, k_3, k_4, k_5, k_6, k_7, k_8, k_9, k_10, k_11, k_12, k_13, k_14, k_15, k_16, k_17, k_18, k_19, k_20, k_21, k_22, k_23, k_24, k_27, k_30, k_32, k_48, k_57, k_59, k_60, k_61, k_62, k_63, k_64, k_72, k_78, k_80, k_82, k_97, k_99, k_100, k_122, k_244, k_255, k_268, k_280, k_300, k_432, k_650, k_900, k_901, k_999, k_1700, k_2600, k_2601, k_2602, k_2603, k_2604, k_2610, k_2618, k_2682, k_2777, k_2844, k_2868, k_2880, k_3245, k_3250, k_9551, k_9999, k_65536, k_100000, k_999999, k_1000000, k_2147483647, lt_T, lt_F, le_T, le_F, eq_T, eq_F, ↓reduceIte, not_true_eq_false, not_false_eq_true, or_true, or_false, true_or, false_or, and_true, true_and, and_false, false_and]
  | succ d ih =>
    intro i hd hi k hk
    obtain ⟨k, rfl⟩ : ∃ q, k = q + 1 := ⟨k - 1, by omega⟩
    have e1 := hT i (by omega) (by omega)
    have b1 := hB i
    have e2 := c_isLetter (M := M) b1
    by_cases hl : lx_L (B i) = true
    · rw [hl] at e2
      have r1 := ih (i + 1) (by omega) (by omega) k (by omega)
      rw [rn_t (P := fun k => lx_L (B k)) (by omega) hl, ← r1, lX6_readWord_5]
      by_cases h8 : 8 ≤ i - s
      · rw [if_neg (by omega : ¬ (i + 1 - s ≤ 8))]
        have z0 : (0 : Int64) = lI 0 := rfl
        simp (disch := omega) only [iI_add, iI_sub, iI_mul, iI_neg, iI_nat, addm1, ixkI, ↓sbind, sbind, ↓bdS, bdS, ↓nm_eq, ↓jn_eq, iI_lt, iI_le, iI_eq, k_0, k_1, k_2, k_3, k_4, k_5, k_6, k_7, k_8, k_9, k_10, k_11, k_12, k_13, k_14, k_15, k_16, k_17, k_18, k_19, k_20, k_21, k_22, k_23, k_24, k_27, k_30, k_32, k_48, k_57, k_59, k_60, k_61, k_62, k_63, k_64, k_72, k_78, k_80, k_82, k_97, k_99, k_100, k_122, k_244, k_255, k_268, k_280, k_300, k_432, k_650, k_900, k_901, k_999, k_1700, k_2600, k_2601, k_2602, k_2603, k_2604, k_2610, k_2618, k_2682, k_2777, k_2844, k_2868, k_2880, k_3245, k_3250, k_9551, k_9999, k_65536, k_100000, k_999999, k_1000000, k_2147483647, lt_T, lt_F, le_T, le_F, eq_T, eq_F, ↓reduceIte, not_true_eq_false, not_false_eq_true, or_true, or_false, true_or, false_or, and_true, true_and, and_false, false_and, e1, e2, bI_t, z0]
      · rw [if_pos (by omega : i - s ≤ 8), if_pos (by omega : i + 1 - s ≤ 8), show (i + 1 - s).toNat = (i - s).toNat + 1 from by omega]
        have ec : cdN (fun k => B (s + k)) ((i - s).toNat + 1) = 32 * cdN (fun k => B (s + k)) (i - s).toNat + (B (s + (((i - s).toNat : Nat) : Int)) - 96) := rfl
        rw [ec, show s + (((i - s).toNat : Nat) : Int) = i from by omega]
        have e5 : lI (cdN (fun k => B (s + k)) (i - s).toNat) * (32 : Int64) + (iI (B i) - iI 97 + iI 1).toInt64 = lI (32 * cdN (fun k => B (s + k)) (i - s).toNat + (B i - 96)) := by
          rw [iI_sub, iI_add, iI_l (by omega), kl_32, lI_mul, lI_add, Int.mul_comm, show B i - 97 + 1 = B i - 96 from by omega]
        simp (disch := omega) only [iI_add, iI_sub, iI_mul, iI_neg, iI_nat, addm1, ixkI, ↓sbind, sbind, ↓bdS, bdS, ↓nm_eq, ↓jn_eq, iI_lt, iI_le, iI_eq, k_0, k_1, k_2, k_3, k_4, k_5, k_6, k_7, k_8, k_9, k_10, k_11, k_12, k_13, k_14, k_15, k_16, k_17, k_18, k_19, k_20, k_21, k_22, k_23, k_24, k_27, k_30, k_32, k_48, k_57, k_59, k_60, k_61, k_62, k_63, k_64, k_72, k_78, k_80, k_82, k_97, k_99, k_100, k_122, k_244, k_255, k_268, k_280, k_300, k_432, k_650, k_900, k_901, k_999, k_1700, k_2600, k_2601, k_2602, k_2603, k_2604, k_2610, k_2618, k_2682, k_2777, k_2844, k_2868, k_2880, k_3245, k_3250, k_9551, k_9999, k_65536, k_100000, k_999999, k_1000000, k_2147483647, lt_T, lt_F, le_T, le_F, eq_T, eq_F, ↓reduceIte, not_true_eq_false, not_false_eq_true, or_true, or_false, true_or, false_or, and_true, true_and, and_false, false_and, e1, e2, bI_t]
        rw [← e5]
        simp (disch := omega) only [iI_add, iI_sub, iI_mul, iI_neg, iI_nat, addm1, ixkI, ↓sbind, sbind, ↓bdS, bdS, ↓nm_eq, ↓jn_eq, iI_lt, iI_le, iI_eq, k_0, k_1, k_2, k_3, k_4, k_5, k_6, k_7, k_8, k_9, k_10, k_11, k_12, k_13, k_14, k_15, k_16, k_17, k_18, k_19, k_20, k_21, k_22, k_23, k_24, k_27, k_30, k_32, k_48, k_57, k_59, k_60, k_61, k_62, k_63, k_64, k_72, k_78, k_80, k_82, k_97, k_99, k_100, k_122, k_244, k_255, k_268, k_280, k_300, k_432, k_650, k_900, k_901, k_999, k_1700, k_2600, k_2601, k_2602, k_2603, k_2604, k_2610, k_2618, k_2682, k_2777, k_2844, k_2868, k_2880, k_3245, k_3250, k_9551, k_9999, k_65536, k_100000, k_999999, k_1000000, k_2147483647, lt_T, lt_F, le_T, le_F, eq_T, eq_F, ↓reduceIte, not_true_eq_false, not_false_eq_true, or_true, or_false, true_or, false_or, and_true, true_and, and_false, false_and]
    · have hl' : lx_L (B i) = false := Bool.eq_false_iff.mpr hl
      rw [hl'] at e2
      rw [rn_f (P := fun k => lx_L (B k)) (by omega) hl', lX6_readWord_5]
      simp (disch := omega) only [iI_add, iI_sub, iI_mul, iI_neg, iI_nat, addm1, ixkI, ↓sbind, sbind, ↓bdS, bdS, ↓nm_eq, ↓jn_eq, iI_lt, iI_le, iI_eq, k_0, k_1, k_2, k_3, k_4, k_5, k_6, k_7, k_8, k_9, k_10, k_11, k_12, k_13, k_14, k_15, k_16, k_17, k_18, k_19, k_20, k_21, k_22, k_23, k_24, k_27, k_30, k_32, k_48, k_57, k_59, k_60, k_61, k_62, k_63, k_64, k_72, k_78, k_80, k_82, k_97, k_99, k_100, k_122, k_244, k_255, k_268, k_280, k_300, k_432, k_650, k_900, k_901, k_999, k_1700, k_2600, k_2601, k_2602, k_2603, k_2604, k_2610, k_2618, k_2682, k_2777, k_2844, k_2868, k_2880, k_3245, k_3250, k_9551, k_9999, k_65536, k_100000, k_999999, k_1000000, k_2147483647, lt_T, lt_F, le_T, le_F, eq_T, eq_F, ↓reduceIte, not_true_eq_false, not_false_eq_true, or_true, or_false, true_or, false_or, and_true, true_and, and_false, false_and, e1, e2, bI_f]
theorem c_rnum (K : Int32 → Int32 → Option (Int32 × Mem)) (hn : n ≤ 900) (hB : ∀ k, -128 ≤ B k ∧ B k ≤ 127) (hT : TX (t + 1) B n M) {s : Int} (hs : 0 ≤ s ∧ s ≤ n) : ∀ (d : Nat) (i : Int), n - i = d → s ≤ i → ∀ k, d < k → lX6_readNumber_5 K t (iI s) (iI n) M k (iI i) (iI (if i - s ≤ 4 then dcN (fun k => B (s + k)) (i - s).toNat else 0)) = K (iI (rn (fun k => lx_D (B k)) n i)) (iI (if rn (fun k => lx_D (B k)) n i - s ≤ 4 then dcN (fun k => B (s + k)) (rn (fun k => lx_D (B k)) n i - s).toNat else 0)) := by
  intro d
  induction d with
  | zero =>
    intro i hd hi k hk
    obtain ⟨k, rfl⟩ : ∃ q, k = q + 1 := ⟨k - 1, by omega⟩
    rw [rn_e (by omega), lX6_readNumber_5]
    simp (disch := omega) only [iI_add, iI_sub, iI_mul, iI_neg, iI_nat, addm1, ixkI, ↓sbind, sbind, ↓bdS, bdS, ↓nm_eq, ↓jn_eq, iI_lt, iI_le, iI_eq, k_0, k_1, k_2, k_3, k_4, k_5, k_6, k_7, k_8, k_9, k_10, k_11, k_12, k_13, k_14, k_15, k_16, k_17, k_18, k_19, k_20, k_21, k_22, k_23, k_24, k_27, k_30, k_32, k_48, k_57, k_59, k_60, k_61, k_62, k_63, k_64, k_72, k_78, k_80, k_82, k_97, k_99, k_100, k_122, k_244, k_255, k_268, k_280, k_300, k_432, k_650, k_900, k_901, k_999, k_1700, k_2600, k_2601, k_2602, k_2603, k_2604, k_2610, k_2618, k_2682, k_2777, k_2844, k_2868, k_2880, k_3245, k_3250, k_9551, k_9999, k_65536, k_100000, k_999999, k_1000000, k_2147483647, lt_T, lt_F, le_T, le_F, eq_T, eq_F, ↓reduceIte, not_true_eq_false, not_false_eq_true, or_true, or_false, true_or, false_or, and_true, true_and, and_false, false_and]
  | succ d ih =>
    intro i hd hi k hk
    obtain ⟨k, rfl⟩ : ∃ q, k = q + 1 := ⟨k - 1, by omega⟩
    have e1 := hT i (by omega) (by omega)
    have b1 := hB i
    have e2 := c_isDigit (M := M) b1
    by_cases hl : lx_D (B i) = true
    · rw [hl] at e2
      have r1 := ih (i + 1) (by omega) (by omega) k (by omega)
      rw [rn_t (P := fun k => lx_D (B k)) (by omega) hl, ← r1, lX6_readNumber_5]
      by_cases h8 : 4 ≤ i - s
      · rw [if_neg (by omega : ¬ (i + 1 - s ≤ 4))]
        simp (disch := omega) only [iI_add, iI_sub, iI_mul, iI_neg, iI_nat, addm1, ixkI, ↓sbind, sbind, ↓bdS, bdS, ↓nm_eq, ↓jn_eq, iI_lt, iI_le, iI_eq, k_0, k_1, k_2, k_3, k_4, k_5, k_6, k_7, k_8, k_9, k_10, k_11, k_12, k_13, k_14, k_15, k_16, k_17, k_18, k_19, k_20, k_21, k_22, k_23, k_24, k_27, k_30, k_32, k_48, k_57, k_59, k_60, k_61, k_62, k_63, k_64, k_72, k_78, k_80, k_82, k_97, k_99, k_100, k_122, k_244, k_255, k_268, k_280, k_300, k_432, k_650, k_900, k_901, k_999, k_1700, k_2600, k_2601, k_2602, k_2603, k_2604, k_2610, k_2618, k_2682, k_2777, k_2844, k_2868, k_2880, k_3245, k_3250, k_9551, k_9999, k_65536, k_100000, k_999999, k_1000000, k_2147483647, lt_T, lt_F, le_T, le_F, eq_T, eq_F, ↓reduceIte, not_true_eq_false, not_false_eq_true, or_true, or_false, true_or, false_or, and_true, true_and, and_false, false_and, e1, e2, bI_t]
      · rw [if_pos (by omega : i - s ≤ 4), if_pos (by omega : i + 1 - s ≤ 4), show (i + 1 - s).toNat = (i - s).toNat + 1 from by omega]
        have ec : dcN (fun k => B (s + k)) ((i - s).toNat + 1) = 10 * dcN (fun k => B (s + k)) (i - s).toNat + (B (s + (((i - s).toNat : Nat) : Int)) - 48) := rfl
        rw [ec, show s + (((i - s).toNat : Nat) : Int) = i from by omega, Int.mul_comm 10]
        simp (disch := omega) only [iI_add, iI_sub, iI_mul, iI_neg, iI_nat, addm1, ixkI, ↓sbind, sbind, ↓bdS, bdS, ↓nm_eq, ↓jn_eq, iI_lt, iI_le, iI_eq, k_0, k_1, k_2, k_3, k_4, k_5, k_6, k_7, k_8, k_9, k_10, k_11, k_12, k_13, k_14, k_15, k_16, k_17, k_18, k_19, k_20, k_21, k_22, k_23, k_24, k_27, k_30, k_32, k_48, k_57, k_59, k_60, k_61, k_62, k_63, k_64, k_72, k_78, k_80, k_82, k_97, k_99, k_100, k_122, k_244, k_255, k_268, k_280, k_300, k_432, k_650, k_900, k_901, k_999, k_1700, k_2600, k_2601, k_2602, k_2603, k_2604, k_2610, k_2618, k_2682, k_2777, k_2844, k_2868, k_2880, k_3245, k_3250, k_9551, k_9999, k_65536, k_100000, k_999999, k_1000000, k_2147483647, lt_T, lt_F, le_T, le_F, eq_T, eq_F, ↓reduceIte, not_true_eq_false, not_false_eq_true, or_true, or_false, true_or, false_or, and_true, true_and, and_false, false_and, e1, e2, bI_t]
    · have hl' : lx_D (B i) = false := Bool.eq_false_iff.mpr hl
      rw [hl'] at e2
      rw [rn_f (P := fun k => lx_D (B k)) (by omega) hl', lX6_readNumber_5]
      simp (disch := omega) only [iI_add, iI_sub, iI_mul, iI_neg, iI_nat, addm1, ixkI, ↓sbind, sbind, ↓bdS, bdS, ↓nm_eq, ↓jn_eq, iI_lt, iI_le, iI_eq, k_0, k_1, k_2, k_3, k_4, k_5, k_6, k_7, k_8, k_9, k_10, k_11, k_12, k_13, k_14, k_15, k_16, k_17, k_18, k_19, k_20, k_21, k_22, k_23, k_24, k_27, k_30, k_32, k_48, k_57, k_59, k_60, k_61, k_62, k_63, k_64, k_72, k_78, k_80, k_82, k_97, k_99, k_100, k_122, k_244, k_255, k_268, k_280, k_300, k_432, k_650, k_900, k_901, k_999, k_1700, k_2600, k_2601, k_2602, k_2603, k_2604, k_2610, k_2618, k_2682, k_2777, k_2844, k_2868, k_2880, k_3245, k_3250, k_9551, k_9999, k_65536, k_100000, k_999999, k_1000000, k_2147483647, lt_T, lt_F, le_T, le_F, eq_T, eq_F, ↓reduceIte, not_true_eq_false, not_false_eq_true, or_true, or_false, true_or, false_or, and_true, true_and, and_false, false_and, e1, e2, bI_f]
theorem c_rtoken {φ : Nat} (hφ : 2000 < φ) (hn : n ≤ 900) (hB : ∀ k, -128 ≤ B k ∧ B k ≤ 127) (hT : TX (t + 1) B n M) {s : Int} (hs : 0 ≤ s ∧ s < n) {j : Nat} (hj : (j : Int) ≤ 900) (h6 : M.1 t 6 = iI j) {tk : Nat → Tk} (hA : TA t tk j M) (hk : tk j = tokS B n s) : ∃ M1, fX6_readToken φ t (iI s) (iI n) M = some (iI (tk j).2.2.2.1, M1) ∧ TA t tk ((j : Int) + 1) M1 ∧ M1.1 t 6 = iI ((j : Int) + 1) ∧ (∀ i, i ≠ 6 → M1.1 t i = M.1 t i) ∧ Fr (fun z => z = t ∨ (t + 2 ≤ z ∧ z ≤ t + 5)) M M1 := by
  have e1 := hT s hs.1 hs.2
  have b1 := hB s
  have e2 := c_isLetter (M := M) b1
  have e3 := c_isDigit (M := M) b1
  have hA2 := fun (kd st v : Int32) (nm : Int64) (h1 : kd = iI (tk j).1) (h2 : st = iI (tk j).2.1) (h3 : (tk j).1 ≠ 4 → v = iI (tk j).2.2.1) (h4 : nm = lI (tk j).2.2.2.2) => hA.add h1 h2 h3 h4
  have hat := fun (kd st v : Int32) (nm : Int64) => c_addToken (t := t) (M := M) (j := (j : Int)) (by omega) h6 kd st v nm
  unfold tokS at hk
  rw [if_neg (by omega)] at hk
  by_cases hl : lx_L (B s) = true
  · rw [if_pos hl] at hk
    rw [hl] at e2
    obtain ⟨a1, a2, a3, a4⟩ := rn_r (P := fun k => lx_L (B k)) (n := n) (i := s) (by omega)
    have h2 : s < rn (fun k => lx_L (B k)) n s := by
      rw [rn_t (P := fun k => lx_L (B k)) hs.2 hl]
      have := (rn_r (P := fun k => lx_L (B k)) (n := n) (i := s + 1) (by omega)).1
      omega
    obtain ⟨e, he⟩ : ∃ e, e = rn (fun k => lx_L (B k)) n s := ⟨_, rfl⟩
    rw [← he] at a2 a3 h2 hk
    have l : LD (fun k => B (s + k)) (e - s).toNat := fun i hi => lx_Lt (a3 (s + i) (by omega) (by omega))
    have kp := c_kept (t := t) (M := M) hφ hs.1 h2 (by omega) hB (fun k k0 k1 => hT k k0 (by omega)) l
    have rw1 := c_rword (t := t) (M := M) (fun (v4 : Int32) (vz5 : Int64) => jn (fun (vz6 : Int64) => (fX6_keptWord φ t (iI s) v4 M).bind fun v8 => bd (fX6_addToken t (1 : Int32) (iI s) v8 vz6 M) fun vu9 M10 => some (v4, M10)) (fun J7 => if (v4 - iI s) ≤ (8 : Int32) then J7 vz5 else J7 (0 : Int64))) hn hB hT (s := s) (by omega) (n - s).toNat s (by omega) (by omega) φ (by omega)
    rw [show s - s = 0 from by omega, if_pos (by omega)] at rw1
    rw [← he] at rw1
    have rw2 : fX6_readWord φ t (iI s) (iI n) M = _ := rw1
    refine ⟨adT t (j : Int) (iI 1) (iI s) (iI (kwC (cdN (fun k => B (s + k)) (e - s).toNat))) (lI (if e - s ≤ 8 then cdN (fun k => B (s + k)) (e - s).toNat else 0)) M, ?_, hA2 _ _ _ _ (by rw [hk]) (by rw [hk]) (fun _ => by rw [hk]) (by rw [hk]), adT_6, fun i hi => adT_o hi, adT_fr⟩
    rw [hk]
    show fX6_readToken φ t (iI s) (iI n) M = some (iI e, _)
    unfold fX6_readToken
    rw [ixkI (by omega), iI_nat (by omega), e1, nm_eq, e2, sbind, if_neg (by rw [bI_t]; decide), rw2]
    by_cases q : e - s ≤ 8
    · rw [if_pos q]
      simp (disch := omega) only [iI_add, iI_sub, iI_mul, iI_neg, iI_nat, addm1, ixkI, ↓sbind, sbind, ↓bdS, bdS, ↓nm_eq, ↓jn_eq, iI_lt, iI_le, iI_eq, k_0, k_1, k_2, k_3, k_4, k_5, k_6, k_7, k_8, k_9, k_10, k_11, k_12, k_13, k_14, k_15, k_16, k_17, k_18, k_19, k_20, k_21, k_22, k_23, k_24, k_27, k_30, k_32, k_48, k_57, k_59, k_60, k_61, k_62, k_63, k_64, k_72, k_78, k_80, k_82, k_97, k_99, k_100, k_122, k_244, k_255, k_268, k_280, k_300, k_432, k_650, k_900, k_901, k_999, k_1700, k_2600, k_2601, k_2602, k_2603, k_2604, k_2610, k_2618, k_2682, k_2777, k_2844, k_2868, k_2880, k_3245, k_3250, k_9551, k_9999, k_65536, k_100000, k_999999, k_1000000, k_2147483647, lt_T, lt_F, le_T, le_F, eq_T, eq_F, ↓reduceIte, not_true_eq_false, not_false_eq_true, or_true, or_false, true_or, false_or, and_true, true_and, and_false, false_and, kp, hat]
    · rw [if_neg q]
      have z0 : (0 : Int64) = lI 0 := rfl
      simp (disch := omega) only [iI_add, iI_sub, iI_mul, iI_neg, iI_nat, addm1, ixkI, ↓sbind, sbind, ↓bdS, bdS, ↓nm_eq, ↓jn_eq, iI_lt, iI_le, iI_eq, k_0, k_1, k_2, k_3, k_4, k_5, k_6, k_7, k_8, k_9, k_10, k_11, k_12, k_13, k_14, k_15, k_16, k_17, k_18, k_19, k_20, k_21, k_22, k_23, k_24, k_27, k_30, k_32, k_48, k_57, k_59, k_60, k_61, k_62, k_63, k_64, k_72, k_78, k_80, k_82, k_97, k_99, k_100, k_122, k_244, k_255, k_268, k_280, k_300, k_432, k_650, k_900, k_901, k_999, k_1700, k_2600, k_2601, k_2602, k_2603, k_2604, k_2610, k_2618, k_2682, k_2777, k_2844, k_2868, k_2880, k_3245, k_3250, k_9551, k_9999, k_65536, k_100000, k_999999, k_1000000, k_2147483647, lt_T, lt_F, le_T, le_F, eq_T, eq_F, ↓reduceIte, not_true_eq_false, not_false_eq_true, or_true, or_false, true_or, false_or, and_true, true_and, and_false, false_and, kp, hat, z0]
  have hl' : lx_L (B s) = false := Bool.eq_false_iff.mpr hl
  rw [hl'] at e2
  rw [if_neg hl] at hk
  by_cases hd : lx_D (B s) = true
  · rw [if_pos hd] at hk
    rw [hd] at e3
    obtain ⟨a1, a2, a3, a4⟩ := rn_r (P := fun k => lx_D (B k)) (n := n) (i := s) (by omega)
    obtain ⟨e, he⟩ : ∃ e, e = rn (fun k => lx_D (B k)) n s := ⟨_, rfl⟩
    rw [← he] at a1 a2 a3 hk
    have rw1 := c_rnum (t := t) (M := M) (fun (v4 : Int32) (v5 : Int32) => jn (fun (v6 : Int32) => bd (fX6_addToken t v6 (iI s) v5 (0 : Int64) M) fun vu8 M9 => some (v4, M9)) (fun J7 => if (v4 - iI s) ≤ (4 : Int32) then J7 (2 : Int32) else J7 (4 : Int32))) hn hB hT (s := s) (by omega) (n - s).toNat s (by omega) (by omega) φ (by omega)
    rw [show s - s = 0 from by omega, if_pos (by omega)] at rw1
    rw [← he] at rw1
    have rw2 : fX6_readNumber φ t (iI s) (iI n) M = _ := rw1
    refine ⟨adT t (j : Int) (iI (if e - s ≤ 4 then 2 else 4)) (iI s) (iI (if e - s ≤ 4 then dcN (fun k => B (s + k)) (e - s).toNat else 0)) (lI 0) M, ?_, hA2 _ _ _ _ (by rw [hk]) (by rw [hk]) (fun z => by
      rw [hk] at z ⊢
      by_cases q : e - s ≤ 4
      · rw [if_pos q]
      · exact absurd (if_neg q) z) (by rw [hk]), adT_6, fun i hi => adT_o hi, adT_fr⟩
    rw [hk]
    show fX6_readToken φ t (iI s) (iI n) M = some (iI e, _)
    have z0 : (0 : Int64) = lI 0 := rfl
    unfold fX6_readToken
    rw [ixkI (by omega), iI_nat (by omega), e1, nm_eq, e2, sbind, if_pos (by rw [bI_f]; decide), e3, sbind, if_neg (by rw [bI_t]; decide), rw2]
    by_cases q : e - s ≤ 4
    · rw [if_pos q, if_pos q]
      simp (disch := omega) only [iI_add, iI_sub, iI_mul, iI_neg, iI_nat, addm1, ixkI, ↓sbind, sbind, ↓bdS, bdS, ↓nm_eq, ↓jn_eq, iI_lt, iI_le, iI_eq, k_0, k_1, k_2, k_3, k_4, k_5, k_6, k_7, k_8, k_9, k_10, k_11, k_12, k_13, k_14, k_15, k_16, k_17, k_18, k_19, k_20, k_21, k_22, k_23, k_24, k_27, k_30, k_32, k_48, k_57, k_59, k_60, k_61, k_62, k_63, k_64, k_72, k_78, k_80, k_82, k_97, k_99, k_100, k_122, k_244, k_255, k_268, k_280, k_300, k_432, k_650, k_900, k_901, k_999, k_1700, k_2600, k_2601, k_2602, k_2603, k_2604, k_2610, k_2618, k_2682, k_2777, k_2844, k_2868, k_2880, k_3245, k_3250, k_9551, k_9999, k_65536, k_100000, k_999999, k_1000000, k_2147483647, lt_T, lt_F, le_T, le_F, eq_T, eq_F, ↓reduceIte, not_true_eq_false, not_false_eq_true, or_true, or_false, true_or, false_or, and_true, true_and, and_false, false_and, hat, z0]
    · rw [if_neg q, if_neg q]
      simp (disch := omega) only [iI_add, iI_sub, iI_mul, iI_neg, iI_nat, addm1, ixkI, ↓sbind, sbind, ↓bdS, bdS, ↓nm_eq, ↓jn_eq, iI_lt, iI_le, iI_eq, k_0, k_1, k_2, k_3, k_4, k_5, k_6, k_7, k_8, k_9, k_10, k_11, k_12, k_13, k_14, k_15, k_16, k_17, k_18, k_19, k_20, k_21, k_22, k_23, k_24, k_27, k_30, k_32, k_48, k_57, k_59, k_60, k_61, k_62, k_63, k_64, k_72, k_78, k_80, k_82, k_97, k_99, k_100, k_122, k_244, k_255, k_268, k_280, k_300, k_432, k_650, k_900, k_901, k_999, k_1700, k_2600, k_2601, k_2602, k_2603, k_2604, k_2610, k_2618, k_2682, k_2777, k_2844, k_2868, k_2880, k_3245, k_3250, k_9551, k_9999, k_65536, k_100000, k_999999, k_1000000, k_2147483647, lt_T, lt_F, le_T, le_F, eq_T, eq_F, ↓reduceIte, not_true_eq_false, not_false_eq_true, or_true, or_false, true_or, false_or, and_true, true_and, and_false, false_and, hat, z0]
  have hd' : lx_D (B s) = false := Bool.eq_false_iff.mpr hd
  rw [hd'] at e3
  rw [if_neg hd] at hk
  have z0 : (0 : Int64) = lI 0 := rfl
  refine ⟨adT t (j : Int) (iI (if lx_S (B s) = true then 3 else 4)) (iI s) (iI (B s)) (lI 0) M, ?_, hA2 _ _ _ _ (by rw [hk]) (by rw [hk]) (fun _ => by rw [hk]) (by rw [hk]), adT_6, fun i hi => adT_o hi, adT_fr⟩
  rw [hk]
  show fX6_readToken φ t (iI s) (iI n) M = some (iI (s + 1), _)
  unfold fX6_readToken
  rw [ixkI (by omega), iI_nat (by omega), e1, nm_eq, e2, sbind, if_pos (by rw [bI_f]; decide), e3, sbind, if_pos (by rw [bI_f]; decide)]
  unfold lx_S
  by_cases q1 : B s = 59
  · rw [if_pos (decide_eq_true (by omega))]
    simp (disch := omega) only [iI_add, iI_sub, iI_mul, iI_neg, iI_nat, addm1, ixkI, ↓sbind, sbind, ↓bdS, bdS, ↓nm_eq, ↓jn_eq, iI_lt, iI_le, iI_eq, k_0, k_1, k_2, k_3, k_4, k_5, k_6, k_7, k_8, k_9, k_10, k_11, k_12, k_13, k_14, k_15, k_16, k_17, k_18, k_19, k_20, k_21, k_22, k_23, k_24, k_27, k_30, k_32, k_48, k_57, k_59, k_60, k_61, k_62, k_63, k_64, k_72, k_78, k_80, k_82, k_97, k_99, k_100, k_122, k_244, k_255, k_268, k_280, k_300, k_432, k_650, k_900, k_901, k_999, k_1700, k_2600, k_2601, k_2602, k_2603, k_2604, k_2610, k_2618, k_2682, k_2777, k_2844, k_2868, k_2880, k_3245, k_3250, k_9551, k_9999, k_65536, k_100000, k_999999, k_1000000, k_2147483647, lt_T, lt_F, le_T, le_F, eq_T, eq_F, ↓reduceIte, not_true_eq_false, not_false_eq_true, or_true, or_false, true_or, false_or, and_true, true_and, and_false, false_and, hat, z0]
  by_cases q2 : B s = 60
  · rw [if_pos (decide_eq_true (by omega))]
    simp (disch := omega) only [iI_add, iI_sub, iI_mul, iI_neg, iI_nat, addm1, ixkI, ↓sbind, sbind, ↓bdS, bdS, ↓nm_eq, ↓jn_eq, iI_lt, iI_le, iI_eq, k_0, k_1, k_2, k_3, k_4, k_5, k_6, k_7, k_8, k_9, k_10, k_11, k_12, k_13, k_14, k_15, k_16, k_17, k_18, k_19, k_20, k_21, k_22, k_23, k_24, k_27, k_30, k_32, k_48, k_57, k_59, k_60, k_61, k_62, k_63, k_64, k_72, k_78, k_80, k_82, k_97, k_99, k_100, k_122, k_244, k_255, k_268, k_280, k_300, k_432, k_650, k_900, k_901, k_999, k_1700, k_2600, k_2601, k_2602, k_2603, k_2604, k_2610, k_2618, k_2682, k_2777, k_2844, k_2868, k_2880, k_3245, k_3250, k_9551, k_9999, k_65536, k_100000, k_999999, k_1000000, k_2147483647, lt_T, lt_F, le_T, le_F, eq_T, eq_F, ↓reduceIte, not_true_eq_false, not_false_eq_true, or_true, or_false, true_or, false_or, and_true, true_and, and_false, false_and, hat, z0]
  by_cases q3 : B s = 62
  · rw [if_pos (decide_eq_true (by omega))]
    simp (disch := omega) only [iI_add, iI_sub, iI_mul, iI_neg, iI_nat, addm1, ixkI, ↓sbind, sbind, ↓bdS, bdS, ↓nm_eq, ↓jn_eq, iI_lt, iI_le, iI_eq, k_0, k_1, k_2, k_3, k_4, k_5, k_6, k_7, k_8, k_9, k_10, k_11, k_12, k_13, k_14, k_15, k_16, k_17, k_18, k_19, k_20, k_21, k_22, k_23, k_24, k_27, k_30, k_32, k_48, k_57, k_59, k_60, k_61, k_62, k_63, k_64, k_72, k_78, k_80, k_82, k_97, k_99, k_100, k_122, k_244, k_255, k_268, k_280, k_300, k_432, k_650, k_900, k_901, k_999, k_1700, k_2600, k_2601, k_2602, k_2603, k_2604, k_2610, k_2618, k_2682, k_2777, k_2844, k_2868, k_2880, k_3245, k_3250, k_9551, k_9999, k_65536, k_100000, k_999999, k_1000000, k_2147483647, lt_T, lt_F, le_T, le_F, eq_T, eq_F, ↓reduceIte, not_true_eq_false, not_false_eq_true, or_true, or_false, true_or, false_or, and_true, true_and, and_false, false_and, hat, z0]
  by_cases q4 : B s = 61
  · rw [if_pos (decide_eq_true (by omega))]
    simp (disch := omega) only [iI_add, iI_sub, iI_mul, iI_neg, iI_nat, addm1, ixkI, ↓sbind, sbind, ↓bdS, bdS, ↓nm_eq, ↓jn_eq, iI_lt, iI_le, iI_eq, k_0, k_1, k_2, k_3, k_4, k_5, k_6, k_7, k_8, k_9, k_10, k_11, k_12, k_13, k_14, k_15, k_16, k_17, k_18, k_19, k_20, k_21, k_22, k_23, k_24, k_27, k_30, k_32, k_48, k_57, k_59, k_60, k_61, k_62, k_63, k_64, k_72, k_78, k_80, k_82, k_97, k_99, k_100, k_122, k_244, k_255, k_268, k_280, k_300, k_432, k_650, k_900, k_901, k_999, k_1700, k_2600, k_2601, k_2602, k_2603, k_2604, k_2610, k_2618, k_2682, k_2777, k_2844, k_2868, k_2880, k_3245, k_3250, k_9551, k_9999, k_65536, k_100000, k_999999, k_1000000, k_2147483647, lt_T, lt_F, le_T, le_F, eq_T, eq_F, ↓reduceIte, not_true_eq_false, not_false_eq_true, or_true, or_false, true_or, false_or, and_true, true_and, and_false, false_and, hat, z0]
  · rw [if_neg (by rw [decide_eq_true_eq]; omega)]
    simp (disch := omega) only [iI_add, iI_sub, iI_mul, iI_neg, iI_nat, addm1, ixkI, ↓sbind, sbind, ↓bdS, bdS, ↓nm_eq, ↓jn_eq, iI_lt, iI_le, iI_eq, k_0, k_1, k_2, k_3, k_4, k_5, k_6, k_7, k_8, k_9, k_10, k_11, k_12, k_13, k_14, k_15, k_16, k_17, k_18, k_19, k_20, k_21, k_22, k_23, k_24, k_27, k_30, k_32, k_48, k_57, k_59, k_60, k_61, k_62, k_63, k_64, k_72, k_78, k_80, k_82, k_97, k_99, k_100, k_122, k_244, k_255, k_268, k_280, k_300, k_432, k_650, k_900, k_901, k_999, k_1700, k_2600, k_2601, k_2602, k_2603, k_2604, k_2610, k_2618, k_2682, k_2777, k_2844, k_2868, k_2880, k_3245, k_3250, k_9551, k_9999, k_65536, k_100000, k_999999, k_1000000, k_2147483647, lt_T, lt_F, le_T, le_F, eq_T, eq_F, ↓reduceIte, not_true_eq_false, not_false_eq_true, or_true, or_false, true_or, false_or, and_true, true_and, and_false, false_and, hat, z0]
theorem tokS_k {s : Int} (h : s < n) : (tokS B n s).1 ≠ 0 := by
  unfold tokS
  rw [if_neg (by omega)]
  split
  · exact (by decide : (1 : Int) ≠ 0)
  · split
    · show (if _ then (2 : Int) else 4) ≠ 0
      split <;> decide
    · show (if _ then (3 : Int) else 4) ≠ 0
      split <;> decide
theorem c_begin_l (K : Mem → Option (Unit × Mem)) {φ : Nat} (hφ : 2000 < φ) (hn : 0 ≤ n ∧ n ≤ 900) (hB : ∀ k, -128 ≤ B k ∧ B k ≤ 127) : ∀ (d : Nat) (i : Int) (u : Int) (j : Nat) (M : Mem), n - i ≤ d → 0 ≤ i → i ≤ n → 0 ≤ u → u ≤ i → (j : Int) ≤ i → rn (fun k => lx_B (B k)) n i = rn (fun k => lx_B (B k)) n (tpN B n j) → TX (t + 1) B n M → M.1 t 6 = iI j → TA t (tkN B n) j M → (∀ k : Nat, k < j → (tkN B n k).1 ≠ 0) → ∀ k, d < k → ∃ (T : Nat) (M1 : Mem), lX6_begin_29 K φ t (iI n) k (iI i) (iI u) M = K M1 ∧ (T : Int) ≤ 900 ∧ M1.1 t 6 = iI T ∧ TA t (tkN B n) T M1 ∧ (∀ k : Nat, k < T → (tkN B n k).1 ≠ 0) ∧ tkN B n T = (0, n, 0, n, 0) ∧ (∀ i, i ≠ 6 → M1.1 t i = M.1 t i) ∧ Fr (fun z => z = t ∨ (t + 2 ≤ z ∧ z ≤ t + 5)) M M1 := by
  intro d
  induction d with
  | zero =>
    intro i u j M hd hi hin u0 ui ji hp hT h6 hA hk0 k hk
    obtain ⟨k, rfl⟩ : ∃ q, k = q + 1 := ⟨k - 1, by omega⟩
    refine ⟨j, M, ?_, by omega, h6, hA, hk0, ?_, fun _ _ => rfl, Fr.refl M⟩
    · rw [lX6_begin_29]
      by_cases q : 900 ≤ u
      · simp (disch := omega) only [iI_add, iI_sub, iI_mul, iI_neg, iI_nat, addm1, ixkI, ↓sbind, sbind, ↓bdS, bdS, ↓nm_eq, ↓jn_eq, iI_lt, iI_le, iI_eq, k_0, k_1, k_2, k_3, k_4, k_5, k_6, k_7, k_8, k_9, k_10, k_11, k_12, k_13, k_14, k_15, k_16, k_17, k_18, k_19, k_20, k_21, k_22, k_23, k_24, k_27, k_30, k_32, k_48, k_57, k_59, k_60, k_61, k_62, k_63, k_64, k_72, k_78, k_80, k_82, k_97, k_99, k_100, k_122, k_244, k_255, k_268, k_280, k_300, k_432, k_650, k_900, k_901, k_999, k_1700, k_2600, k_2601, k_2602, k_2603, k_2604, k_2610, k_2618, k_2682, k_2777, k_2844, k_2868, k_2880, k_3245, k_3250, k_9551, k_9999, k_65536, k_100000, k_999999, k_1000000, k_2147483647, lt_T, lt_F, le_T, le_F, eq_T, eq_F, ↓reduceIte, not_true_eq_false, not_false_eq_true, or_true, or_false, true_or, false_or, and_true, true_and, and_false, false_and]
      · simp (disch := omega) only [iI_add, iI_sub, iI_mul, iI_neg, iI_nat, addm1, ixkI, ↓sbind, sbind, ↓bdS, bdS, ↓nm_eq, ↓jn_eq, iI_lt, iI_le, iI_eq, k_0, k_1, k_2, k_3, k_4, k_5, k_6, k_7, k_8, k_9, k_10, k_11, k_12, k_13, k_14, k_15, k_16, k_17, k_18, k_19, k_20, k_21, k_22, k_23, k_24, k_27, k_30, k_32, k_48, k_57, k_59, k_60, k_61, k_62, k_63, k_64, k_72, k_78, k_80, k_82, k_97, k_99, k_100, k_122, k_244, k_255, k_268, k_280, k_300, k_432, k_650, k_900, k_901, k_999, k_1700, k_2600, k_2601, k_2602, k_2603, k_2604, k_2610, k_2618, k_2682, k_2777, k_2844, k_2868, k_2880, k_3245, k_3250, k_9551, k_9999, k_65536, k_100000, k_999999, k_1000000, k_2147483647, lt_T, lt_F, le_T, le_F, eq_T, eq_F, ↓reduceIte, not_true_eq_false, not_false_eq_true, or_true, or_false, true_or, false_or, and_true, true_and, and_false, false_and]
    · show tokS B n (rn (fun k => lx_B (B k)) n (tpN B n j)) = _
      rw [← hp, rn_e (by omega)]
      exact if_pos (by omega)
  | succ d ih =>
    intro i u j M hd hi hin u0 ui ji hp hT h6 hA hk0 k hk
    obtain ⟨k, rfl⟩ : ∃ q, k = q + 1 := ⟨k - 1, by omega⟩
    by_cases hlt : i < n
    · have e1 := hT i hi hlt
      have b1 := hB i
      have e2 := c_isBlank (M := M) b1
      by_cases hb : lx_B (B i) = true
      · rw [hb] at e2
        obtain ⟨T, M1, r1, r2⟩ := ih (i + 1) (u + 1) j M (by omega) (by omega) (by omega) (by omega) (by omega) (by omega) (by rw [← hp, rn_t (P := fun k => lx_B (B k)) hlt hb]) hT h6 hA hk0 k (by omega)
        refine ⟨T, M1, ?_, r2⟩
        rw [lX6_begin_29]
        simp (disch := omega) only [iI_add, iI_sub, iI_mul, iI_neg, iI_nat, addm1, ixkI, ↓sbind, sbind, ↓bdS, bdS, ↓nm_eq, ↓jn_eq, iI_lt, iI_le, iI_eq, k_0, k_1, k_2, k_3, k_4, k_5, k_6, k_7, k_8, k_9, k_10, k_11, k_12, k_13, k_14, k_15, k_16, k_17, k_18, k_19, k_20, k_21, k_22, k_23, k_24, k_27, k_30, k_32, k_48, k_57, k_59, k_60, k_61, k_62, k_63, k_64, k_72, k_78, k_80, k_82, k_97, k_99, k_100, k_122, k_244, k_255, k_268, k_280, k_300, k_432, k_650, k_900, k_901, k_999, k_1700, k_2600, k_2601, k_2602, k_2603, k_2604, k_2610, k_2618, k_2682, k_2777, k_2844, k_2868, k_2880, k_3245, k_3250, k_9551, k_9999, k_65536, k_100000, k_999999, k_1000000, k_2147483647, lt_T, lt_F, le_T, le_F, eq_T, eq_F, ↓reduceIte, not_true_eq_false, not_false_eq_true, or_true, or_false, true_or, false_or, and_true, true_and, and_false, false_and, e1, e2, bI_t, r1]
      · have hb' : lx_B (B i) = false := Bool.eq_false_iff.mpr hb
        rw [hb'] at e2
        have hs : tkN B n j = tokS B n i := by
          show tokS B n (rn (fun k => lx_B (B k)) n (tpN B n j)) = _
          rw [← hp, rn_f (P := fun k => lx_B (B k)) hlt hb']
        obtain ⟨M1, r1, r2, r3, r4, r5⟩ := c_rtoken hφ hn.2 hB hT ⟨hi, hlt⟩ (by omega) h6 hA hs
        have we := wtk_s (B := B) (n := n) (s := i) ⟨hi, hin⟩ (fun k => (hB k).2)
        rw [← hs] at we
        have k0 : (tkN B n j).1 ≠ 0 := by rw [hs]; exact tokS_k hlt
        have st : (tkN B n j).2.1 = i ∧ i < (tkN B n j).2.2.2.1 := by
          have := we.2.2.2.2.2.2.1 k0
          have e : (tkN B n j).2.1 = i := by
            rw [hs]
            unfold tokS
            rw [if_neg (by omega)]
            split
            · rfl
            · split <;> rfl
          omega
        have en : (tkN B n j).2.2.2.1 ≤ n := we.2.2.2.2.2.2.2.1
        obtain ⟨T, M2, s1, s2, s3, s4, s5, s6, s7, s8⟩ := ih (tkN B n j).2.2.2.1 (u + 1) (j + 1) M1 (by omega) (by omega) en (by omega) (by omega) (by omega) rfl (fun q q0 q1 => by rw [(r5 (t + 1) (fun z => by omega)).1]; exact hT q q0 q1) (by rw [r3]; rfl) (by
          have : (((j + 1 : Nat)) : Int) = (j : Int) + 1 := by omega
          rw [this]; exact r2) (fun q hq => by
          by_cases z : q = j
          · rw [z]; exact k0
          · exact hk0 q (by omega)) k (by omega)
        refine ⟨T, M2, ?_, s2, s3, s4, s5, s6, fun q hq => (s7 q hq).trans (r4 q hq), r5.trans s8⟩
        rw [lX6_begin_29]
        simp (disch := omega) only [iI_add, iI_sub, iI_mul, iI_neg, iI_nat, addm1, ixkI, ↓sbind, sbind, ↓bdS, bdS, ↓nm_eq, ↓jn_eq, iI_lt, iI_le, iI_eq, k_0, k_1, k_2, k_3, k_4, k_5, k_6, k_7, k_8, k_9, k_10, k_11, k_12, k_13, k_14, k_15, k_16, k_17, k_18, k_19, k_20, k_21, k_22, k_23, k_24, k_27, k_30, k_32, k_48, k_57, k_59, k_60, k_61, k_62, k_63, k_64, k_72, k_78, k_80, k_82, k_97, k_99, k_100, k_122, k_244, k_255, k_268, k_280, k_300, k_432, k_650, k_900, k_901, k_999, k_1700, k_2600, k_2601, k_2602, k_2603, k_2604, k_2610, k_2618, k_2682, k_2777, k_2844, k_2868, k_2880, k_3245, k_3250, k_9551, k_9999, k_65536, k_100000, k_999999, k_1000000, k_2147483647, lt_T, lt_F, le_T, le_F, eq_T, eq_F, ↓reduceIte, not_true_eq_false, not_false_eq_true, or_true, or_false, true_or, false_or, and_true, true_and, and_false, false_and, e1, e2, bI_f, r1, s1]
    · refine ⟨j, M, ?_, by omega, h6, hA, hk0, ?_, fun _ _ => rfl, Fr.refl M⟩
      · rw [lX6_begin_29]
        by_cases q : 900 ≤ u
        · simp (disch := omega) only [iI_add, iI_sub, iI_mul, iI_neg, iI_nat, addm1, ixkI, ↓sbind, sbind, ↓bdS, bdS, ↓nm_eq, ↓jn_eq, iI_lt, iI_le, iI_eq, k_0, k_1, k_2, k_3, k_4, k_5, k_6, k_7, k_8, k_9, k_10, k_11, k_12, k_13, k_14, k_15, k_16, k_17, k_18, k_19, k_20, k_21, k_22, k_23, k_24, k_27, k_30, k_32, k_48, k_57, k_59, k_60, k_61, k_62, k_63, k_64, k_72, k_78, k_80, k_82, k_97, k_99, k_100, k_122, k_244, k_255, k_268, k_280, k_300, k_432, k_650, k_900, k_901, k_999, k_1700, k_2600, k_2601, k_2602, k_2603, k_2604, k_2610, k_2618, k_2682, k_2777, k_2844, k_2868, k_2880, k_3245, k_3250, k_9551, k_9999, k_65536, k_100000, k_999999, k_1000000, k_2147483647, lt_T, lt_F, le_T, le_F, eq_T, eq_F, ↓reduceIte, not_true_eq_false, not_false_eq_true, or_true, or_false, true_or, false_or, and_true, true_and, and_false, false_and]
        · simp (disch := omega) only [iI_add, iI_sub, iI_mul, iI_neg, iI_nat, addm1, ixkI, ↓sbind, sbind, ↓bdS, bdS, ↓nm_eq, ↓jn_eq, iI_lt, iI_le, iI_eq, k_0, k_1, k_2, k_3, k_4, k_5, k_6, k_7, k_8, k_9, k_10, k_11, k_12, k_13, k_14, k_15, k_16, k_17, k_18, k_19, k_20, k_21, k_22, k_23, k_24, k_27, k_30, k_32, k_48, k_57, k_59, k_60, k_61, k_62, k_63, k_64, k_72, k_78, k_80, k_82, k_97, k_99, k_100, k_122, k_244, k_255, k_268, k_280, k_300, k_432, k_650, k_900, k_901, k_999, k_1700, k_2600, k_2601, k_2602, k_2603, k_2604, k_2610, k_2618, k_2682, k_2777, k_2844, k_2868, k_2880, k_3245, k_3250, k_9551, k_9999, k_65536, k_100000, k_999999, k_1000000, k_2147483647, lt_T, lt_F, le_T, le_F, eq_T, eq_F, ↓reduceIte, not_true_eq_false, not_false_eq_true, or_true, or_false, true_or, false_or, and_true, true_and, and_false, false_and]
      · show tokS B n (rn (fun k => lx_B (B k)) n (tpN B n j)) = _
        rw [← hp, rn_e (by omega)]
        exact if_pos (by omega)
/-- the class's reader stands at the token that is found from p on -/
def RDp (t : Nat) (B : Int → Int) (n p : Int) (M : Mem) : Prop := ∃ T i : Nat, (((T : Int) ≤ 900 ∧ i ≤ T) ∧ M.1 t 9 = iI 0 ∧ M.1 t 10 = iI (-1)) ∧ M.1 t 6 = iI ((T : Int) + 1) ∧ M.1 t 7 = iI i ∧ TA t (tkN B n) ((T : Int) + 1) M ∧ (∀ k : Nat, k < T → (tkN B n k).1 ≠ 0) ∧ tkN B n T = (0, n, 0, n, 0) ∧ tkN B n i = tok B n p
theorem c_begin {φ : Nat} (hφ : 2000 < φ) (hn : 0 ≤ n ∧ n ≤ 900) (hB : ∀ k, -128 ≤ B k ∧ B k ≤ 127) (hT : TX (t + 1) B n M) : ∃ M1, fX6_begin φ t (iI n) M = some ((), M1) ∧ RDp t B n 0 M1 ∧ M1.1 t 1 = iI 0 ∧ M1.1 t 8 = iI 1 ∧ M1.1 t 9 = iI 0 ∧ M1.1 t 10 = iI (-1) ∧ Fr (Rg t (t + 5)) M M1 := by
  obtain ⟨M5, hM5⟩ : ∃ M5, M5 = stI (stI (stI (stI (stI M t 6 (iI 0)) t 7 (iI 0)) t 8 (iI 1)) t 9 (iI 0)) t 10 (iI (-1)) := ⟨_, rfl⟩
  have fr5 : Fr (fun z => z = t) M M5 := by
    rw [hM5]
    exact Fr.stI rfl (Fr.stI rfl (Fr.stI rfl (Fr.stI rfl (Fr.stI rfl (Fr.refl M)))))
  have q6 : M5.1 t 6 = iI 0 := by rw [hM5, rI_nk (by omega), rI_nk (by omega), rI_nk (by omega), rI_nk (by omega)]; exact rI_at rfl rfl
  have q7 : M5.1 t 7 = iI 0 := by rw [hM5, rI_nk (by omega), rI_nk (by omega), rI_nk (by omega)]; exact rI_at rfl rfl
  have q8 : M5.1 t 8 = iI 1 := by rw [hM5, rI_nk (by omega), rI_nk (by omega)]; exact rI_at rfl rfl
  have q9 : M5.1 t 9 = iI 0 := by rw [hM5, rI_nk (by omega)]; exact rI_at rfl rfl
  have q10 : M5.1 t 10 = iI (-1) := by rw [hM5]; exact rI_at rfl rfl
  obtain ⟨T, M1, r1, r2, r3, r4, r5, r6, r7, r8⟩ := c_begin_l (t := t) (fun (M12 : Mem) => bd (fX6_addToken t (0 : Int32) (iI n) (0 : Int32) (0 : Int64) M12) fun vu13 M14 => nm (stI M14 t 1 (0 : Int32)) (fun M15 => some ((), M15))) hφ hn hB n.toNat 0 0 0 M5 (by omega) (by omega) hn.1 (by omega) (by omega) (by omega) rfl (fun k k0 k1 => by rw [(fr5 (t + 1) (by omega)).1]; exact hT k k0 k1) q6 (fun k hk => by omega) (fun k hk => by omega) φ (by omega)
  have ad := c_addToken (t := t) (M := M1) (j := (T : Int)) (by omega) r3 (iI 0) (iI n) (iI 0) (lI 0)
  have ta := r4.add (kd := iI 0) (st := iI n) (v := iI 0) (nm := lI 0) (by rw [r6]) (by rw [r6]) (fun _ => by rw [r6]) (by rw [r6])
  obtain ⟨M6, hM6⟩ : ∃ M6, M6 = adT t (T : Int) (iI 0) (iI n) (iI 0) (lI 0) M1 := ⟨_, rfl⟩
  rw [← hM6] at ad ta
  have o6 : M6.1 t 6 = iI ((T : Int) + 1) := by rw [hM6]; exact adT_6
  have oo : ∀ i, i ≠ 6 → M6.1 t i = M1.1 t i := fun i hi => by rw [hM6]; exact adT_o hi
  have f6 : Fr (fun z => z = t ∨ (t + 2 ≤ z ∧ z ≤ t + 5)) M1 M6 := by rw [hM6]; exact adT_fr
  have fr1 : Fr (Rg t t) M6 (stI M6 t 1 (iI 0)) := Fr.stI ⟨by omega, by omega⟩ (Fr.refl M6)
  refine ⟨stI M6 t 1 (iI 0), ?_, ⟨T, 0, ⟨⟨r2, by omega⟩, by rw [rI_nk (by omega), oo 9 (by omega), r7 9 (by omega)]; exact q9, by rw [rI_nk (by omega), oo 10 (by omega), r7 10 (by omega)]; exact q10⟩, by rw [rI_nk (by omega)]; exact o6, by rw [rI_nk (by omega), oo 7 (by omega), r7 7 (by omega)]; exact q7, fun k hk => ?_, r5, r6, rfl⟩, rI_at rfl rfl, by rw [rI_nk (by omega), oo 8 (by omega), r7 8 (by omega)]; exact q8, by rw [rI_nk (by omega), oo 9 (by omega), r7 9 (by omega)]; exact q9, by rw [rI_nk (by omega), oo 10 (by omega), r7 10 (by omega)]; exact q10, (((fr5.mono (fun z q => ⟨by omega, by omega⟩)).trans (r8.mono (fun z q => by rcases q with q | q; exact ⟨by omega, by omega⟩; exact ⟨by omega, by omega⟩))).trans (f6.mono (fun z q => by rcases q with q | q; exact ⟨by omega, by omega⟩; exact ⟨by omega, by omega⟩))).trans (fr1.mono (fun z q => ⟨by have := q.1; omega, by have := q.2; omega⟩))⟩
  · have r1' : lX6_begin_29 (fun (M12 : Mem) => bd (fX6_addToken t (0 : Int32) (iI n) (0 : Int32) (0 : Int64) M12) fun vu13 M14 => nm (stI M14 t 1 (0 : Int32)) (fun M15 => some ((), M15))) φ t (iI n) φ (0 : Int32) (0 : Int32) M5 = some ((), stI M6 t 1 (iI 0)) := by
      refine Eq.trans r1 ?_
      have ad' : fX6_addToken t (0 : Int32) (iI n) (0 : Int32) (0 : Int64) M1 = some ((), M6) := ad
      show (bd (fX6_addToken t (0 : Int32) (iI n) (0 : Int32) (0 : Int64) M1) fun vu13 M14 => nm (stI M14 t 1 (0 : Int32)) (fun M15 => some ((), M15))) = _
      rw [ad']
      rfl
    rw [hM5] at r1'
    unfold fX6_begin
    exact r1'
  · obtain ⟨a, b, c, d⟩ := ta k hk
    exact ⟨by rw [rI_ng (by omega)]; exact a, by rw [rI_ng (by omega)]; exact b, fun z => by rw [rI_ng (by omega)]; exact c z, d⟩
end BG
