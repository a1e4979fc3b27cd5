/-! fractions without a common divisor -/
theorem tdiv_bd {a b : Int} (hb : 0 < b) {c : Int} (ha : -c ≤ a ∧ a ≤ c) : -c ≤ a.tdiv b ∧ a.tdiv b ≤ c := by
  by_cases h : 0 ≤ a
  · rw [Int.tdiv_eq_ediv_of_nonneg h]
    have h1 := Int.ediv_nonneg h (Int.le_of_lt hb)
    have h2 := Int.ediv_le_self b h
    omega
  · have e : a.tdiv b = -((-a).tdiv b) := by rw [Int.neg_tdiv, Int.neg_neg]
    rw [e, Int.tdiv_eq_ediv_of_nonneg (by omega)]
    have h1 := Int.ediv_nonneg (a := -a) (by omega) (Int.le_of_lt hb)
    have h2 := Int.ediv_le_self (a := -a) b (by omega)
    omega
theorem lI_div {a b : Int} (ha : -4000000000000000000 ≤ a ∧ a ≤ 4000000000000000000) (hb : 0 < b ∧ b ≤ 4000000000000000000) : lI a / lI b = lI (a.tdiv b) := by
  have h := tdiv_bd hb.1 ha
  rw [← Int64.toInt_inj, Int64.toInt_div, lI_int (by omega), lI_int (by omega), lI_int (by omega), Int.bmod_eq_of_le (by omega) (by omega)]
theorem l_rem {a b : Int} (ha : 0 ≤ a ∧ a ≤ 4000000000000000000) (hb : 0 < b ∧ b ≤ 4000000000000000000) : lI a - lI a / lI b * lI b = lI (a % b) := by
  rw [lI_div (by omega) hb, Int.tdiv_eq_ediv_of_nonneg ha.1, lI_mul, lI_sub, Int.emod_def, Int.mul_comm]
/-- the greatest common divisor -/
def sg (a b : Int) : Int := (Nat.gcd b.natAbs a.natAbs : Nat)
theorem sg_0 {a : Int} (h : 0 ≤ a) : sg a 0 = a := by
  unfold sg
  rw [show (0 : Int).natAbs = 0 from rfl, Nat.gcd_zero_left]
  omega
theorem sg_s {a b : Int} (ha : 0 ≤ a) (hb : 0 < b) : sg a b = sg b (a % b) := by
  unfold sg
  rw [Nat.gcd_rec]
  congr 2
  have h1 := Int.emod_nonneg a (by omega : b ≠ 0)
  have e : (a.natAbs % b.natAbs : Nat) = (a % b).natAbs := by
    have : ((a.natAbs % b.natAbs : Nat) : Int) = a % b := by
      rw [Int.natCast_emod, Int.natAbs_of_nonneg ha, Int.natAbs_of_nonneg (by omega)]
    omega
  exact e
theorem sg_pos {a b : Int} (hb : b ≠ 0) : 0 < sg a b := by
  unfold sg
  have := Nat.gcd_pos_of_pos_left (n := a.natAbs) (m := b.natAbs) (by omega)
  omega
theorem sg_le {a b : Int} (hb : b ≠ 0) : sg a b ≤ b.natAbs := by
  unfold sg
  have := Nat.gcd_le_left (n := a.natAbs) (m := b.natAbs) (by omega)
  omega
theorem sg_abs (a b : Int) : sg a.natAbs b.natAbs = sg a b := by
  unfold sg
  rw [Int.natAbs_natCast, Int.natAbs_natCast]
theorem rem_half {a b : Int} (hb : 0 < b) (hc : 0 < a % b) : 2 * (b % (a % b)) < b := by
  have h1 := Int.emod_lt_of_pos a hb
  have h2 := Int.emod_lt_of_pos b hc
  have h3 := Int.emod_def b (a % b)
  have h5 : 1 ≤ b / (a % b) := (Int.le_ediv_iff_mul_le hc).mpr (by omega)
  have h6 : a % b * 1 ≤ a % b * (b / (a % b)) := Int.mul_le_mul_of_nonneg_left h5 (Int.le_of_lt hc)
  omega
theorem c_gcd (M : Mem) (d : Nat) : ∀ (n : Nat) (a b x : Int), 0 ≤ a → a ≤ 4000000000000000000 → 0 ≤ b → b ≤ 4000000000000000000 → b < 2 ^ d → 0 ≤ x → x + 2 * d + 1 ≤ 100 → 2 * d + 1 ≤ n → lX10_commonDivisor_15 M n (lI a) (lI b) (iI x) = some (lI (sg a b)) := by
  induction d with
  | zero =>
    intro n a b x a0 a1 b0 b1 hb x0 x1 hn
    have : b = 0 := by omega
    rw [this, sg_0 a0]
    obtain ⟨n, rfl⟩ : ∃ k, n = k + 1 := ⟨n - 1, by omega⟩
    rw [lX10_commonDivisor_15_s]
    simp (disch := omega) only [iI_add, iI_sub, iI_mul, iI_neg, iI_nat, addm1, ixkI, ↓sbind, sbind, ↓bdS, bdS, ↓nm_eq, ↓jn_eq, iI_lt, iI_le, iI_eq, k_0, k_1, k_2, k_3, k_4, k_5, k_6, k_7, k_8, k_9, k_10, k_11, k_12, k_13, k_14, k_15, k_16, k_17, k_18, k_19, k_20, k_21, k_22, k_23, k_24, k_27, k_30, k_32, k_48, k_57, k_59, k_60, k_61, k_62, k_63, k_64, k_72, k_78, k_80, k_82, k_97, k_99, k_100, k_122, k_244, k_255, k_268, k_280, k_300, k_432, k_650, k_900, k_901, k_999, k_1700, k_2600, k_2601, k_2602, k_2603, k_2604, k_2610, k_2618, k_2682, k_2777, k_2844, k_2868, k_2880, k_3245, k_3250, k_9551, k_9999, k_65536, k_100000, k_999999, k_1000000, k_2147483647, lI_add, lI_sub, lI_mul, lI_neg, lI_lt, lI_le, lI_eq, iI_l, kl_0, kl_1, kl_2, kl_6, kl_9, kl_10, kl_32, kl_99, kl_999, kl_9999, kl_999999, lt_T, lt_F, le_T, le_F, eq_T, eq_F, ↓reduceIte, not_true_eq_false, not_false_eq_true, or_true, or_false, true_or, false_or, and_true, true_and, and_false, false_and]
  | succ d ih =>
    intro n a b x a0 a1 b0 b1 hb x0 x1 hn
    have hpow : (2 : Int) ^ (d + 1) = 2 * 2 ^ d := by rw [Int.pow_succ]; omega
    obtain ⟨n, rfl⟩ : ∃ k, n = k + 1 := ⟨n - 1, by omega⟩
    rw [lX10_commonDivisor_15_s]
    by_cases h0 : b = 0
    · rw [h0, sg_0 a0]
      simp (disch := omega) only [iI_add, iI_sub, iI_mul, iI_neg, iI_nat, addm1, ixkI, ↓sbind, sbind, ↓bdS, bdS, ↓nm_eq, ↓jn_eq, iI_lt, iI_le, iI_eq, k_0, k_1, k_2, k_3, k_4, k_5, k_6, k_7, k_8, k_9, k_10, k_11, k_12, k_13, k_14, k_15, k_16, k_17, k_18, k_19, k_20, k_21, k_22, k_23, k_24, k_27, k_30, k_32, k_48, k_57, k_59, k_60, k_61, k_62, k_63, k_64, k_72, k_78, k_80, k_82, k_97, k_99, k_100, k_122, k_244, k_255, k_268, k_280, k_300, k_432, k_650, k_900, k_901, k_999, k_1700, k_2600, k_2601, k_2602, k_2603, k_2604, k_2610, k_2618, k_2682, k_2777, k_2844, k_2868, k_2880, k_3245, k_3250, k_9551, k_9999, k_65536, k_100000, k_999999, k_1000000, k_2147483647, lI_add, lI_sub, lI_mul, lI_neg, lI_lt, lI_le, lI_eq, iI_l, kl_0, kl_1, kl_2, kl_6, kl_9, kl_10, kl_32, kl_99, kl_999, kl_9999, kl_999999, lt_T, lt_F, le_T, le_F, eq_T, eq_F, ↓reduceIte, not_true_eq_false, not_false_eq_true, or_true, or_false, true_or, false_or, and_true, true_and, and_false, false_and]
    · have hb0 : 0 < b := by omega
      have r1 := Int.emod_nonneg a h0
      have r2 := Int.emod_lt_of_pos a hb0
      have er := l_rem (a := a) (b := b) ⟨a0, a1⟩ ⟨hb0, b1⟩
      have key : lX10_commonDivisor_15 M n (lI b) (lI (a % b)) (iI (x + 1)) = some (lI (sg a b)) := by
        rw [sg_s a0 hb0]
        obtain ⟨n, rfl⟩ : ∃ k, n = k + 1 := ⟨n - 1, by omega⟩
        rw [lX10_commonDivisor_15_s]
        by_cases h1 : a % b = 0
        · rw [h1, sg_0 b0]
          simp (disch := omega) only [iI_add, iI_sub, iI_mul, iI_neg, iI_nat, addm1, ixkI, ↓sbind, sbind, ↓bdS, bdS, ↓nm_eq, ↓jn_eq, iI_lt, iI_le, iI_eq, k_0, k_1, k_2, k_3, k_4, k_5, k_6, k_7, k_8, k_9, k_10, k_11, k_12, k_13, k_14, k_15, k_16, k_17, k_18, k_19, k_20, k_21, k_22, k_23, k_24, k_27, k_30, k_32, k_48, k_57, k_59, k_60, k_61, k_62, k_63, k_64, k_72, k_78, k_80, k_82, k_97, k_99, k_100, k_122, k_244, k_255, k_268, k_280, k_300, k_432, k_650, k_900, k_901, k_999, k_1700, k_2600, k_2601, k_2602, k_2603, k_2604, k_2610, k_2618, k_2682, k_2777, k_2844, k_2868, k_2880, k_3245, k_3250, k_9551, k_9999, k_65536, k_100000, k_999999, k_1000000, k_2147483647, lI_add, lI_sub, lI_mul, lI_neg, lI_lt, lI_le, lI_eq, iI_l, kl_0, kl_1, kl_2, kl_6, kl_9, kl_10, kl_32, kl_99, kl_999, kl_9999, kl_999999, lt_T, lt_F, le_T, le_F, eq_T, eq_F, ↓reduceIte, not_true_eq_false, not_false_eq_true, or_true, or_false, true_or, false_or, and_true, true_and, and_false, false_and]
        · have hh := rem_half hb0 (a := a) (by omega)
          have er2 := l_rem (a := b) (b := a % b) ⟨b0, b1⟩ ⟨by omega, by omega⟩
          have q1 := Int.emod_nonneg b h1
          rw [sg_s b0 (by omega)]
          simp (disch := omega) only [iI_add, iI_sub, iI_mul, iI_neg, iI_nat, addm1, ixkI, ↓sbind, sbind, ↓bdS, bdS, ↓nm_eq, ↓jn_eq, iI_lt, iI_le, iI_eq, k_0, k_1, k_2, k_3, k_4, k_5, k_6, k_7, k_8, k_9, k_10, k_11, k_12, k_13, k_14, k_15, k_16, k_17, k_18, k_19, k_20, k_21, k_22, k_23, k_24, k_27, k_30, k_32, k_48, k_57, k_59, k_60, k_61, k_62, k_63, k_64, k_72, k_78, k_80, k_82, k_97, k_99, k_100, k_122, k_244, k_255, k_268, k_280, k_300, k_432, k_650, k_900, k_901, k_999, k_1700, k_2600, k_2601, k_2602, k_2603, k_2604, k_2610, k_2618, k_2682, k_2777, k_2844, k_2868, k_2880, k_3245, k_3250, k_9551, k_9999, k_65536, k_100000, k_999999, k_1000000, k_2147483647, lI_add, lI_sub, lI_mul, lI_neg, lI_lt, lI_le, lI_eq, iI_l, kl_0, kl_1, kl_2, kl_6, kl_9, kl_10, kl_32, kl_99, kl_999, kl_9999, kl_999999, lt_T, lt_F, le_T, le_F, eq_T, eq_F, ↓reduceIte, not_true_eq_false, not_false_eq_true, or_true, or_false, true_or, false_or, and_true, true_and, and_false, false_and, not_false_eq_true]
          simp only [nm_eq, lI_div (a := b) (b := a % b) (by omega) (by omega), lI_mul, lI_sub] at er2 ⊢
          rw [er2]
          exact ih n (a % b) (b % (a % b)) (x + 1 + 1) r1 (by omega) q1 (by omega) (by omega) (by omega) (by omega) (by omega)
      simp (disch := omega) only [iI_add, iI_sub, iI_mul, iI_neg, iI_nat, addm1, ixkI, ↓sbind, sbind, ↓bdS, bdS, ↓nm_eq, ↓jn_eq, iI_lt, iI_le, iI_eq, k_0, k_1, k_2, k_3, k_4, k_5, k_6, k_7, k_8, k_9, k_10, k_11, k_12, k_13, k_14, k_15, k_16, k_17, k_18, k_19, k_20, k_21, k_22, k_23, k_24, k_27, k_30, k_32, k_48, k_57, k_59, k_60, k_61, k_62, k_63, k_64, k_72, k_78, k_80, k_82, k_97, k_99, k_100, k_122, k_244, k_255, k_268, k_280, k_300, k_432, k_650, k_900, k_901, k_999, k_1700, k_2600, k_2601, k_2602, k_2603, k_2604, k_2610, k_2618, k_2682, k_2777, k_2844, k_2868, k_2880, k_3245, k_3250, k_9551, k_9999, k_65536, k_100000, k_999999, k_1000000, k_2147483647, lI_add, lI_sub, lI_mul, lI_neg, lI_lt, lI_le, lI_eq, iI_l, kl_0, kl_1, kl_2, kl_6, kl_9, kl_10, kl_32, kl_99, kl_999, kl_9999, kl_999999, lt_T, lt_F, le_T, le_F, eq_T, eq_F, ↓reduceIte, not_true_eq_false, not_false_eq_true, or_true, or_false, true_or, false_or, and_true, true_and, and_false, false_and, not_false_eq_true]
      simp only [nm_eq, lI_div (a := a) (b := b) (by omega) (by omega), lI_mul, lI_sub] at er ⊢
      rw [er]
      exact key
