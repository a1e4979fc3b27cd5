theorem m_gcd (K : Int64 → Option (Int32 × Mem)) (m : Nat) (p q : Int64) (M : Mem) (d : Nat) : ∀ (n : Nat) (a b : Int), 0 ≤ a → a ≤ 4000000000000000000 → 0 ≤ b → b ≤ 4000000000000000000 → b < 2 ^ d → 2 * d + 1 ≤ n → lX11_tellsBy_17 K m p q M n (lI a) (lI b) = K (lI (sg a b)) := by
  induction d with
  | zero =>
    intro n a b a0 a1 b0 b1 hb hn
    have : b = 0 := by omega
    rw [this, sg_0 a0]
    obtain ⟨n, rfl⟩ : ∃ k, n = k + 1 := ⟨n - 1, by omega⟩
    rw [lX11_tellsBy_17_s]
    simp (disch := omega) only [iI_add, iI_sub, iI_mul, iI_neg, iI_nat, addm1, ixkI, ↓sbind, sbind, ↓bdS, bdS, ↓nm_eq, ↓jn_eq, iI_lt, iI_le, iI_eq, k_0, k_1, k_2, k_3, k_4, k_5, k_6, k_7, k_8, k_9, k_10, k_11, k_12, k_13, k_14, k_15, k_16, k_17, k_18, k_19, k_20, k_21, k_22, k_23, k_24, k_27, k_30, k_32, k_48, k_57, k_59, k_60, k_61, k_62, k_63, k_64, k_72, k_78, k_80, k_82, k_97, k_99, k_100, k_122, k_244, k_255, k_268, k_280, k_300, k_432, k_650, k_900, k_901, k_999, k_1700, k_2600, k_2601, k_2602, k_2603, k_2604, k_2610, k_2618, k_2682, k_2777, k_2844, k_2868, k_2880, k_3245, k_3250, k_9551, k_9999, k_65536, k_100000, k_999999, k_1000000, k_2147483647, lI_add, lI_sub, lI_mul, lI_neg, lI_lt, lI_le, lI_eq, iI_l, kl_0, kl_1, kl_2, kl_6, kl_9, kl_10, kl_32, kl_99, kl_999, kl_9999, kl_999999, lt_T, lt_F, le_T, le_F, eq_T, eq_F, ↓reduceIte, not_true_eq_false, not_false_eq_true, or_true, or_false, true_or, false_or, and_true, true_and, and_false, false_and]
  | succ d ih =>
    intro n a b a0 a1 b0 b1 hb hn
    have hpow : (2 : Int) ^ (d + 1) = 2 * 2 ^ d := by rw [Int.pow_succ]; omega
    obtain ⟨n, rfl⟩ : ∃ k, n = k + 1 := ⟨n - 1, by omega⟩
    rw [lX11_tellsBy_17_s]
    by_cases h0 : b = 0
    · rw [h0, sg_0 a0]
      simp (disch := omega) only [iI_add, iI_sub, iI_mul, iI_neg, iI_nat, addm1, ixkI, ↓sbind, sbind, ↓bdS, bdS, ↓nm_eq, ↓jn_eq, iI_lt, iI_le, iI_eq, k_0, k_1, k_2, k_3, k_4, k_5, k_6, k_7, k_8, k_9, k_10, k_11, k_12, k_13, k_14, k_15, k_16, k_17, k_18, k_19, k_20, k_21, k_22, k_23, k_24, k_27, k_30, k_32, k_48, k_57, k_59, k_60, k_61, k_62, k_63, k_64, k_72, k_78, k_80, k_82, k_97, k_99, k_100, k_122, k_244, k_255, k_268, k_280, k_300, k_432, k_650, k_900, k_901, k_999, k_1700, k_2600, k_2601, k_2602, k_2603, k_2604, k_2610, k_2618, k_2682, k_2777, k_2844, k_2868, k_2880, k_3245, k_3250, k_9551, k_9999, k_65536, k_100000, k_999999, k_1000000, k_2147483647, lI_add, lI_sub, lI_mul, lI_neg, lI_lt, lI_le, lI_eq, iI_l, kl_0, kl_1, kl_2, kl_6, kl_9, kl_10, kl_32, kl_99, kl_999, kl_9999, kl_999999, lt_T, lt_F, le_T, le_F, eq_T, eq_F, ↓reduceIte, not_true_eq_false, not_false_eq_true, or_true, or_false, true_or, false_or, and_true, true_and, and_false, false_and]
    · have hb0 : 0 < b := by omega
      have r1 := Int.emod_nonneg a h0
      have r2 := Int.emod_lt_of_pos a hb0
      have er := l_rem (a := a) (b := b) ⟨a0, a1⟩ ⟨hb0, b1⟩
      have key : lX11_tellsBy_17 K m p q M n (lI b) (lI (a % b)) = K (lI (sg a b)) := by
        rw [sg_s a0 hb0]
        obtain ⟨n, rfl⟩ : ∃ k, n = k + 1 := ⟨n - 1, by omega⟩
        rw [lX11_tellsBy_17_s]
        by_cases h1 : a % b = 0
        · rw [h1, sg_0 b0]
          simp (disch := omega) only [iI_add, iI_sub, iI_mul, iI_neg, iI_nat, addm1, ixkI, ↓sbind, sbind, ↓bdS, bdS, ↓nm_eq, ↓jn_eq, iI_lt, iI_le, iI_eq, k_0, k_1, k_2, k_3, k_4, k_5, k_6, k_7, k_8, k_9, k_10, k_11, k_12, k_13, k_14, k_15, k_16, k_17, k_18, k_19, k_20, k_21, k_22, k_23, k_24, k_27, k_30, k_32, k_48, k_57, k_59, k_60, k_61, k_62, k_63, k_64, k_72, k_78, k_80, k_82, k_97, k_99, k_100, k_122, k_244, k_255, k_268, k_280, k_300, k_432, k_650, k_900, k_901, k_999, k_1700, k_2600, k_2601, k_2602, k_2603, k_2604, k_2610, k_2618, k_2682, k_2777, k_2844, k_2868, k_2880, k_3245, k_3250, k_9551, k_9999, k_65536, k_100000, k_999999, k_1000000, k_2147483647, lI_add, lI_sub, lI_mul, lI_neg, lI_lt, lI_le, lI_eq, iI_l, kl_0, kl_1, kl_2, kl_6, kl_9, kl_10, kl_32, kl_99, kl_999, kl_9999, kl_999999, lt_T, lt_F, le_T, le_F, eq_T, eq_F, ↓reduceIte, not_true_eq_false, not_false_eq_true, or_true, or_false, true_or, false_or, and_true, true_and, and_false, false_and]
        · have hh := rem_half hb0 (a := a) (by omega)
          have er2 := l_rem (a := b) (b := a % b) ⟨b0, b1⟩ ⟨by omega, by omega⟩
          have q1 := Int.emod_nonneg b h1
          rw [sg_s b0 (by omega)]
          simp (disch := omega) only [iI_add, iI_sub, iI_mul, iI_neg, iI_nat, addm1, ixkI, ↓sbind, sbind, ↓bdS, bdS, ↓nm_eq, ↓jn_eq, iI_lt, iI_le, iI_eq, k_0, k_1, k_2, k_3, k_4, k_5, k_6, k_7, k_8, k_9, k_10, k_11, k_12, k_13, k_14, k_15, k_16, k_17, k_18, k_19, k_20, k_21, k_22, k_23, k_24, k_27, k_30, k_32, k_48, k_57, k_59, k_60, k_61, k_62, k_63, k_64, k_72, k_78, k_80, k_82, k_97, k_99, k_100, k_122, k_244, k_255, k_268, k_280, k_300, k_432, k_650, k_900, k_901, k_999, k_1700, k_2600, k_2601, k_2602, k_2603, k_2604, k_2610, k_2618, k_2682, k_2777, k_2844, k_2868, k_2880, k_3245, k_3250, k_9551, k_9999, k_65536, k_100000, k_999999, k_1000000, k_2147483647, lI_add, lI_sub, lI_mul, lI_neg, lI_lt, lI_le, lI_eq, iI_l, kl_0, kl_1, kl_2, kl_6, kl_9, kl_10, kl_32, kl_99, kl_999, kl_9999, kl_999999, lt_T, lt_F, le_T, le_F, eq_T, eq_F, ↓reduceIte, not_true_eq_false, not_false_eq_true, or_true, or_false, true_or, false_or, and_true, true_and, and_false, false_and, not_false_eq_true]
          simp only [nm_eq, lI_div (a := b) (b := a % b) (by omega) (by omega), lI_mul, lI_sub] at er2 ⊢
          rw [er2]
          exact ih n (a % b) (b % (a % b)) r1 (by omega) q1 (by omega) (by omega) (by omega)
      simp (disch := omega) only [iI_add, iI_sub, iI_mul, iI_neg, iI_nat, addm1, ixkI, ↓sbind, sbind, ↓bdS, bdS, ↓nm_eq, ↓jn_eq, iI_lt, iI_le, iI_eq, k_0, k_1, k_2, k_3, k_4, k_5, k_6, k_7, k_8, k_9, k_10, k_11, k_12, k_13, k_14, k_15, k_16, k_17, k_18, k_19, k_20, k_21, k_22, k_23, k_24, k_27, k_30, k_32, k_48, k_57, k_59, k_60, k_61, k_62, k_63, k_64, k_72, k_78, k_80, k_82, k_97, k_99, k_100, k_122, k_244, k_255, k_268, k_280, k_300, k_432, k_650, k_900, k_901, k_999, k_1700, k_2600, k_2601, k_2602, k_2603, k_2604, k_2610, k_2618, k_2682, k_2777, k_2844, k_2868, k_2880, k_3245, k_3250, k_9551, k_9999, k_65536, k_100000, k_999999, k_1000000, k_2147483647, lI_add, lI_sub, lI_mul, lI_neg, lI_lt, lI_le, lI_eq, iI_l, kl_0, kl_1, kl_2, kl_6, kl_9, kl_10, kl_32, kl_99, kl_999, kl_9999, kl_999999, lt_T, lt_F, le_T, le_F, eq_T, eq_F, ↓reduceIte, not_true_eq_false, not_false_eq_true, or_true, or_false, true_or, false_or, and_true, true_and, and_false, false_and, not_false_eq_true]
      simp only [nm_eq, lI_div (a := a) (b := b) (by omega) (by omega), lI_mul, lI_sub] at er ⊢
      rw [er]
      exact key
/-- the fraction that is told -/
def fr (n d : Int) : Int × Int := (n.tdiv (sg n d), d.tdiv (sg n d))
abbrev Fq : Type := (Int × Int) ⊕ Int
def fC (c : Nat) (M : Mem) (r : Fq) : Option (Int32 × Mem) := match r with
  | .inl p => some (iI 1, stI (stL (stL M c 1 (lI p.1)) c 2 (lI p.2)) c 0 (iI 0))
  | .inr k => some (iI 0, stI M c 0 (iI k))
def fM (m : Nat) (M : Mem) (r : Fq) : Option (Int32 × Mem) := match r with
  | .inl p => some (iI 1, stI (stL (stL M m 3 (lI p.1)) m 4 (lI p.2)) m 2 (iI 0))
  | .inr k => some (iI 0, stI M m 2 (iI k))
def CF (c g : Nat) (F : Fld) (M : Mem) (f : Option (Int32 × Mem)) (r : Fq) : Prop := ∃ M1, QT c g F M M1 ∧ f = fC c M1 r
def mF (m : Nat) (M : Mem) (f : Option (Int32 × Mem)) (r : Fq) : Prop := ∃ M1, QM m M M1 ∧ f = fM m M1 r
theorem fr_sg {n b : Int} : (s_sg b * n.tdiv (sg n b), s_sg b * b.tdiv (sg n b)) = fr (s_sg b * n) (s_abs b) := by
  have hab : s_abs b = s_sg b * b := by
    unfold s_abs s_sg
    by_cases h : 0 ≤ b
    · rw [if_pos h, if_pos h, Int.one_mul]
    · rw [if_neg h, if_neg h]; omega
  have hg : sg (s_sg b * n) (s_abs b) = sg n b := by
    rw [hab]
    unfold sg s_sg
    by_cases h : 0 ≤ b
    · rw [if_pos h, Int.one_mul, Int.one_mul]
    · rw [if_neg h, show -1 * n = -n from by omega, show -1 * b = -b from by omega, Int.natAbs_neg, Int.natAbs_neg]
  unfold fr
  rw [hg, hab]
  unfold s_sg
  by_cases h : 0 ≤ b
  · rw [if_pos h, Int.one_mul, Int.one_mul, Int.one_mul, Int.one_mul]
  · rw [if_neg h, show -1 * n = -n from by omega, show -1 * b = -b from by omega, Int.neg_tdiv, Int.neg_tdiv]
    congr 1 <;> omega
section FR
variable {c m : Nat} {M : Mem}
theorem c_tell {n b : Int} (hn : -1000000000000000 ≤ n ∧ n ≤ 1000000000000000) (hb : -2097151 ≤ b ∧ b ≤ 2097151) (h0 : b ≠ 0) {φ : Nat} (hφ : 100 < φ) : fX10_tell φ c (lI n) (lI b) M = fC c M (.inl (fr (s_sg b * n) (s_abs b))) := by
  have gp := sg_pos (a := n) h0
  have gl := sg_le (a := n) h0
  have e1 : fX10_commonDivisor φ (lI n) (lI b) M = some (lI (sg n b)) := by
    have key := c_gcd M 21 φ n.natAbs b.natAbs 0 (by omega) (by omega) (by omega) (by omega) (by omega) (by omega) (by omega) (by omega)
    rw [sg_abs] at key
    unfold fX10_commonDivisor
    have z : (0 : Int64) = lI 0 := kl_0
    rw [z]
    have a1 : (if lI 0 < lI n then lI n else -lI n) = lI n.natAbs := by
      by_cases h : 0 < n
      · rw [if_pos (by rw [lI_lt (by omega) (by omega)]; exact h), show ((n.natAbs : Nat) : Int) = n from by omega]
      · rw [if_neg (by rw [lI_lt (by omega) (by omega)]; exact h), lI_neg, show ((n.natAbs : Nat) : Int) = -n from by omega]
    have a2 : (if lI 0 < lI b then lI b else -lI b) = lI b.natAbs := by
      by_cases h : 0 < b
      · rw [if_pos (by rw [lI_lt (by omega) (by omega)]; exact h), show ((b.natAbs : Nat) : Int) = b from by omega]
      · rw [if_neg (by rw [lI_lt (by omega) (by omega)]; exact h), lI_neg, show ((b.natAbs : Nat) : Int) = -b from by omega]
    rw [a1, a2]
    simp only [nm_eq, k_0]
    exact key
  unfold fX10_tell fX10_grant
  rw [e1, ← fr_sg]
  have d1 := lI_div (a := n) (b := sg n b) (by omega) (by omega)
  have d2 := lI_div (a := b) (b := sg n b) (by omega) (by omega)
  unfold s_sg fC
  by_cases h : 0 ≤ b
  · rw [if_pos h]
    simp (disch := omega) only [iI_add, iI_sub, iI_mul, iI_neg, iI_nat, addm1, ixkI, ↓sbind, sbind, ↓bdS, bdS, ↓nm_eq, ↓jn_eq, iI_lt, iI_le, iI_eq, k_0, k_1, k_2, k_3, k_4, k_5, k_6, k_7, k_8, k_9, k_10, k_11, k_12, k_13, k_14, k_15, k_16, k_17, k_18, k_19, k_20, k_21, k_22, k_23, k_24, k_27, k_30, k_32, k_48, k_57, k_59, k_60, k_61, k_62, k_63, k_64, k_72, k_78, k_80, k_82, k_97, k_99, k_100, k_122, k_244, k_255, k_268, k_280, k_300, k_432, k_650, k_900, k_901, k_999, k_1700, k_2600, k_2601, k_2602, k_2603, k_2604, k_2610, k_2618, k_2682, k_2777, k_2844, k_2868, k_2880, k_3245, k_3250, k_9551, k_9999, k_65536, k_100000, k_999999, k_1000000, k_2147483647, lI_add, lI_sub, lI_mul, lI_neg, lI_lt, lI_le, lI_eq, iI_l, kl_0, kl_1, kl_2, kl_6, kl_9, kl_10, kl_32, kl_99, kl_999, kl_9999, kl_999999, lt_T, lt_F, le_T, le_F, eq_T, eq_F, ↓reduceIte, not_true_eq_false, not_false_eq_true, or_true, or_false, true_or, false_or, and_true, true_and, and_false, false_and, d1, d2, i01_b, if_true]
  · rw [if_neg h]
    simp (disch := omega) only [iI_add, iI_sub, iI_mul, iI_neg, iI_nat, addm1, ixkI, ↓sbind, sbind, ↓bdS, bdS, ↓nm_eq, ↓jn_eq, iI_lt, iI_le, iI_eq, k_0, k_1, k_2, k_3, k_4, k_5, k_6, k_7, k_8, k_9, k_10, k_11, k_12, k_13, k_14, k_15, k_16, k_17, k_18, k_19, k_20, k_21, k_22, k_23, k_24, k_27, k_30, k_32, k_48, k_57, k_59, k_60, k_61, k_62, k_63, k_64, k_72, k_78, k_80, k_82, k_97, k_99, k_100, k_122, k_244, k_255, k_268, k_280, k_300, k_432, k_650, k_900, k_901, k_999, k_1700, k_2600, k_2601, k_2602, k_2603, k_2604, k_2610, k_2618, k_2682, k_2777, k_2844, k_2868, k_2880, k_3245, k_3250, k_9551, k_9999, k_65536, k_100000, k_999999, k_1000000, k_2147483647, lI_add, lI_sub, lI_mul, lI_neg, lI_lt, lI_le, lI_eq, iI_l, kl_0, kl_1, kl_2, kl_6, kl_9, kl_10, kl_32, kl_99, kl_999, kl_9999, kl_999999, lt_T, lt_F, le_T, le_F, eq_T, eq_F, ↓reduceIte, not_true_eq_false, not_false_eq_true, or_true, or_false, true_or, false_or, and_true, true_and, and_false, false_and, d1, d2, i01_b, if_true]
theorem m_tellsBy {n b : Int} (hn : -1000000000000000 ≤ n ∧ n ≤ 1000000000000000) (hb : 0 < b ∧ b ≤ 2097151) {φ : Nat} (hφ : 100 < φ) : fX11_tellsBy φ m (lI n) (lI b) M = fM m M (.inl (fr n b)) := by
  have h0 : b ≠ 0 := by omega
  have gp := sg_pos (a := n) h0
  have gl := sg_le (a := n) h0
  have eb : ((b.natAbs : Nat) : Int) = b := by omega
  have key := fun K p q => m_gcd K m p q M 21 φ n.natAbs b (by omega) (by omega) (by omega) (by omega) (by omega) (by omega)
  have es : sg n.natAbs b = sg n b := by rw [← eb, sg_abs, eb]
  have d1 := lI_div (a := n) (b := sg n b) (by omega) (by omega)
  have d2 := lI_div (a := b) (b := sg n b) (by omega) (by omega)
  unfold fX11_tellsBy fX11_is fM fr
  by_cases h : 0 ≤ n
  · rw [show ((n.natAbs : Nat) : Int) = n from by omega] at key
    simp (disch := omega) only [iI_add, iI_sub, iI_mul, iI_neg, iI_nat, addm1, ixkI, ↓sbind, sbind, ↓bdS, bdS, ↓nm_eq, ↓jn_eq, iI_lt, iI_le, iI_eq, k_0, k_1, k_2, k_3, k_4, k_5, k_6, k_7, k_8, k_9, k_10, k_11, k_12, k_13, k_14, k_15, k_16, k_17, k_18, k_19, k_20, k_21, k_22, k_23, k_24, k_27, k_30, k_32, k_48, k_57, k_59, k_60, k_61, k_62, k_63, k_64, k_72, k_78, k_80, k_82, k_97, k_99, k_100, k_122, k_244, k_255, k_268, k_280, k_300, k_432, k_650, k_900, k_901, k_999, k_1700, k_2600, k_2601, k_2602, k_2603, k_2604, k_2610, k_2618, k_2682, k_2777, k_2844, k_2868, k_2880, k_3245, k_3250, k_9551, k_9999, k_65536, k_100000, k_999999, k_1000000, k_2147483647, lI_add, lI_sub, lI_mul, lI_neg, lI_lt, lI_le, lI_eq, iI_l, kl_0, kl_1, kl_2, kl_6, kl_9, kl_10, kl_32, kl_99, kl_999, kl_9999, kl_999999, lt_T, lt_F, le_T, le_F, eq_T, eq_F, ↓reduceIte, not_true_eq_false, not_false_eq_true, or_true, or_false, true_or, false_or, and_true, true_and, and_false, false_and, key, d1, d2, i01_b, if_true, not_false_eq_true]
  · rw [es] at key
    rw [show ((n.natAbs : Nat) : Int) = -n from by omega] at key
    simp (disch := omega) only [iI_add, iI_sub, iI_mul, iI_neg, iI_nat, addm1, ixkI, ↓sbind, sbind, ↓bdS, bdS, ↓nm_eq, ↓jn_eq, iI_lt, iI_le, iI_eq, k_0, k_1, k_2, k_3, k_4, k_5, k_6, k_7, k_8, k_9, k_10, k_11, k_12, k_13, k_14, k_15, k_16, k_17, k_18, k_19, k_20, k_21, k_22, k_23, k_24, k_27, k_30, k_32, k_48, k_57, k_59, k_60, k_61, k_62, k_63, k_64, k_72, k_78, k_80, k_82, k_97, k_99, k_100, k_122, k_244, k_255, k_268, k_280, k_300, k_432, k_650, k_900, k_901, k_999, k_1700, k_2600, k_2601, k_2602, k_2603, k_2604, k_2610, k_2618, k_2682, k_2777, k_2844, k_2868, k_2880, k_3245, k_3250, k_9551, k_9999, k_65536, k_100000, k_999999, k_1000000, k_2147483647, lI_add, lI_sub, lI_mul, lI_neg, lI_lt, lI_le, lI_eq, iI_l, kl_0, kl_1, kl_2, kl_6, kl_9, kl_10, kl_32, kl_99, kl_999, kl_9999, kl_999999, lt_T, lt_F, le_T, le_F, eq_T, eq_F, ↓reduceIte, not_true_eq_false, not_false_eq_true, or_true, or_false, true_or, false_or, and_true, true_and, and_false, false_and, key, d1, d2, i01_b, if_true, not_false_eq_true]
end FR
/-! what is told by fractions -/
def q_area (F : Fld) (t : Int) : Fq := if 0 ≤ t ∧ t < F 0 2 0 then .inl (fr (s_abs (s_turn F t)) 2) else .inr 1
def s_tops (F : Fld) (b t x y : Int) : Int := sm (fun k => s_wt F t k x y * s_depth F (F 6 t k) (s_fst F b (F 6 t k))) 3
def s_thks (F : Fld) (b t x y : Int) : Int := sm (fun k => s_wt F t k x y * s_thk F b (F 6 t k)) 3
def q_topAt (F : Fld) (b x y : Int) : Fq := if (0 ≤ b ∧ b < bN F) ∧ (0 ≤ x ∧ x ≤ 999) ∧ 0 ≤ y ∧ y ≤ 999 then (if s_tri F x y = -1 then .inr 6 else if s_all F b (s_tri F x y) then .inl (fr (s_sg (s_turn F (s_tri F x y)) * s_tops F b (s_tri F x y) x y) (s_abs (s_turn F (s_tri F x y)))) else .inr 7) else .inr 1
def q_thickAt (F : Fld) (b x y : Int) : Fq := if (0 ≤ b ∧ b < bN F) ∧ (0 ≤ x ∧ x ≤ 999) ∧ 0 ≤ y ∧ y ≤ 999 then (if s_tri F x y = -1 then .inr 6 else .inl (fr (s_sg (s_turn F (s_tri F x y)) * s_thks F b (s_tri F x y) x y) (s_abs (s_turn F (s_tri F x y))))) else .inr 1
def q_volume (F : Fld) (b t : Int) : Fq := if (0 ≤ b ∧ b < bN F) ∧ 0 ≤ t ∧ t < F 0 2 0 then (if s_split F t then .inr 7 else .inl (fr (s_six F b t) 6)) else .inr 1
def s_vols (F : Fld) (b : Int) : Int := sm (fun t => if s_split F t then 0 else s_six F b t) (F 0 2 0)
def q_volumeOf (F : Fld) (b : Int) : Fq := if 0 ≤ b ∧ b < bN F then .inl (fr (s_vols F b) 6) else .inr 1
def s_dc (F : Fld) (b t k : Int) : Int := s_depth F (F 6 t k) (s_fst F b (F 6 t k))
def s_grow (F : Fld) (b t x : Int) : Int := if x = 0 then (s_dc F b t 1 - s_dc F b t 0) * (F 3 (F 6 t 2) 1 - F 3 (F 6 t 0) 1) - (s_dc F b t 2 - s_dc F b t 0) * (F 3 (F 6 t 1) 1 - F 3 (F 6 t 0) 1) else (s_dc F b t 2 - s_dc F b t 0) * (F 3 (F 6 t 1) 0 - F 3 (F 6 t 0) 0) - (s_dc F b t 1 - s_dc F b t 0) * (F 3 (F 6 t 2) 0 - F 3 (F 6 t 0) 0)
def q_tilt (F : Fld) (b t x : Int) : Fq := if (0 ≤ b ∧ b < bN F) ∧ (0 ≤ t ∧ t < F 0 2 0) ∧ 0 ≤ x ∧ x ≤ 1 then (if s_split F t = false ∧ s_all F b t = true then .inl (fr (s_sg (s_turn F t) * s_grow F b t x) (s_abs (s_turn F t))) else .inr 7) else .inr 1
