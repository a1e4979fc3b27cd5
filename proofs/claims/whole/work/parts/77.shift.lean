/-! shift and likest -/
section SH
variable {m g : Nat} {F : Fld} {T : TS} {M : Mem}
theorem c_best (w : WF F) (h : TC1 T M) {t : Nat} {a n b : Int} (U : UR t F b M) (L : LG T a n) (hb : 0 ≤ b ∧ b < F 0 1 0) {φ : Nat} (hφ : 1000 ≤ φ) {s x s1 x1 : Int} {k : Nat} {r : Int} (hs : 1 ≤ s ∧ s ≤ 20) (hx : -20 ≤ x ∧ x ≤ 20) (hx1 : x1 = if s_ag T a n F b (-s) ≤ s_ag T a n F b x then x else -s) (hs1 : s1 = if s_ag T a n F b s ≤ s_ag T a n F b x1 then x1 else s) (ih : lX4_bestShift_14 φ t (78 + 2 * a.toNat) (iI n) M k (iI s1) (iI (s_ag T a n F b s1)) (iI (s + 1)) = some (iI r)) : lX4_bestShift_14 φ t (78 + 2 * a.toNat) (iI n) M (k + 1) (iI x) (iI (s_ag T a n F b x)) (iI s) = some (iI r) := by
  have b1 := s_ag_bd T a F b x (n := n) (by omega) (i := n) (by omega)
  have b2 := s_ag_bd T a F b s (n := n) (by omega) (i := n) (by omega)
  have b3 := s_ag_bd T a F b (-s) (n := n) (by omega) (i := n) (by omega)
  have e1 := c_alike w h U L hb (sh := -s) (by omega) hφ
  have e2 := c_alike w h U L hb (sh := s) (by omega) hφ
  change 0 ≤ s_ag T a n F b x ∧ s_ag T a n F b x ≤ 60 at b1
  change 0 ≤ s_ag T a n F b s ∧ s_ag T a n F b s ≤ 60 at b2
  change 0 ≤ s_ag T a n F b (-s) ∧ s_ag T a n F b (-s) ≤ 60 at b3
  rw [lX4_bestShift_14]
  by_cases h1 : s_ag T a n F b (-s) ≤ s_ag T a n F b x
  · rw [if_pos h1] at hx1
    subst hx1
    by_cases h2 : s_ag T a n F b s ≤ s_ag T a n F b x1
    · rw [if_pos h2] at hs1
      subst hs1
      simp (disch := omega) only [iI_add, iI_sub, iI_mul, iI_neg, iI_nat, addm1, ixkI, ↓sbind, sbind, ↓bdS, bdS, ↓nm_eq, ↓jn_eq, iI_lt, iI_le, iI_eq, k_0, k_1, k_2, k_3, k_4, k_5, k_6, k_7, k_8, k_9, k_10, k_11, k_12, k_13, k_14, k_15, k_16, k_17, k_18, k_19, k_20, k_21, k_22, k_23, k_24, k_27, k_30, k_32, k_48, k_57, k_59, k_60, k_61, k_62, k_63, k_64, k_72, k_78, k_80, k_82, k_97, k_99, k_100, k_122, k_244, k_255, k_268, k_280, k_300, k_432, k_650, k_900, k_901, k_999, k_1700, k_2600, k_2601, k_2602, k_2603, k_2604, k_2610, k_2618, k_2682, k_2777, k_2844, k_2868, k_2880, k_3245, k_3250, k_9551, k_9999, k_65536, k_100000, k_999999, k_1000000, k_2147483647, lt_T, lt_F, le_T, le_F, eq_T, eq_F, ↓reduceIte, not_true_eq_false, not_false_eq_true, or_true, or_false, true_or, false_or, and_true, true_and, and_false, false_and, e1, e2, ih]
    · rw [if_neg h2] at hs1
      subst hs1
      simp (disch := omega) only [iI_add, iI_sub, iI_mul, iI_neg, iI_nat, addm1, ixkI, ↓sbind, sbind, ↓bdS, bdS, ↓nm_eq, ↓jn_eq, iI_lt, iI_le, iI_eq, k_0, k_1, k_2, k_3, k_4, k_5, k_6, k_7, k_8, k_9, k_10, k_11, k_12, k_13, k_14, k_15, k_16, k_17, k_18, k_19, k_20, k_21, k_22, k_23, k_24, k_27, k_30, k_32, k_48, k_57, k_59, k_60, k_61, k_62, k_63, k_64, k_72, k_78, k_80, k_82, k_97, k_99, k_100, k_122, k_244, k_255, k_268, k_280, k_300, k_432, k_650, k_900, k_901, k_999, k_1700, k_2600, k_2601, k_2602, k_2603, k_2604, k_2610, k_2618, k_2682, k_2777, k_2844, k_2868, k_2880, k_3245, k_3250, k_9551, k_9999, k_65536, k_100000, k_999999, k_1000000, k_2147483647, lt_T, lt_F, le_T, le_F, eq_T, eq_F, ↓reduceIte, not_true_eq_false, not_false_eq_true, or_true, or_false, true_or, false_or, and_true, true_and, and_false, false_and, e1, e2, ih]
  · rw [if_neg h1] at hx1
    subst hx1
    by_cases h2 : s_ag T a n F b s ≤ s_ag T a n F b (-s)
    · rw [if_pos h2] at hs1
      subst hs1
      simp (disch := omega) only [iI_add, iI_sub, iI_mul, iI_neg, iI_nat, addm1, ixkI, ↓sbind, sbind, ↓bdS, bdS, ↓nm_eq, ↓jn_eq, iI_lt, iI_le, iI_eq, k_0, k_1, k_2, k_3, k_4, k_5, k_6, k_7, k_8, k_9, k_10, k_11, k_12, k_13, k_14, k_15, k_16, k_17, k_18, k_19, k_20, k_21, k_22, k_23, k_24, k_27, k_30, k_32, k_48, k_57, k_59, k_60, k_61, k_62, k_63, k_64, k_72, k_78, k_80, k_82, k_97, k_99, k_100, k_122, k_244, k_255, k_268, k_280, k_300, k_432, k_650, k_900, k_901, k_999, k_1700, k_2600, k_2601, k_2602, k_2603, k_2604, k_2610, k_2618, k_2682, k_2777, k_2844, k_2868, k_2880, k_3245, k_3250, k_9551, k_9999, k_65536, k_100000, k_999999, k_1000000, k_2147483647, lt_T, lt_F, le_T, le_F, eq_T, eq_F, ↓reduceIte, not_true_eq_false, not_false_eq_true, or_true, or_false, true_or, false_or, and_true, true_and, and_false, false_and, e1, e2, ih]
    · rw [if_neg h2] at hs1
      subst hs1
      simp (disch := omega) only [iI_add, iI_sub, iI_mul, iI_neg, iI_nat, addm1, ixkI, ↓sbind, sbind, ↓bdS, bdS, ↓nm_eq, ↓jn_eq, iI_lt, iI_le, iI_eq, k_0, k_1, k_2, k_3, k_4, k_5, k_6, k_7, k_8, k_9, k_10, k_11, k_12, k_13, k_14, k_15, k_16, k_17, k_18, k_19, k_20, k_21, k_22, k_23, k_24, k_27, k_30, k_32, k_48, k_57, k_59, k_60, k_61, k_62, k_63, k_64, k_72, k_78, k_80, k_82, k_97, k_99, k_100, k_122, k_244, k_255, k_268, k_280, k_300, k_432, k_650, k_900, k_901, k_999, k_1700, k_2600, k_2601, k_2602, k_2603, k_2604, k_2610, k_2618, k_2682, k_2777, k_2844, k_2868, k_2880, k_3245, k_3250, k_9551, k_9999, k_65536, k_100000, k_999999, k_1000000, k_2147483647, lt_T, lt_F, le_T, le_F, eq_T, eq_F, ↓reduceIte, not_true_eq_false, not_false_eq_true, or_true, or_false, true_or, false_or, and_true, true_and, and_false, false_and, e1, e2, ih]
theorem m_best1 (w : WF F) (G : MR m 0 F M) (h : TM1 m T M) (K : Int32 → Int32 → Option (Int32 × Mem)) (x4 : Int32) {a n b : Int} (L : LG T a n) (hb : 0 ≤ b ∧ b < F 0 1 0) {φ : Nat} (hφ : 1000 ≤ φ) {s x s1 x1 : Int} {k : Nat} (hs : 1 ≤ s ∧ s ≤ 20) (hx : -20 ≤ x ∧ x ≤ 20) (hx1 : x1 = if s_ag T a n F b (-s) ≤ s_ag T a n F b x then x else -s) (hs1 : s1 = if s_ag T a n F b s ≤ s_ag T a n F b x1 then x1 else s) : lX11_shift_78 K φ m (iI a) (iI n) (iI b) x4 (iI s) M (k + 3) (iI x) (iI (s_ag T a n F b x)) (iI (-1)) = K (iI s1) (iI (s_ag T a n F b s1)) := by
  have b1 := s_ag_bd T a F b x (n := n) (by omega) (i := n) (by omega)
  have b2 := s_ag_bd T a F b s (n := n) (by omega) (i := n) (by omega)
  have b3 := s_ag_bd T a F b (-s) (n := n) (by omega) (i := n) (by omega)
  have e1 := m_agreeing w G h L hb (sh := -s) (by omega) hφ
  have e2 := m_agreeing w G h L hb (sh := s) (by omega) hφ
  change 0 ≤ s_ag T a n F b x ∧ s_ag T a n F b x ≤ 60 at b1
  change 0 ≤ s_ag T a n F b s ∧ s_ag T a n F b s ≤ 60 at b2
  change 0 ≤ s_ag T a n F b (-s) ∧ s_ag T a n F b (-s) ≤ 60 at b3
  have m1 : iI (-1) * iI s = iI (-s) := by rw [iI_mul, show -1 * s = -s from by omega]
  have m2 : iI 1 * iI s = iI s := by rw [iI_mul, show 1 * s = s from by omega]
  have p1 : iI (-1) + iI 2 = iI 1 := by rw [iI_add]; rfl
  have p2 : iI 1 + iI 2 = iI 3 := by rw [iI_add]; rfl
  have last : ∀ y z : Int32, lX11_shift_78 K φ m (iI a) (iI n) (iI b) x4 (iI s) M (k + 1) y z (iI 3) = K y z := by
    intro y z
    rw [lX11_shift_78]
    simp (disch := omega) only [iI_add, iI_sub, iI_mul, iI_neg, iI_nat, addm1, ixkI, ↓sbind, sbind, ↓bdS, bdS, ↓nm_eq, ↓jn_eq, iI_lt, iI_le, iI_eq, k_0, k_1, k_2, k_3, k_4, k_5, k_6, k_7, k_8, k_9, k_10, k_11, k_12, k_13, k_14, k_15, k_16, k_17, k_18, k_19, k_20, k_21, k_22, k_23, k_24, k_27, k_30, k_32, k_48, k_57, k_59, k_60, k_61, k_62, k_63, k_64, k_72, k_78, k_80, k_82, k_97, k_99, k_100, k_122, k_244, k_255, k_268, k_280, k_300, k_432, k_650, k_900, k_901, k_999, k_1700, k_2600, k_2601, k_2602, k_2603, k_2604, k_2610, k_2618, k_2682, k_2777, k_2844, k_2868, k_2880, k_3245, k_3250, k_9551, k_9999, k_65536, k_100000, k_999999, k_1000000, k_2147483647, lt_T, lt_F, le_T, le_F, eq_T, eq_F, ↓reduceIte, not_true_eq_false, not_false_eq_true, or_true, or_false, true_or, false_or, and_true, true_and, and_false, false_and]
  have mid : ∀ y : Int, 0 ≤ s_ag T a n F b y ∧ s_ag T a n F b y ≤ 60 → ∀ z : Int, z = (if s_ag T a n F b s ≤ s_ag T a n F b y then y else s) → lX11_shift_78 K φ m (iI a) (iI n) (iI b) x4 (iI s) M (k + 2) (iI y) (iI (s_ag T a n F b y)) (iI 1) = K (iI z) (iI (s_ag T a n F b z)) := by
    intro y by1 z hz
    rw [lX11_shift_78, m2, k_2, p2]
    by_cases h2 : s_ag T a n F b s ≤ s_ag T a n F b y
    · rw [if_pos h2] at hz
      subst hz
      simp (disch := omega) only [iI_add, iI_sub, iI_mul, iI_neg, iI_nat, addm1, ixkI, ↓sbind, sbind, ↓bdS, bdS, ↓nm_eq, ↓jn_eq, iI_lt, iI_le, iI_eq, k_0, k_1, k_2, k_3, k_4, k_5, k_6, k_7, k_8, k_9, k_10, k_11, k_12, k_13, k_14, k_15, k_16, k_17, k_18, k_19, k_20, k_21, k_22, k_23, k_24, k_27, k_30, k_32, k_48, k_57, k_59, k_60, k_61, k_62, k_63, k_64, k_72, k_78, k_80, k_82, k_97, k_99, k_100, k_122, k_244, k_255, k_268, k_280, k_300, k_432, k_650, k_900, k_901, k_999, k_1700, k_2600, k_2601, k_2602, k_2603, k_2604, k_2610, k_2618, k_2682, k_2777, k_2844, k_2868, k_2880, k_3245, k_3250, k_9551, k_9999, k_65536, k_100000, k_999999, k_1000000, k_2147483647, lt_T, lt_F, le_T, le_F, eq_T, eq_F, ↓reduceIte, not_true_eq_false, not_false_eq_true, or_true, or_false, true_or, false_or, and_true, true_and, and_false, false_and, e2, last]
    · rw [if_neg h2] at hz
      subst hz
      simp (disch := omega) only [iI_add, iI_sub, iI_mul, iI_neg, iI_nat, addm1, ixkI, ↓sbind, sbind, ↓bdS, bdS, ↓nm_eq, ↓jn_eq, iI_lt, iI_le, iI_eq, k_0, k_1, k_2, k_3, k_4, k_5, k_6, k_7, k_8, k_9, k_10, k_11, k_12, k_13, k_14, k_15, k_16, k_17, k_18, k_19, k_20, k_21, k_22, k_23, k_24, k_27, k_30, k_32, k_48, k_57, k_59, k_60, k_61, k_62, k_63, k_64, k_72, k_78, k_80, k_82, k_97, k_99, k_100, k_122, k_244, k_255, k_268, k_280, k_300, k_432, k_650, k_900, k_901, k_999, k_1700, k_2600, k_2601, k_2602, k_2603, k_2604, k_2610, k_2618, k_2682, k_2777, k_2844, k_2868, k_2880, k_3245, k_3250, k_9551, k_9999, k_65536, k_100000, k_999999, k_1000000, k_2147483647, lt_T, lt_F, le_T, le_F, eq_T, eq_F, ↓reduceIte, not_true_eq_false, not_false_eq_true, or_true, or_false, true_or, false_or, and_true, true_and, and_false, false_and, e2, last]
  rw [lX11_shift_78, m1, k_2, p1]
  by_cases h1 : s_ag T a n F b (-s) ≤ s_ag T a n F b x
  · rw [if_pos h1] at hx1
    subst hx1
    simp (disch := omega) only [iI_add, iI_sub, iI_mul, iI_neg, iI_nat, addm1, ixkI, ↓sbind, sbind, ↓bdS, bdS, ↓nm_eq, ↓jn_eq, iI_lt, iI_le, iI_eq, k_0, k_1, k_2, k_3, k_4, k_5, k_6, k_7, k_8, k_9, k_10, k_11, k_12, k_13, k_14, k_15, k_16, k_17, k_18, k_19, k_20, k_21, k_22, k_23, k_24, k_27, k_30, k_32, k_48, k_57, k_59, k_60, k_61, k_62, k_63, k_64, k_72, k_78, k_80, k_82, k_97, k_99, k_100, k_122, k_244, k_255, k_268, k_280, k_300, k_432, k_650, k_900, k_901, k_999, k_1700, k_2600, k_2601, k_2602, k_2603, k_2604, k_2610, k_2618, k_2682, k_2777, k_2844, k_2868, k_2880, k_3245, k_3250, k_9551, k_9999, k_65536, k_100000, k_999999, k_1000000, k_2147483647, lt_T, lt_F, le_T, le_F, eq_T, eq_F, ↓reduceIte, not_true_eq_false, not_false_eq_true, or_true, or_false, true_or, false_or, and_true, true_and, and_false, false_and, e1, mid _ b1 s1 hs1]
  · rw [if_neg h1] at hx1
    subst hx1
    simp (disch := omega) only [iI_add, iI_sub, iI_mul, iI_neg, iI_nat, addm1, ixkI, ↓sbind, sbind, ↓bdS, bdS, ↓nm_eq, ↓jn_eq, iI_lt, iI_le, iI_eq, k_0, k_1, k_2, k_3, k_4, k_5, k_6, k_7, k_8, k_9, k_10, k_11, k_12, k_13, k_14, k_15, k_16, k_17, k_18, k_19, k_20, k_21, k_22, k_23, k_24, k_27, k_30, k_32, k_48, k_57, k_59, k_60, k_61, k_62, k_63, k_64, k_72, k_78, k_80, k_82, k_97, k_99, k_100, k_122, k_244, k_255, k_268, k_280, k_300, k_432, k_650, k_900, k_901, k_999, k_1700, k_2600, k_2601, k_2602, k_2603, k_2604, k_2610, k_2618, k_2682, k_2777, k_2844, k_2868, k_2880, k_3245, k_3250, k_9551, k_9999, k_65536, k_100000, k_999999, k_1000000, k_2147483647, lt_T, lt_F, le_T, le_F, eq_T, eq_F, ↓reduceIte, not_true_eq_false, not_false_eq_true, or_true, or_false, true_or, false_or, and_true, true_and, and_false, false_and, e1, mid _ b3 s1 hs1]
theorem s_best (w : WF F) {a n b : Int} (L : LG T a n) (hb : 0 ≤ b ∧ b < F 0 1 0) {φ : Nat} (hφ : 1000 ≤ φ) : ∀ (d : Nat) (s x : Int), 21 - s = d → 1 ≤ s → (-20 ≤ x ∧ x ≤ 20) → ∃ r : Int, (-20 ≤ r ∧ r ≤ 20) ∧ (∀ M t, TC1 T M → UR t F b M → ∀ k, d < k → lX4_bestShift_14 φ t (78 + 2 * a.toNat) (iI n) M k (iI x) (iI (s_ag T a n F b x)) (iI s) = some (iI r)) ∧ ∀ m M, MR m 0 F M → TM1 m T M → ∀ K x4 k, d < k → lX11_shift_68 K φ m (iI a) (iI n) (iI b) x4 M k (iI x) (iI (s_ag T a n F b x)) (iI s) = K (iI r) (iI (s_ag T a n F b r)) := by
  intro d
  induction d with
  | zero =>
    intro s x hd hs hx
    refine ⟨x, hx, fun M t h U k hk => ?_, fun m M G h K x4 k hk => ?_⟩
    · obtain ⟨k, rfl⟩ : ∃ q, k = q + 1 := ⟨k - 1, by omega⟩
      rw [lX4_bestShift_14]
      simp (disch := omega) only [iI_add, iI_sub, iI_mul, iI_neg, iI_nat, addm1, ixkI, ↓sbind, sbind, ↓bdS, bdS, ↓nm_eq, ↓jn_eq, iI_lt, iI_le, iI_eq, k_0, k_1, k_2, k_3, k_4, k_5, k_6, k_7, k_8, k_9, k_10, k_11, k_12, k_13, k_14, k_15, k_16, k_17, k_18, k_19, k_20, k_21, k_22, k_23, k_24, k_27, k_30, k_32, k_48, k_57, k_59, k_60, k_61, k_62, k_63, k_64, k_72, k_78, k_80, k_82, k_97, k_99, k_100, k_122, k_244, k_255, k_268, k_280, k_300, k_432, k_650, k_900, k_901, k_999, k_1700, k_2600, k_2601, k_2602, k_2603, k_2604, k_2610, k_2618, k_2682, k_2777, k_2844, k_2868, k_2880, k_3245, k_3250, k_9551, k_9999, k_65536, k_100000, k_999999, k_1000000, k_2147483647, lt_T, lt_F, le_T, le_F, eq_T, eq_F, ↓reduceIte, not_true_eq_false, not_false_eq_true, or_true, or_false, true_or, false_or, and_true, true_and, and_false, false_and]
    · obtain ⟨k, rfl⟩ : ∃ q, k = q + 1 := ⟨k - 1, by omega⟩
      rw [lX11_shift_68]
      simp (disch := omega) only [iI_add, iI_sub, iI_mul, iI_neg, iI_nat, addm1, ixkI, ↓sbind, sbind, ↓bdS, bdS, ↓nm_eq, ↓jn_eq, iI_lt, iI_le, iI_eq, k_0, k_1, k_2, k_3, k_4, k_5, k_6, k_7, k_8, k_9, k_10, k_11, k_12, k_13, k_14, k_15, k_16, k_17, k_18, k_19, k_20, k_21, k_22, k_23, k_24, k_27, k_30, k_32, k_48, k_57, k_59, k_60, k_61, k_62, k_63, k_64, k_72, k_78, k_80, k_82, k_97, k_99, k_100, k_122, k_244, k_255, k_268, k_280, k_300, k_432, k_650, k_900, k_901, k_999, k_1700, k_2600, k_2601, k_2602, k_2603, k_2604, k_2610, k_2618, k_2682, k_2777, k_2844, k_2868, k_2880, k_3245, k_3250, k_9551, k_9999, k_65536, k_100000, k_999999, k_1000000, k_2147483647, lt_T, lt_F, le_T, le_F, eq_T, eq_F, ↓reduceIte, not_true_eq_false, not_false_eq_true, or_true, or_false, true_or, false_or, and_true, true_and, and_false, false_and]
  | succ d ih =>
    intro s x hd hs hx
    obtain ⟨x1, hx1⟩ : ∃ x1, x1 = if s_ag T a n F b (-s) ≤ s_ag T a n F b x then x else -s := ⟨_, rfl⟩
    obtain ⟨s1, hs1⟩ : ∃ s1, s1 = if s_ag T a n F b s ≤ s_ag T a n F b x1 then x1 else s := ⟨_, rfl⟩
    have r1 : -20 ≤ x1 ∧ x1 ≤ 20 := by
      rw [hx1]; split <;> omega
    have r2 : -20 ≤ s1 ∧ s1 ≤ 20 := by
      rw [hs1]; split <;> omega
    obtain ⟨r, hr, i1, i2⟩ := ih (s + 1) s1 (by omega) (by omega) r2
    refine ⟨r, hr, fun M t h U k hk => ?_, fun m M G h K x4 k hk => ?_⟩
    · obtain ⟨k, rfl⟩ : ∃ q, k = q + 1 := ⟨k - 1, by omega⟩
      exact c_best w h U L hb hφ ⟨hs, by omega⟩ hx hx1 hs1 (i1 M t h U k (by omega))
    · obtain ⟨k, rfl⟩ : ∃ q, k = q + 1 := ⟨k - 1, by omega⟩
      obtain ⟨φ, rfl⟩ : ∃ q, φ = q + 3 := ⟨φ - 3, by omega⟩
      have e := m_best1 w G h (fun (v10 : Int32) (v11 : Int32) => lX11_shift_68 K (φ + 3) m (iI a) (iI n) (iI b) x4 M k v10 v11 (iI (s + 1))) x4 L hb hφ (k := φ) ⟨hs, by omega⟩ hx hx1 hs1
      have e2 := i2 m M G h K x4 k (by omega)
      rw [lX11_shift_68]
      simp (disch := omega) only [iI_add, iI_sub, iI_mul, iI_neg, iI_nat, addm1, ixkI, ↓sbind, sbind, ↓bdS, bdS, ↓nm_eq, ↓jn_eq, iI_lt, iI_le, iI_eq, k_0, k_1, k_2, k_3, k_4, k_5, k_6, k_7, k_8, k_9, k_10, k_11, k_12, k_13, k_14, k_15, k_16, k_17, k_18, k_19, k_20, k_21, k_22, k_23, k_24, k_27, k_30, k_32, k_48, k_57, k_59, k_60, k_61, k_62, k_63, k_64, k_72, k_78, k_80, k_82, k_97, k_99, k_100, k_122, k_244, k_255, k_268, k_280, k_300, k_432, k_650, k_900, k_901, k_999, k_1700, k_2600, k_2601, k_2602, k_2603, k_2604, k_2610, k_2618, k_2682, k_2777, k_2844, k_2868, k_2880, k_3245, k_3250, k_9551, k_9999, k_65536, k_100000, k_999999, k_1000000, k_2147483647, lt_T, lt_F, le_T, le_F, eq_T, eq_F, ↓reduceIte, not_true_eq_false, not_false_eq_true, or_true, or_false, true_or, false_or, and_true, true_and, and_false, false_and, e, e2]
theorem tq_shift (w : WF F) (wT : WT T) {a n h o : Int} (ha : -2147483648 ≤ a ∧ a < 2147483648) (hn : -2147483648 ≤ n ∧ n < 2147483648) (hh : -2147483648 ≤ h ∧ h < 2147483648) (hq : -2147483648 ≤ o ∧ o < 2147483648) {φ : Nat} (hφ : 20000 ≤ φ) : ∃ q : Int × Int, (∀ g M, (g + 13 < 57 ∨ 86 ≤ g) → CI 0 g F M → TC1 T M → ∃ M1, Fr (Rg 73 73) M M1 ∧ fX10_shift φ 0 (iI a) (iI n) (iI h) (iI o) M = some (iI q.1, stI M1 0 0 (iI q.2))) ∧ ∀ m M, MR m 0 F M → TM1 m T M → fX11_shift φ m (iI a) (iI n) (iI h) (iI o) M = some (iI q.1, stI M m 2 (iI q.2)) := by
  have h0 := w.n0
  by_cases h1 : 0 ≤ h ∧ h < F 0 1 0
  · by_cases h3 : 0 ≤ o ∧ o ≤ 1
    · by_cases h2 : l_st T a n (F 0 0 0 - 1) = 0
      · have L := l_st_LG w h2
        have La := L.1
        obtain ⟨r, hr, i1, i2⟩ := s_best w L h1 (φ := φ) (by omega) 20 1 0 (by omega) (by omega) (by omega)
        refine ⟨(if o = 0 then r else s_ag T a n F h r, 0), fun g M hx I hT => ?_, fun m M G hT => ?_⟩
        · obtain ⟨hg, ho, hd, w, G, hB⟩ := I
          have e1 := c_isHole w G hh
          have e2 := c_logStatus wT hT (hi := F 0 0 0 - 1) ha hn (by omega) (φ := φ) (by omega)
          have e3 := G.n0
          rw [h2] at e2
          rw [s_in_t h1] at e1
          obtain ⟨M1, r1, r2, r3⟩ := c_unfold w G (0 + 71) h1 (by omega) hφ
          have hT1 : TC1 T M1 := hT.fr r3 (fun x a b q => by have := q.1; have := q.2; omega)
          have e4 := c_alike w hT1 r2 L h1 (sh := 0) (by omega) (φ := φ) (by omega)
          have e5 := c_alike w hT1 r2 L h1 (sh := r) (by omega) (φ := φ) (by omega)
          have e6 := i1 M1 (0 + 71) hT1 r2 φ (by omega)
          have e7 : fX4_bestShift φ (0 + 71) (78 + 2 * a.toNat) (iI n) M1 = some (iI r) := by
            unfold fX4_bestShift
            simp (disch := omega) only [iI_add, iI_sub, iI_mul, iI_neg, iI_nat, addm1, ixkI, ↓sbind, sbind, ↓bdS, bdS, ↓nm_eq, ↓jn_eq, iI_lt, iI_le, iI_eq, k_0, k_1, k_2, k_3, k_4, k_5, k_6, k_7, k_8, k_9, k_10, k_11, k_12, k_13, k_14, k_15, k_16, k_17, k_18, k_19, k_20, k_21, k_22, k_23, k_24, k_27, k_30, k_32, k_48, k_57, k_59, k_60, k_61, k_62, k_63, k_64, k_72, k_78, k_80, k_82, k_97, k_99, k_100, k_122, k_244, k_255, k_268, k_280, k_300, k_432, k_650, k_900, k_901, k_999, k_1700, k_2600, k_2601, k_2602, k_2603, k_2604, k_2610, k_2618, k_2682, k_2777, k_2844, k_2868, k_2880, k_3245, k_3250, k_9551, k_9999, k_65536, k_100000, k_999999, k_1000000, k_2147483647, lt_T, lt_F, le_T, le_F, eq_T, eq_F, ↓reduceIte, not_true_eq_false, not_false_eq_true, or_true, or_false, true_or, false_or, and_true, true_and, and_false, false_and, e4, e6]
          have e8 : fX10_isWithin (iI o) (iI 0) (iI 1) M = _ := c_isWithin hq (by omega) (by omega)
          rw [decide_eq_true h3] at e8
          refine ⟨M1, r3, ?_⟩
          unfold fX10_shift fX10_answer
          by_cases h4 : o = 0
          · rw [if_pos h4]
            rw [h4] at e8
            rw [h4]
            simp (disch := omega) only [iI_add, iI_sub, iI_mul, iI_neg, iI_nat, addm1, ixkI, ↓sbind, sbind, ↓bdS, bdS, ↓nm_eq, ↓jn_eq, iI_lt, iI_le, iI_eq, k_0, k_1, k_2, k_3, k_4, k_5, k_6, k_7, k_8, k_9, k_10, k_11, k_12, k_13, k_14, k_15, k_16, k_17, k_18, k_19, k_20, k_21, k_22, k_23, k_24, k_27, k_30, k_32, k_48, k_57, k_59, k_60, k_61, k_62, k_63, k_64, k_72, k_78, k_80, k_82, k_97, k_99, k_100, k_122, k_244, k_255, k_268, k_280, k_300, k_432, k_650, k_900, k_901, k_999, k_1700, k_2600, k_2601, k_2602, k_2603, k_2604, k_2610, k_2618, k_2682, k_2777, k_2844, k_2868, k_2880, k_3245, k_3250, k_9551, k_9999, k_65536, k_100000, k_999999, k_1000000, k_2147483647, lt_T, lt_F, le_T, le_F, eq_T, eq_F, ↓reduceIte, not_true_eq_false, not_false_eq_true, or_true, or_false, true_or, false_or, and_true, true_and, and_false, false_and, hg, ldr_ok ho, bI_t, srf_t, e1, e2, e3, e7, e8, r1]
          · rw [if_neg h4]
            simp (disch := omega) only [iI_add, iI_sub, iI_mul, iI_neg, iI_nat, addm1, ixkI, ↓sbind, sbind, ↓bdS, bdS, ↓nm_eq, ↓jn_eq, iI_lt, iI_le, iI_eq, k_0, k_1, k_2, k_3, k_4, k_5, k_6, k_7, k_8, k_9, k_10, k_11, k_12, k_13, k_14, k_15, k_16, k_17, k_18, k_19, k_20, k_21, k_22, k_23, k_24, k_27, k_30, k_32, k_48, k_57, k_59, k_60, k_61, k_62, k_63, k_64, k_72, k_78, k_80, k_82, k_97, k_99, k_100, k_122, k_244, k_255, k_268, k_280, k_300, k_432, k_650, k_900, k_901, k_999, k_1700, k_2600, k_2601, k_2602, k_2603, k_2604, k_2610, k_2618, k_2682, k_2777, k_2844, k_2868, k_2880, k_3245, k_3250, k_9551, k_9999, k_65536, k_100000, k_999999, k_1000000, k_2147483647, lt_T, lt_F, le_T, le_F, eq_T, eq_F, ↓reduceIte, not_true_eq_false, not_false_eq_true, or_true, or_false, true_or, false_or, and_true, true_and, and_false, false_and, hg, ldr_ok ho, bI_t, srf_t, e1, e2, e3, e5, e7, e8, r1]
        · have e1 := m_isHole w G hh
          have e2 := m_wrongLog wT hT (hi := F 0 0 0 - 1) ha hn (by omega) (φ := φ) (by omega)
          have e3 := G.c0
          rw [h2] at e2
          rw [s_in_t h1] at e1
          have e4 := m_agreeing w G hT L h1 (sh := 0) (by omega) (φ := φ) (by omega)
          have e5 := fun K x4 => i2 m M G hT K x4 φ (by omega)
          unfold fX11_shift fX11_gives
          by_cases h4 : o = 0
          · rw [if_pos h4]
            simp (disch := omega) only [iI_add, iI_sub, iI_mul, iI_neg, iI_nat, addm1, ixkI, ↓sbind, sbind, ↓bdS, bdS, ↓nm_eq, ↓jn_eq, iI_lt, iI_le, iI_eq, k_0, k_1, k_2, k_3, k_4, k_5, k_6, k_7, k_8, k_9, k_10, k_11, k_12, k_13, k_14, k_15, k_16, k_17, k_18, k_19, k_20, k_21, k_22, k_23, k_24, k_27, k_30, k_32, k_48, k_57, k_59, k_60, k_61, k_62, k_63, k_64, k_72, k_78, k_80, k_82, k_97, k_99, k_100, k_122, k_244, k_255, k_268, k_280, k_300, k_432, k_650, k_900, k_901, k_999, k_1700, k_2600, k_2601, k_2602, k_2603, k_2604, k_2610, k_2618, k_2682, k_2777, k_2844, k_2868, k_2880, k_3245, k_3250, k_9551, k_9999, k_65536, k_100000, k_999999, k_1000000, k_2147483647, lI_add, lI_sub, lI_mul, lI_neg, lI_lt, lI_le, lI_eq, iI_l, kl_0, kl_1, kl_2, kl_6, kl_9, kl_10, kl_32, kl_99, kl_999, kl_9999, kl_999999, lt_T, lt_F, le_T, le_F, eq_T, eq_F, ↓reduceIte, not_true_eq_false, not_false_eq_true, or_true, or_false, true_or, false_or, and_true, true_and, and_false, false_and, bI_t, e1, e2, e3, e4, e5]
          · rw [if_neg h4]
            by_cases h5 : o = 1
            · simp (disch := omega) only [iI_add, iI_sub, iI_mul, iI_neg, iI_nat, addm1, ixkI, ↓sbind, sbind, ↓bdS, bdS, ↓nm_eq, ↓jn_eq, iI_lt, iI_le, iI_eq, k_0, k_1, k_2, k_3, k_4, k_5, k_6, k_7, k_8, k_9, k_10, k_11, k_12, k_13, k_14, k_15, k_16, k_17, k_18, k_19, k_20, k_21, k_22, k_23, k_24, k_27, k_30, k_32, k_48, k_57, k_59, k_60, k_61, k_62, k_63, k_64, k_72, k_78, k_80, k_82, k_97, k_99, k_100, k_122, k_244, k_255, k_268, k_280, k_300, k_432, k_650, k_900, k_901, k_999, k_1700, k_2600, k_2601, k_2602, k_2603, k_2604, k_2610, k_2618, k_2682, k_2777, k_2844, k_2868, k_2880, k_3245, k_3250, k_9551, k_9999, k_65536, k_100000, k_999999, k_1000000, k_2147483647, lI_add, lI_sub, lI_mul, lI_neg, lI_lt, lI_le, lI_eq, iI_l, kl_0, kl_1, kl_2, kl_6, kl_9, kl_10, kl_32, kl_99, kl_999, kl_9999, kl_999999, lt_T, lt_F, le_T, le_F, eq_T, eq_F, ↓reduceIte, not_true_eq_false, not_false_eq_true, or_true, or_false, true_or, false_or, and_true, true_and, and_false, false_and, bI_t, e1, e2, e3, e4, e5]
            · omega
      · have pv := l_st_vals T a n (F 0 0 0 - 1)
        refine ⟨(-1, l_st T a n (F 0 0 0 - 1)), fun g M hx I hT => ⟨M, Fr.refl M, ?_⟩, fun m M G hT => ?_⟩
        · obtain ⟨hg, ho, hd, w, G, hB⟩ := I
          have e1 := c_isHole w G hh
          have e2 := c_logStatus wT hT (hi := F 0 0 0 - 1) ha hn (by omega) (φ := φ) (by omega)
          have e3 := G.n0
          rw [s_in_t h1] at e1
          have e8 : fX10_isWithin (iI o) (iI 0) (iI 1) M = _ := c_isWithin hq (by omega) (by omega)
          rw [decide_eq_true h3] at e8
          unfold fX10_shift fX10_refuse
          simp (disch := omega) only [iI_add, iI_sub, iI_mul, iI_neg, iI_nat, addm1, ixkI, ↓sbind, sbind, ↓bdS, bdS, ↓nm_eq, ↓jn_eq, iI_lt, iI_le, iI_eq, k_0, k_1, k_2, k_3, k_4, k_5, k_6, k_7, k_8, k_9, k_10, k_11, k_12, k_13, k_14, k_15, k_16, k_17, k_18, k_19, k_20, k_21, k_22, k_23, k_24, k_27, k_30, k_32, k_48, k_57, k_59, k_60, k_61, k_62, k_63, k_64, k_72, k_78, k_80, k_82, k_97, k_99, k_100, k_122, k_244, k_255, k_268, k_280, k_300, k_432, k_650, k_900, k_901, k_999, k_1700, k_2600, k_2601, k_2602, k_2603, k_2604, k_2610, k_2618, k_2682, k_2777, k_2844, k_2868, k_2880, k_3245, k_3250, k_9551, k_9999, k_65536, k_100000, k_999999, k_1000000, k_2147483647, lt_T, lt_F, le_T, le_F, eq_T, eq_F, ↓reduceIte, not_true_eq_false, not_false_eq_true, or_true, or_false, true_or, false_or, and_true, true_and, and_false, false_and, hg, ldr_ok ho, bI_t, srf_t, e1, e2, e3, e8]
        · have e1 := m_isHole w G hh
          have e2 := m_wrongLog wT hT (hi := F 0 0 0 - 1) ha hn (by omega) (φ := φ) (by omega)
          have e3 := G.c0
          rw [s_in_t h1] at e1
          unfold fX11_shift fX11_refuse
          by_cases h4 : o = 0
          · simp (disch := omega) only [iI_add, iI_sub, iI_mul, iI_neg, iI_nat, addm1, ixkI, ↓sbind, sbind, ↓bdS, bdS, ↓nm_eq, ↓jn_eq, iI_lt, iI_le, iI_eq, k_0, k_1, k_2, k_3, k_4, k_5, k_6, k_7, k_8, k_9, k_10, k_11, k_12, k_13, k_14, k_15, k_16, k_17, k_18, k_19, k_20, k_21, k_22, k_23, k_24, k_27, k_30, k_32, k_48, k_57, k_59, k_60, k_61, k_62, k_63, k_64, k_72, k_78, k_80, k_82, k_97, k_99, k_100, k_122, k_244, k_255, k_268, k_280, k_300, k_432, k_650, k_900, k_901, k_999, k_1700, k_2600, k_2601, k_2602, k_2603, k_2604, k_2610, k_2618, k_2682, k_2777, k_2844, k_2868, k_2880, k_3245, k_3250, k_9551, k_9999, k_65536, k_100000, k_999999, k_1000000, k_2147483647, lI_add, lI_sub, lI_mul, lI_neg, lI_lt, lI_le, lI_eq, iI_l, kl_0, kl_1, kl_2, kl_6, kl_9, kl_10, kl_32, kl_99, kl_999, kl_9999, kl_999999, lt_T, lt_F, le_T, le_F, eq_T, eq_F, ↓reduceIte, not_true_eq_false, not_false_eq_true, or_true, or_false, true_or, false_or, and_true, true_and, and_false, false_and, bI_t, e1, e2, e3]
          · by_cases h5 : o = 1
            · simp (disch := omega) only [iI_add, iI_sub, iI_mul, iI_neg, iI_nat, addm1, ixkI, ↓sbind, sbind, ↓bdS, bdS, ↓nm_eq, ↓jn_eq, iI_lt, iI_le, iI_eq, k_0, k_1, k_2, k_3, k_4, k_5, k_6, k_7, k_8, k_9, k_10, k_11, k_12, k_13, k_14, k_15, k_16, k_17, k_18, k_19, k_20, k_21, k_22, k_23, k_24, k_27, k_30, k_32, k_48, k_57, k_59, k_60, k_61, k_62, k_63, k_64, k_72, k_78, k_80, k_82, k_97, k_99, k_100, k_122, k_244, k_255, k_268, k_280, k_300, k_432, k_650, k_900, k_901, k_999, k_1700, k_2600, k_2601, k_2602, k_2603, k_2604, k_2610, k_2618, k_2682, k_2777, k_2844, k_2868, k_2880, k_3245, k_3250, k_9551, k_9999, k_65536, k_100000, k_999999, k_1000000, k_2147483647, lI_add, lI_sub, lI_mul, lI_neg, lI_lt, lI_le, lI_eq, iI_l, kl_0, kl_1, kl_2, kl_6, kl_9, kl_10, kl_32, kl_99, kl_999, kl_9999, kl_999999, lt_T, lt_F, le_T, le_F, eq_T, eq_F, ↓reduceIte, not_true_eq_false, not_false_eq_true, or_true, or_false, true_or, false_or, and_true, true_and, and_false, false_and, bI_t, e1, e2, e3]
            · omega
    · refine ⟨(-1, 1), fun g M hx I hT => ⟨M, Fr.refl M, ?_⟩, fun m M G hT => ?_⟩
      · obtain ⟨hg, ho, hd, w, G, hB⟩ := I
        have e1 := c_isHole w G hh
        rw [s_in_t h1] at e1
        have e8 : fX10_isWithin (iI o) (iI 0) (iI 1) M = _ := c_isWithin hq (by omega) (by omega)
        rw [decide_eq_false h3] at e8
        unfold fX10_shift fX10_refuse
        simp (disch := omega) only [iI_add, iI_sub, iI_mul, iI_neg, iI_nat, addm1, ixkI, ↓sbind, sbind, ↓bdS, bdS, ↓nm_eq, ↓jn_eq, iI_lt, iI_le, iI_eq, k_0, k_1, k_2, k_3, k_4, k_5, k_6, k_7, k_8, k_9, k_10, k_11, k_12, k_13, k_14, k_15, k_16, k_17, k_18, k_19, k_20, k_21, k_22, k_23, k_24, k_27, k_30, k_32, k_48, k_57, k_59, k_60, k_61, k_62, k_63, k_64, k_72, k_78, k_80, k_82, k_97, k_99, k_100, k_122, k_244, k_255, k_268, k_280, k_300, k_432, k_650, k_900, k_901, k_999, k_1700, k_2600, k_2601, k_2602, k_2603, k_2604, k_2610, k_2618, k_2682, k_2777, k_2844, k_2868, k_2880, k_3245, k_3250, k_9551, k_9999, k_65536, k_100000, k_999999, k_1000000, k_2147483647, lt_T, lt_F, le_T, le_F, eq_T, eq_F, ↓reduceIte, not_true_eq_false, not_false_eq_true, or_true, or_false, true_or, false_or, and_true, true_and, and_false, false_and, hg, ldr_ok ho, bI_t, bI_f, srf_t, e1, e8]
      · have e1 := m_isHole w G hh
        rw [s_in_t h1] at e1
        unfold fX11_shift fX11_refuse
        simp (disch := omega) only [iI_add, iI_sub, iI_mul, iI_neg, iI_nat, addm1, ixkI, ↓sbind, sbind, ↓bdS, bdS, ↓nm_eq, ↓jn_eq, iI_lt, iI_le, iI_eq, k_0, k_1, k_2, k_3, k_4, k_5, k_6, k_7, k_8, k_9, k_10, k_11, k_12, k_13, k_14, k_15, k_16, k_17, k_18, k_19, k_20, k_21, k_22, k_23, k_24, k_27, k_30, k_32, k_48, k_57, k_59, k_60, k_61, k_62, k_63, k_64, k_72, k_78, k_80, k_82, k_97, k_99, k_100, k_122, k_244, k_255, k_268, k_280, k_300, k_432, k_650, k_900, k_901, k_999, k_1700, k_2600, k_2601, k_2602, k_2603, k_2604, k_2610, k_2618, k_2682, k_2777, k_2844, k_2868, k_2880, k_3245, k_3250, k_9551, k_9999, k_65536, k_100000, k_999999, k_1000000, k_2147483647, lI_add, lI_sub, lI_mul, lI_neg, lI_lt, lI_le, lI_eq, iI_l, kl_0, kl_1, kl_2, kl_6, kl_9, kl_10, kl_32, kl_99, kl_999, kl_9999, kl_999999, lt_T, lt_F, le_T, le_F, eq_T, eq_F, ↓reduceIte, not_true_eq_false, not_false_eq_true, or_true, or_false, true_or, false_or, and_true, true_and, and_false, false_and, bI_t, e1]
  · refine ⟨(-1, 1), fun g M hx I hT => ⟨M, Fr.refl M, ?_⟩, fun m M G hT => ?_⟩
    · obtain ⟨hg, ho, hd, w, G, hB⟩ := I
      have e1 := c_isHole w G hh
      rw [s_in_f h1] at e1
      unfold fX10_shift fX10_refuse
      simp (disch := omega) only [iI_add, iI_sub, iI_mul, iI_neg, iI_nat, addm1, ixkI, ↓sbind, sbind, ↓bdS, bdS, ↓nm_eq, ↓jn_eq, iI_lt, iI_le, iI_eq, k_0, k_1, k_2, k_3, k_4, k_5, k_6, k_7, k_8, k_9, k_10, k_11, k_12, k_13, k_14, k_15, k_16, k_17, k_18, k_19, k_20, k_21, k_22, k_23, k_24, k_27, k_30, k_32, k_48, k_57, k_59, k_60, k_61, k_62, k_63, k_64, k_72, k_78, k_80, k_82, k_97, k_99, k_100, k_122, k_244, k_255, k_268, k_280, k_300, k_432, k_650, k_900, k_901, k_999, k_1700, k_2600, k_2601, k_2602, k_2603, k_2604, k_2610, k_2618, k_2682, k_2777, k_2844, k_2868, k_2880, k_3245, k_3250, k_9551, k_9999, k_65536, k_100000, k_999999, k_1000000, k_2147483647, lt_T, lt_F, le_T, le_F, eq_T, eq_F, ↓reduceIte, not_true_eq_false, not_false_eq_true, or_true, or_false, true_or, false_or, and_true, true_and, and_false, false_and, hg, ldr_ok ho, bI_t, bI_f, srf_t, e1]
    · have e1 := m_isHole w G hh
      rw [s_in_f h1] at e1
      unfold fX11_shift fX11_refuse
      simp (disch := omega) only [iI_add, iI_sub, iI_mul, iI_neg, iI_nat, addm1, ixkI, ↓sbind, sbind, ↓bdS, bdS, ↓nm_eq, ↓jn_eq, iI_lt, iI_le, iI_eq, k_0, k_1, k_2, k_3, k_4, k_5, k_6, k_7, k_8, k_9, k_10, k_11, k_12, k_13, k_14, k_15, k_16, k_17, k_18, k_19, k_20, k_21, k_22, k_23, k_24, k_27, k_30, k_32, k_48, k_57, k_59, k_60, k_61, k_62, k_63, k_64, k_72, k_78, k_80, k_82, k_97, k_99, k_100, k_122, k_244, k_255, k_268, k_280, k_300, k_432, k_650, k_900, k_901, k_999, k_1700, k_2600, k_2601, k_2602, k_2603, k_2604, k_2610, k_2618, k_2682, k_2777, k_2844, k_2868, k_2880, k_3245, k_3250, k_9551, k_9999, k_65536, k_100000, k_999999, k_1000000, k_2147483647, lI_add, lI_sub, lI_mul, lI_neg, lI_lt, lI_le, lI_eq, iI_l, kl_0, kl_1, kl_2, kl_6, kl_9, kl_10, kl_32, kl_99, kl_999, kl_9999, kl_999999, lt_T, lt_F, le_T, le_F, eq_T, eq_F, ↓reduceIte, not_true_eq_false, not_false_eq_true, or_true, or_false, true_or, false_or, and_true, true_and, and_false, false_and, bI_f, e1]
end SH
