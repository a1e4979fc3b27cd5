/-! likest and draws -/
section DR
variable {m g : Nat} {F : Fld} {T : TS} {M : Mem}
theorem like_l (w : WF F) {a n : Int} (L : LG T a n) {φ : Nat} (hφ : 20000 ≤ φ) : ∀ (d : Nat) (i x : Int), F 0 1 0 - i = d → 0 ≤ i → (-1 ≤ x ∧ (x < i)) → ∃ q : Int × Int, (∀ g M, (g + 13 < 57 ∨ 86 ≤ g) → isO 2 g → M.2.2 0 7 = some g → GR g F M → TC1 T M → ∀ k, d < k → ∃ M1, Fr (Rg 73 73) M M1 ∧ lX10_likest_35 φ 0 (iI a) (iI n) k (iI x) (iI (if x = -1 then -1 else s_ag T a n F x 0)) (iI i) M = some (iI q.1, stI M1 0 0 (iI q.2))) ∧ ∀ m M, MR m 0 F M → TM1 m T M → ∀ k, d < k → lX11_likest_32 φ m (iI a) (iI n) M k (iI x) (iI i) = some (iI q.1, stI M m 2 (iI q.2)) := by
  have h1 := w.n1
  have La := L.1
  intro d
  induction d with
  | zero =>
    intro i x hd hi hx
    refine ⟨(x, if x = -1 then 6 else 0), fun g M hg ho h7 G hT k hk => ⟨M, Fr.refl M, ?_⟩, fun m M G hT k hk => ?_⟩
    · obtain ⟨k, rfl⟩ : ∃ q, k = q + 1 := ⟨k - 1, by omega⟩
      have e1 := G.n1
      rw [lX10_likest_35]
      unfold fX10_answerOrNoSuch fX10_refuse fX10_answer
      by_cases hq : x = -1
      · rw [hq]
        simp (disch := omega) only [iI_add, iI_sub, iI_mul, iI_neg, iI_nat, addm1, ixkI, ↓sbind, sbind, ↓bdS, bdS, ↓nm_eq, ↓jn_eq, iI_lt, iI_le, iI_eq, k_0, k_1, k_2, k_3, k_4, k_5, k_6, k_7, k_8, k_9, k_10, k_11, k_12, k_13, k_14, k_15, k_16, k_17, k_18, k_19, k_20, k_21, k_22, k_23, k_24, k_27, k_30, k_32, k_48, k_57, k_59, k_60, k_61, k_62, k_63, k_64, k_72, k_78, k_80, k_82, k_97, k_99, k_100, k_122, k_244, k_255, k_268, k_280, k_300, k_432, k_650, k_900, k_901, k_999, k_1700, k_2600, k_2601, k_2602, k_2603, k_2604, k_2610, k_2618, k_2682, k_2777, k_2844, k_2868, k_2880, k_3245, k_3250, k_9551, k_9999, k_65536, k_100000, k_999999, k_1000000, k_2147483647, lt_T, lt_F, le_T, le_F, eq_T, eq_F, ↓reduceIte, not_true_eq_false, not_false_eq_true, or_true, or_false, true_or, false_or, and_true, true_and, and_false, false_and, h7, ldr_ok ho, e1]
      · rw [if_neg hq]
        simp (disch := omega) only [iI_add, iI_sub, iI_mul, iI_neg, iI_nat, addm1, ixkI, ↓sbind, sbind, ↓bdS, bdS, ↓nm_eq, ↓jn_eq, iI_lt, iI_le, iI_eq, k_0, k_1, k_2, k_3, k_4, k_5, k_6, k_7, k_8, k_9, k_10, k_11, k_12, k_13, k_14, k_15, k_16, k_17, k_18, k_19, k_20, k_21, k_22, k_23, k_24, k_27, k_30, k_32, k_48, k_57, k_59, k_60, k_61, k_62, k_63, k_64, k_72, k_78, k_80, k_82, k_97, k_99, k_100, k_122, k_244, k_255, k_268, k_280, k_300, k_432, k_650, k_900, k_901, k_999, k_1700, k_2600, k_2601, k_2602, k_2603, k_2604, k_2610, k_2618, k_2682, k_2777, k_2844, k_2868, k_2880, k_3245, k_3250, k_9551, k_9999, k_65536, k_100000, k_999999, k_1000000, k_2147483647, lt_T, lt_F, le_T, le_F, eq_T, eq_F, ↓reduceIte, not_true_eq_false, not_false_eq_true, or_true, or_false, true_or, false_or, and_true, true_and, and_false, false_and, h7, ldr_ok ho, e1]
    · obtain ⟨k, rfl⟩ : ∃ q, k = q + 1 := ⟨k - 1, by omega⟩
      have e1 := G.c1
      rw [lX11_likest_32]
      unfold fX11_orNone fX11_refuse fX11_gives
      by_cases hq : x = -1
      · rw [hq]
        simp (disch := omega) only [iI_add, iI_sub, iI_mul, iI_neg, iI_nat, addm1, ixkI, ↓sbind, sbind, ↓bdS, bdS, ↓nm_eq, ↓jn_eq, iI_lt, iI_le, iI_eq, k_0, k_1, k_2, k_3, k_4, k_5, k_6, k_7, k_8, k_9, k_10, k_11, k_12, k_13, k_14, k_15, k_16, k_17, k_18, k_19, k_20, k_21, k_22, k_23, k_24, k_27, k_30, k_32, k_48, k_57, k_59, k_60, k_61, k_62, k_63, k_64, k_72, k_78, k_80, k_82, k_97, k_99, k_100, k_122, k_244, k_255, k_268, k_280, k_300, k_432, k_650, k_900, k_901, k_999, k_1700, k_2600, k_2601, k_2602, k_2603, k_2604, k_2610, k_2618, k_2682, k_2777, k_2844, k_2868, k_2880, k_3245, k_3250, k_9551, k_9999, k_65536, k_100000, k_999999, k_1000000, k_2147483647, lt_T, lt_F, le_T, le_F, eq_T, eq_F, ↓reduceIte, not_true_eq_false, not_false_eq_true, or_true, or_false, true_or, false_or, and_true, true_and, and_false, false_and, e1]
      · rw [if_neg hq]
        simp (disch := omega) only [iI_add, iI_sub, iI_mul, iI_neg, iI_nat, addm1, ixkI, ↓sbind, sbind, ↓bdS, bdS, ↓nm_eq, ↓jn_eq, iI_lt, iI_le, iI_eq, k_0, k_1, k_2, k_3, k_4, k_5, k_6, k_7, k_8, k_9, k_10, k_11, k_12, k_13, k_14, k_15, k_16, k_17, k_18, k_19, k_20, k_21, k_22, k_23, k_24, k_27, k_30, k_32, k_48, k_57, k_59, k_60, k_61, k_62, k_63, k_64, k_72, k_78, k_80, k_82, k_97, k_99, k_100, k_122, k_244, k_255, k_268, k_280, k_300, k_432, k_650, k_900, k_901, k_999, k_1700, k_2600, k_2601, k_2602, k_2603, k_2604, k_2610, k_2618, k_2682, k_2777, k_2844, k_2868, k_2880, k_3245, k_3250, k_9551, k_9999, k_65536, k_100000, k_999999, k_1000000, k_2147483647, lt_T, lt_F, le_T, le_F, eq_T, eq_F, ↓reduceIte, not_true_eq_false, not_false_eq_true, or_true, or_false, true_or, false_or, and_true, true_and, and_false, false_and, e1]
  | succ d ih =>
    intro i x hd hi hx
    have hb : 0 ≤ i ∧ i < F 0 1 0 := by omega
    have b1 := s_ag_bd T a F i 0 (n := n) (by omega) (i := n) (by omega)
    have b2 := s_ag_bd T a F x 0 (n := n) (by omega) (i := n) (by omega)
    change 0 ≤ s_ag T a n F i 0 ∧ s_ag T a n F i 0 ≤ 60 at b1
    change 0 ≤ s_ag T a n F x 0 ∧ s_ag T a n F x 0 ≤ 60 at b2
    obtain ⟨y, hy⟩ : ∃ y, y = if x ≠ -1 ∧ s_ag T a n F i 0 ≤ s_ag T a n F x 0 then x else i := ⟨_, rfl⟩
    have hyr : -1 ≤ y ∧ y < i + 1 := by
      rw [hy]; split <;> omega
    obtain ⟨q, i1, i2⟩ := ih (i + 1) y (by omega) (by omega) hyr
    refine ⟨q, fun g M hg ho h7 G hT k hk => ?_, fun m M G hT k hk => ?_⟩
    · obtain ⟨k, rfl⟩ : ∃ q, k = q + 1 := ⟨k - 1, by omega⟩
      have e1 := G.n1
      obtain ⟨M1, r1, r2, r3⟩ := c_unfold w G (0 + 71) hb (by omega) hφ
      have hT1 : TC1 T M1 := hT.fr r3 (fun x a b q => by have := q.1; have := q.2; omega)
      have G1 : GR g F M1 := G.fr r3 (fun x a b q => by have := q.1; have := q.2; omega)
      have h71 : M1.2.2 0 7 = some g := by rw [(r3 0 (fun q => by have := q.1; omega)).2.2]; exact h7
      have e4 := c_alike w hT1 r2 L hb (sh := 0) (by omega) (φ := φ) (by omega)
      obtain ⟨M2, s1, s2⟩ := i1 g M1 hg ho h71 G1 hT1 k (by omega)
      refine ⟨M2, (r3.mono (fun x q => by have := q.1; have := q.2; exact ⟨by omega, by omega⟩)).trans s1, ?_⟩
      rw [lX10_likest_35]
      by_cases hq : x = -1
      · rw [if_neg (fun c => c.1 hq)] at hy
        subst hy
        rw [if_neg (by omega : ¬ y = -1)] at s2
        rw [hq, if_pos rfl]
        simp (disch := omega) only [iI_add, iI_sub, iI_mul, iI_neg, iI_nat, addm1, ixkI, ↓sbind, sbind, ↓bdS, bdS, ↓nm_eq, ↓jn_eq, iI_lt, iI_le, iI_eq, k_0, k_1, k_2, k_3, k_4, k_5, k_6, k_7, k_8, k_9, k_10, k_11, k_12, k_13, k_14, k_15, k_16, k_17, k_18, k_19, k_20, k_21, k_22, k_23, k_24, k_27, k_30, k_32, k_48, k_57, k_59, k_60, k_61, k_62, k_63, k_64, k_72, k_78, k_80, k_82, k_97, k_99, k_100, k_122, k_244, k_255, k_268, k_280, k_300, k_432, k_650, k_900, k_901, k_999, k_1700, k_2600, k_2601, k_2602, k_2603, k_2604, k_2610, k_2618, k_2682, k_2777, k_2844, k_2868, k_2880, k_3245, k_3250, k_9551, k_9999, k_65536, k_100000, k_999999, k_1000000, k_2147483647, lt_T, lt_F, le_T, le_F, eq_T, eq_F, ↓reduceIte, not_true_eq_false, not_false_eq_true, or_true, or_false, true_or, false_or, and_true, true_and, and_false, false_and, srf_t, h7, ldr_ok ho, e1, r1, e4, s2]
      · rw [if_neg hq]
        by_cases hc : s_ag T a n F i 0 ≤ s_ag T a n F x 0
        · rw [if_pos ⟨hq, hc⟩] at hy
          subst hy
          rw [if_neg hq] at s2
          simp (disch := omega) only [iI_add, iI_sub, iI_mul, iI_neg, iI_nat, addm1, ixkI, ↓sbind, sbind, ↓bdS, bdS, ↓nm_eq, ↓jn_eq, iI_lt, iI_le, iI_eq, k_0, k_1, k_2, k_3, k_4, k_5, k_6, k_7, k_8, k_9, k_10, k_11, k_12, k_13, k_14, k_15, k_16, k_17, k_18, k_19, k_20, k_21, k_22, k_23, k_24, k_27, k_30, k_32, k_48, k_57, k_59, k_60, k_61, k_62, k_63, k_64, k_72, k_78, k_80, k_82, k_97, k_99, k_100, k_122, k_244, k_255, k_268, k_280, k_300, k_432, k_650, k_900, k_901, k_999, k_1700, k_2600, k_2601, k_2602, k_2603, k_2604, k_2610, k_2618, k_2682, k_2777, k_2844, k_2868, k_2880, k_3245, k_3250, k_9551, k_9999, k_65536, k_100000, k_999999, k_1000000, k_2147483647, lt_T, lt_F, le_T, le_F, eq_T, eq_F, ↓reduceIte, not_true_eq_false, not_false_eq_true, or_true, or_false, true_or, false_or, and_true, true_and, and_false, false_and, srf_t, h7, ldr_ok ho, e1, r1, e4, s2]
        · rw [if_neg (fun c => hc c.2)] at hy
          subst hy
          rw [if_neg (by omega : ¬ y = -1)] at s2
          simp (disch := omega) only [iI_add, iI_sub, iI_mul, iI_neg, iI_nat, addm1, ixkI, ↓sbind, sbind, ↓bdS, bdS, ↓nm_eq, ↓jn_eq, iI_lt, iI_le, iI_eq, k_0, k_1, k_2, k_3, k_4, k_5, k_6, k_7, k_8, k_9, k_10, k_11, k_12, k_13, k_14, k_15, k_16, k_17, k_18, k_19, k_20, k_21, k_22, k_23, k_24, k_27, k_30, k_32, k_48, k_57, k_59, k_60, k_61, k_62, k_63, k_64, k_72, k_78, k_80, k_82, k_97, k_99, k_100, k_122, k_244, k_255, k_268, k_280, k_300, k_432, k_650, k_900, k_901, k_999, k_1700, k_2600, k_2601, k_2602, k_2603, k_2604, k_2610, k_2618, k_2682, k_2777, k_2844, k_2868, k_2880, k_3245, k_3250, k_9551, k_9999, k_65536, k_100000, k_999999, k_1000000, k_2147483647, lt_T, lt_F, le_T, le_F, eq_T, eq_F, ↓reduceIte, not_true_eq_false, not_false_eq_true, or_true, or_false, true_or, false_or, and_true, true_and, and_false, false_and, srf_t, h7, ldr_ok ho, e1, r1, e4, s2]
    · obtain ⟨k, rfl⟩ : ∃ q, k = q + 1 := ⟨k - 1, by omega⟩
      have e1 := G.c1
      have e4 := m_agreeing w G hT L hb (sh := 0) (by omega) (φ := φ) (by omega)
      have s2 := i2 m M G hT k (by omega)
      rw [lX11_likest_32]
      by_cases hq : x = -1
      · rw [if_neg (fun c => c.1 hq)] at hy
        subst hy
        rw [hq]
        simp (disch := omega) only [iI_add, iI_sub, iI_mul, iI_neg, iI_nat, addm1, ixkI, ↓sbind, sbind, ↓bdS, bdS, ↓nm_eq, ↓jn_eq, iI_lt, iI_le, iI_eq, k_0, k_1, k_2, k_3, k_4, k_5, k_6, k_7, k_8, k_9, k_10, k_11, k_12, k_13, k_14, k_15, k_16, k_17, k_18, k_19, k_20, k_21, k_22, k_23, k_24, k_27, k_30, k_32, k_48, k_57, k_59, k_60, k_61, k_62, k_63, k_64, k_72, k_78, k_80, k_82, k_97, k_99, k_100, k_122, k_244, k_255, k_268, k_280, k_300, k_432, k_650, k_900, k_901, k_999, k_1700, k_2600, k_2601, k_2602, k_2603, k_2604, k_2610, k_2618, k_2682, k_2777, k_2844, k_2868, k_2880, k_3245, k_3250, k_9551, k_9999, k_65536, k_100000, k_999999, k_1000000, k_2147483647, lt_T, lt_F, le_T, le_F, eq_T, eq_F, ↓reduceIte, not_true_eq_false, not_false_eq_true, or_true, or_false, true_or, false_or, and_true, true_and, and_false, false_and, e1, s2]
      · have e5 := m_agreeing w G hT L (b := x) (by omega) (sh := 0) (by omega) (φ := φ) (by omega)
        by_cases hc : s_ag T a n F i 0 ≤ s_ag T a n F x 0
        · rw [if_pos ⟨hq, hc⟩] at hy
          subst hy
          simp (disch := omega) only [iI_add, iI_sub, iI_mul, iI_neg, iI_nat, addm1, ixkI, ↓sbind, sbind, ↓bdS, bdS, ↓nm_eq, ↓jn_eq, iI_lt, iI_le, iI_eq, k_0, k_1, k_2, k_3, k_4, k_5, k_6, k_7, k_8, k_9, k_10, k_11, k_12, k_13, k_14, k_15, k_16, k_17, k_18, k_19, k_20, k_21, k_22, k_23, k_24, k_27, k_30, k_32, k_48, k_57, k_59, k_60, k_61, k_62, k_63, k_64, k_72, k_78, k_80, k_82, k_97, k_99, k_100, k_122, k_244, k_255, k_268, k_280, k_300, k_432, k_650, k_900, k_901, k_999, k_1700, k_2600, k_2601, k_2602, k_2603, k_2604, k_2610, k_2618, k_2682, k_2777, k_2844, k_2868, k_2880, k_3245, k_3250, k_9551, k_9999, k_65536, k_100000, k_999999, k_1000000, k_2147483647, lt_T, lt_F, le_T, le_F, eq_T, eq_F, ↓reduceIte, not_true_eq_false, not_false_eq_true, or_true, or_false, true_or, false_or, and_true, true_and, and_false, false_and, e1, e4, e5, s2]
        · rw [if_neg (fun c => hc c.2)] at hy
          subst hy
          simp (disch := omega) only [iI_add, iI_sub, iI_mul, iI_neg, iI_nat, addm1, ixkI, ↓sbind, sbind, ↓bdS, bdS, ↓nm_eq, ↓jn_eq, iI_lt, iI_le, iI_eq, k_0, k_1, k_2, k_3, k_4, k_5, k_6, k_7, k_8, k_9, k_10, k_11, k_12, k_13, k_14, k_15, k_16, k_17, k_18, k_19, k_20, k_21, k_22, k_23, k_24, k_27, k_30, k_32, k_48, k_57, k_59, k_60, k_61, k_62, k_63, k_64, k_72, k_78, k_80, k_82, k_97, k_99, k_100, k_122, k_244, k_255, k_268, k_280, k_300, k_432, k_650, k_900, k_901, k_999, k_1700, k_2600, k_2601, k_2602, k_2603, k_2604, k_2610, k_2618, k_2682, k_2777, k_2844, k_2868, k_2880, k_3245, k_3250, k_9551, k_9999, k_65536, k_100000, k_999999, k_1000000, k_2147483647, lt_T, lt_F, le_T, le_F, eq_T, eq_F, ↓reduceIte, not_true_eq_false, not_false_eq_true, or_true, or_false, true_or, false_or, and_true, true_and, and_false, false_and, e1, e4, e5, s2]
theorem tq_likest (w : WF F) (wT : WT T) {a n : Int} (ha : -2147483648 ≤ a ∧ a < 2147483648) (hn : -2147483648 ≤ n ∧ n < 2147483648) {φ : Nat} (hφ : 20000 ≤ φ) : ∃ q : Int × Int, (∀ g M, (g + 13 < 57 ∨ 86 ≤ g) → CI 0 g F M → TC1 T M → ∃ M1, Fr (Rg 73 73) M M1 ∧ fX10_likest φ 0 (iI a) (iI n) M = some (iI q.1, stI M1 0 0 (iI q.2))) ∧ ∀ m M, MR m 0 F M → TM1 m T M → fX11_likest φ m (iI a) (iI n) M = some (iI q.1, stI M m 2 (iI q.2)) := by
  have h0 := w.n0
  have h1 := w.n1
  by_cases h2 : l_st T a n (F 0 0 0 - 1) = 0
  · obtain ⟨q, i1, i2⟩ := like_l w (l_st_LG w h2) hφ (F 0 1 0).toNat 0 (-1) (by omega) (by omega) (by omega)
    refine ⟨q, fun g M hx I hT => ?_, fun m M G hT => ?_⟩
    · obtain ⟨hg, ho, hd, w, G, hB⟩ := I
      have e2 := c_logStatus wT hT (hi := F 0 0 0 - 1) ha hn (by omega) (φ := φ) (by omega)
      have e3 := G.n0
      rw [h2] at e2
      obtain ⟨M1, r1, r2⟩ := i1 g M hx ho hg G hT φ (by omega)
      rw [if_pos rfl] at r2
      refine ⟨M1, r1, ?_⟩
      unfold fX10_likest
      simp (disch := omega) only [iI_add, iI_sub, iI_mul, iI_neg, iI_nat, addm1, ixkI, ↓sbind, sbind, ↓bdS, bdS, ↓nm_eq, ↓jn_eq, iI_lt, iI_le, iI_eq, k_0, k_1, k_2, k_3, k_4, k_5, k_6, k_7, k_8, k_9, k_10, k_11, k_12, k_13, k_14, k_15, k_16, k_17, k_18, k_19, k_20, k_21, k_22, k_23, k_24, k_27, k_30, k_32, k_48, k_57, k_59, k_60, k_61, k_62, k_63, k_64, k_72, k_78, k_80, k_82, k_97, k_99, k_100, k_122, k_244, k_255, k_268, k_280, k_300, k_432, k_650, k_900, k_901, k_999, k_1700, k_2600, k_2601, k_2602, k_2603, k_2604, k_2610, k_2618, k_2682, k_2777, k_2844, k_2868, k_2880, k_3245, k_3250, k_9551, k_9999, k_65536, k_100000, k_999999, k_1000000, k_2147483647, lt_T, lt_F, le_T, le_F, eq_T, eq_F, ↓reduceIte, not_true_eq_false, not_false_eq_true, or_true, or_false, true_or, false_or, and_true, true_and, and_false, false_and, hg, ldr_ok ho, e2, e3, r2]
    · have e2 := m_wrongLog wT hT (hi := F 0 0 0 - 1) ha hn (by omega) (φ := φ) (by omega)
      have e3 := G.c0
      have r2 := i2 m M G hT φ (by omega)
      rw [h2] at e2
      unfold fX11_likest
      simp (disch := omega) only [iI_add, iI_sub, iI_mul, iI_neg, iI_nat, addm1, ixkI, ↓sbind, sbind, ↓bdS, bdS, ↓nm_eq, ↓jn_eq, iI_lt, iI_le, iI_eq, k_0, k_1, k_2, k_3, k_4, k_5, k_6, k_7, k_8, k_9, k_10, k_11, k_12, k_13, k_14, k_15, k_16, k_17, k_18, k_19, k_20, k_21, k_22, k_23, k_24, k_27, k_30, k_32, k_48, k_57, k_59, k_60, k_61, k_62, k_63, k_64, k_72, k_78, k_80, k_82, k_97, k_99, k_100, k_122, k_244, k_255, k_268, k_280, k_300, k_432, k_650, k_900, k_901, k_999, k_1700, k_2600, k_2601, k_2602, k_2603, k_2604, k_2610, k_2618, k_2682, k_2777, k_2844, k_2868, k_2880, k_3245, k_3250, k_9551, k_9999, k_65536, k_100000, k_999999, k_1000000, k_2147483647, lI_add, lI_sub, lI_mul, lI_neg, lI_lt, lI_le, lI_eq, iI_l, kl_0, kl_1, kl_2, kl_6, kl_9, kl_10, kl_32, kl_99, kl_999, kl_9999, kl_999999, lt_T, lt_F, le_T, le_F, eq_T, eq_F, ↓reduceIte, not_true_eq_false, not_false_eq_true, or_true, or_false, true_or, false_or, and_true, true_and, and_false, false_and, e2, e3, r2]
  · have pv := l_st_vals T a n (F 0 0 0 - 1)
    refine ⟨(-1, l_st T a n (F 0 0 0 - 1)), fun g M hx I hT => ⟨M, Fr.refl M, ?_⟩, fun m M G hT => ?_⟩
    · obtain ⟨hg, ho, hd, w, G, hB⟩ := I
      have e2 := c_logStatus wT hT (hi := F 0 0 0 - 1) ha hn (by omega) (φ := φ) (by omega)
      have e3 := G.n0
      unfold fX10_likest fX10_refuse
      simp (disch := omega) only [iI_add, iI_sub, iI_mul, iI_neg, iI_nat, addm1, ixkI, ↓sbind, sbind, ↓bdS, bdS, ↓nm_eq, ↓jn_eq, iI_lt, iI_le, iI_eq, k_0, k_1, k_2, k_3, k_4, k_5, k_6, k_7, k_8, k_9, k_10, k_11, k_12, k_13, k_14, k_15, k_16, k_17, k_18, k_19, k_20, k_21, k_22, k_23, k_24, k_27, k_30, k_32, k_48, k_57, k_59, k_60, k_61, k_62, k_63, k_64, k_72, k_78, k_80, k_82, k_97, k_99, k_100, k_122, k_244, k_255, k_268, k_280, k_300, k_432, k_650, k_900, k_901, k_999, k_1700, k_2600, k_2601, k_2602, k_2603, k_2604, k_2610, k_2618, k_2682, k_2777, k_2844, k_2868, k_2880, k_3245, k_3250, k_9551, k_9999, k_65536, k_100000, k_999999, k_1000000, k_2147483647, lt_T, lt_F, le_T, le_F, eq_T, eq_F, ↓reduceIte, not_true_eq_false, not_false_eq_true, or_true, or_false, true_or, false_or, and_true, true_and, and_false, false_and, hg, ldr_ok ho, e2, e3]
    · have e2 := m_wrongLog wT hT (hi := F 0 0 0 - 1) ha hn (by omega) (φ := φ) (by omega)
      have e3 := G.c0
      unfold fX11_likest fX11_refuse
      simp (disch := omega) only [iI_add, iI_sub, iI_mul, iI_neg, iI_nat, addm1, ixkI, ↓sbind, sbind, ↓bdS, bdS, ↓nm_eq, ↓jn_eq, iI_lt, iI_le, iI_eq, k_0, k_1, k_2, k_3, k_4, k_5, k_6, k_7, k_8, k_9, k_10, k_11, k_12, k_13, k_14, k_15, k_16, k_17, k_18, k_19, k_20, k_21, k_22, k_23, k_24, k_27, k_30, k_32, k_48, k_57, k_59, k_60, k_61, k_62, k_63, k_64, k_72, k_78, k_80, k_82, k_97, k_99, k_100, k_122, k_244, k_255, k_268, k_280, k_300, k_432, k_650, k_900, k_901, k_999, k_1700, k_2600, k_2601, k_2602, k_2603, k_2604, k_2610, k_2618, k_2682, k_2777, k_2844, k_2868, k_2880, k_3245, k_3250, k_9551, k_9999, k_65536, k_100000, k_999999, k_1000000, k_2147483647, lI_add, lI_sub, lI_mul, lI_neg, lI_lt, lI_le, lI_eq, iI_l, kl_0, kl_1, kl_2, kl_6, kl_9, kl_10, kl_32, kl_99, kl_999, kl_9999, kl_999999, lt_T, lt_F, le_T, le_F, eq_T, eq_F, ↓reduceIte, not_true_eq_false, not_false_eq_true, or_true, or_false, true_or, false_or, and_true, true_and, and_false, false_and, e2, e3]
theorem s_cut_small {s v : Int} (hv : 0 ≤ v ∧ v ≤ 7) : s_cut s (lI v) = lI v := by
  have hc : v = 0 ∨ v = 1 ∨ v = 2 ∨ v = 3 ∨ v = 4 ∨ v = 5 ∨ v = 6 ∨ v = 7 := by omega
  unfold s_cut
  split
  · rcases hc with h | h | h | h | h | h | h | h <;> rw [h] <;> decide
  · split
    · rcases hc with h | h | h | h | h | h | h | h <;> rw [h] <;> decide
    · split
      · rcases hc with h | h | h | h | h | h | h | h <;> rw [h] <;> decide
      · rfl
theorem draw_l (w : WF F) {a h : Int} (ha : 0 ≤ a ∧ a < 4) (hh : 0 ≤ h ∧ h < F 0 1 0) {φ : Nat} (hφ : 20000 ≤ φ) : ∀ (d : Nat) (i : Int) (T : TS), WT T → T.2.1 a - i = d → 0 ≤ i → T.2.1 a ≤ 60 → ∃ (q : Int) (T' : TS), WT T' ∧ (∀ M t, (t + 2 < 78 ∨ 85 < t + 2) → TC1 T M → UR t F h M → ∀ k, d < k → ∃ M1, lX4_draw_9 t (78 + 2 * a.toNat) k (iI i) M = some (iI q, M1) ∧ TC1 T' M1 ∧ Fr (Rg 78 85) M M1) ∧ ∀ m M, MR m 0 F M → TM1 m T M → ∀ k, d < k → ∃ M1, lX11_draws_39 φ m (iI h) (iI a) k (iI i) M = some (iI q, stI M1 m 2 (iI 0)) ∧ TM1 m T' M1 ∧ Fr (Rg (m + 3) (m + 5)) M M1 := by
  have h1 := w.n1
  intro d
  induction d with
  | zero =>
    intro i T wT hd hi h6
    refine ⟨i, T, wT, fun M t ht hT U k hk => ⟨M, ?_, hT, Fr.refl M⟩, fun m M G hT k hk => ⟨M, ?_, hT, Fr.refl M⟩⟩
    · obtain ⟨k, rfl⟩ : ∃ q, k = q + 1 := ⟨k - 1, by omega⟩
      have e1 := (hT a ha.1 ha.2).2.1
      rw [lX4_draw_9]
      simp (disch := omega) only [iI_add, iI_sub, iI_mul, iI_neg, iI_nat, addm1, ixkI, ↓sbind, sbind, ↓bdS, bdS, ↓nm_eq, ↓jn_eq, iI_lt, iI_le, iI_eq, k_0, k_1, k_2, k_3, k_4, k_5, k_6, k_7, k_8, k_9, k_10, k_11, k_12, k_13, k_14, k_15, k_16, k_17, k_18, k_19, k_20, k_21, k_22, k_23, k_24, k_27, k_30, k_32, k_48, k_57, k_59, k_60, k_61, k_62, k_63, k_64, k_72, k_78, k_80, k_82, k_97, k_99, k_100, k_122, k_244, k_255, k_268, k_280, k_300, k_432, k_650, k_900, k_901, k_999, k_1700, k_2600, k_2601, k_2602, k_2603, k_2604, k_2610, k_2618, k_2682, k_2777, k_2844, k_2868, k_2880, k_3245, k_3250, k_9551, k_9999, k_65536, k_100000, k_999999, k_1000000, k_2147483647, lt_T, lt_F, le_T, le_F, eq_T, eq_F, ↓reduceIte, not_true_eq_false, not_false_eq_true, or_true, or_false, true_or, false_or, and_true, true_and, and_false, false_and, e1]
    · obtain ⟨k, rfl⟩ : ∃ q, k = q + 1 := ⟨k - 1, by omega⟩
      have e1 := (hT a ha.1 ha.2).2.1
      rw [lX11_draws_39]
      unfold fX11_gives
      simp (disch := omega) only [iI_add, iI_sub, iI_mul, iI_neg, iI_nat, addm1, ixkI, ↓sbind, sbind, ↓bdS, bdS, ↓nm_eq, ↓jn_eq, iI_lt, iI_le, iI_eq, k_0, k_1, k_2, k_3, k_4, k_5, k_6, k_7, k_8, k_9, k_10, k_11, k_12, k_13, k_14, k_15, k_16, k_17, k_18, k_19, k_20, k_21, k_22, k_23, k_24, k_27, k_30, k_32, k_48, k_57, k_59, k_60, k_61, k_62, k_63, k_64, k_72, k_78, k_80, k_82, k_97, k_99, k_100, k_122, k_244, k_255, k_268, k_280, k_300, k_432, k_650, k_900, k_901, k_999, k_1700, k_2600, k_2601, k_2602, k_2603, k_2604, k_2610, k_2618, k_2682, k_2777, k_2844, k_2868, k_2880, k_3245, k_3250, k_9551, k_9999, k_65536, k_100000, k_999999, k_1000000, k_2147483647, lt_T, lt_F, le_T, le_F, eq_T, eq_F, ↓reduceIte, not_true_eq_false, not_false_eq_true, or_true, or_false, true_or, false_or, and_true, true_and, and_false, false_and, e1]
  | succ d ih =>
    intro i T wT hd hi h6
    have b1 := s_rk_bd w (h := h) (d := i) hh
    by_cases hc : s_rk F h i = -1
    · refine ⟨i, T, wT, fun M t ht hT U k hk => ⟨M, ?_, hT, Fr.refl M⟩, fun m M G hT k hk => ⟨M, ?_, hT, Fr.refl M⟩⟩
      · obtain ⟨k, rfl⟩ : ∃ q, k = q + 1 := ⟨k - 1, by omega⟩
        have e1 := (hT a ha.1 ha.2).2.1
        have e2 := U i hi (by omega)
        rw [show u_rk F h i = -2 from if_pos hc] at e2
        rw [lX4_draw_9]
        simp (disch := omega) only [iI_add, iI_sub, iI_mul, iI_neg, iI_nat, addm1, ixkI, ↓sbind, sbind, ↓bdS, bdS, ↓nm_eq, ↓jn_eq, iI_lt, iI_le, iI_eq, k_0, k_1, k_2, k_3, k_4, k_5, k_6, k_7, k_8, k_9, k_10, k_11, k_12, k_13, k_14, k_15, k_16, k_17, k_18, k_19, k_20, k_21, k_22, k_23, k_24, k_27, k_30, k_32, k_48, k_57, k_59, k_60, k_61, k_62, k_63, k_64, k_72, k_78, k_80, k_82, k_97, k_99, k_100, k_122, k_244, k_255, k_268, k_280, k_300, k_432, k_650, k_900, k_901, k_999, k_1700, k_2600, k_2601, k_2602, k_2603, k_2604, k_2610, k_2618, k_2682, k_2777, k_2844, k_2868, k_2880, k_3245, k_3250, k_9551, k_9999, k_65536, k_100000, k_999999, k_1000000, k_2147483647, lt_T, lt_F, le_T, le_F, eq_T, eq_F, ↓reduceIte, not_true_eq_false, not_false_eq_true, or_true, or_false, true_or, false_or, and_true, true_and, and_false, false_and, e1, e2, show (-2 : Int32) = iI (-2) from rfl]
      · obtain ⟨k, rfl⟩ : ∃ q, k = q + 1 := ⟨k - 1, by omega⟩
        have e1 := (hT a ha.1 ha.2).2.1
        have e2 := m_rockAt w G (h := h) (d := i) hh (by omega) (φ := φ) (by omega)
        rw [lX11_draws_39]
        unfold fX11_gives
        simp (disch := omega) only [iI_add, iI_sub, iI_mul, iI_neg, iI_nat, addm1, ixkI, ↓sbind, sbind, ↓bdS, bdS, ↓nm_eq, ↓jn_eq, iI_lt, iI_le, iI_eq, k_0, k_1, k_2, k_3, k_4, k_5, k_6, k_7, k_8, k_9, k_10, k_11, k_12, k_13, k_14, k_15, k_16, k_17, k_18, k_19, k_20, k_21, k_22, k_23, k_24, k_27, k_30, k_32, k_48, k_57, k_59, k_60, k_61, k_62, k_63, k_64, k_72, k_78, k_80, k_82, k_97, k_99, k_100, k_122, k_244, k_255, k_268, k_280, k_300, k_432, k_650, k_900, k_901, k_999, k_1700, k_2600, k_2601, k_2602, k_2603, k_2604, k_2610, k_2618, k_2682, k_2777, k_2844, k_2868, k_2880, k_3245, k_3250, k_9551, k_9999, k_65536, k_100000, k_999999, k_1000000, k_2147483647, lt_T, lt_F, le_T, le_F, eq_T, eq_F, ↓reduceIte, not_true_eq_false, not_false_eq_true, or_true, or_false, true_or, false_or, and_true, true_and, and_false, false_and, e1, e2]
    · obtain ⟨q, T', w', i1, i2⟩ := ih (i + 1) (t_put T a i (s_rk F h i)) (wT.put (by omega)) (by show T.2.1 a - (i + 1) = d; omega) (by omega) h6
      refine ⟨q, T', w', fun M t ht hT U k hk => ?_, fun m M G hT k hk => ?_⟩
      · obtain ⟨k, rfl⟩ : ∃ q, k = q + 1 := ⟨k - 1, by omega⟩
        have e1 := (hT a ha.1 ha.2).2.1
        have e2 := U i hi (by omega)
        rw [show u_rk F h i = s_rk F h i from if_neg hc] at e2
        have e3 := c_put wT hT (k := i) (lI (s_rk F h i)) ha (by omega)
        rw [s_cut_small (by omega), lI_of] at e3
        have fr1 : Fr (Rg 78 85) M (stL M (78 + 2 * a.toNat + 1) i.toNat (lI (s_rk F h i))) := Fr.stL ⟨by omega, by omega⟩ (Fr.refl M)
        obtain ⟨M1, r1, r2, r3⟩ := i1 (stL M (78 + 2 * a.toNat + 1) i.toNat (lI (s_rk F h i))) t ht (hT.put ha hi) U k (by omega)
        refine ⟨M1, ?_, r2, fr1.trans r3⟩
        rw [lX4_draw_9]
        by_cases h2 : s_rk F h i = -2
        · omega
        · simp (disch := omega) only [iI_add, iI_sub, iI_mul, iI_neg, iI_nat, addm1, ixkI, ↓sbind, sbind, ↓bdS, bdS, ↓nm_eq, ↓jn_eq, iI_lt, iI_le, iI_eq, k_0, k_1, k_2, k_3, k_4, k_5, k_6, k_7, k_8, k_9, k_10, k_11, k_12, k_13, k_14, k_15, k_16, k_17, k_18, k_19, k_20, k_21, k_22, k_23, k_24, k_27, k_30, k_32, k_48, k_57, k_59, k_60, k_61, k_62, k_63, k_64, k_72, k_78, k_80, k_82, k_97, k_99, k_100, k_122, k_244, k_255, k_268, k_280, k_300, k_432, k_650, k_900, k_901, k_999, k_1700, k_2600, k_2601, k_2602, k_2603, k_2604, k_2610, k_2618, k_2682, k_2777, k_2844, k_2868, k_2880, k_3245, k_3250, k_9551, k_9999, k_65536, k_100000, k_999999, k_1000000, k_2147483647, lI_add, lI_sub, lI_mul, lI_neg, lI_lt, lI_le, lI_eq, iI_l, kl_0, kl_1, kl_2, kl_6, kl_9, kl_10, kl_32, kl_99, kl_999, kl_9999, kl_999999, lt_T, lt_F, le_T, le_F, eq_T, eq_F, ↓reduceIte, not_true_eq_false, not_false_eq_true, or_true, or_false, true_or, false_or, and_true, true_and, and_false, false_and, e1, e2, e3, show (-2 : Int32) = iI (-2) from rfl, r1]
      · obtain ⟨k, rfl⟩ : ∃ q, k = q + 1 := ⟨k - 1, by omega⟩
        have e1 := (hT a ha.1 ha.2).2.1
        have e2 := m_rockAt w G (h := h) (d := i) hh (by omega) (φ := φ) (by omega)
        have fr1 : Fr (Rg (m + 3) (m + 5)) M (stL M (m + 5) (60 * a + i).toNat (lI (s_rk F h i))) := Fr.stL ⟨by omega, by omega⟩ (Fr.refl M)
        obtain ⟨M1, r1, r2, r3⟩ := i2 m (stL M (m + 5) (60 * a + i).toNat (lI (s_rk F h i))) (G.fr fr1 (fun q => by have := q.1; omega)) (hT.put wT ha (by omega)) k (by omega)
        refine ⟨M1, ?_, r2, fr1.trans r3⟩
        rw [lX11_draws_39]
        simp (disch := omega) only [iI_add, iI_sub, iI_mul, iI_neg, iI_nat, addm1, ixkI, ↓sbind, sbind, ↓bdS, bdS, ↓nm_eq, ↓jn_eq, iI_lt, iI_le, iI_eq, k_0, k_1, k_2, k_3, k_4, k_5, k_6, k_7, k_8, k_9, k_10, k_11, k_12, k_13, k_14, k_15, k_16, k_17, k_18, k_19, k_20, k_21, k_22, k_23, k_24, k_27, k_30, k_32, k_48, k_57, k_59, k_60, k_61, k_62, k_63, k_64, k_72, k_78, k_80, k_82, k_97, k_99, k_100, k_122, k_244, k_255, k_268, k_280, k_300, k_432, k_650, k_900, k_901, k_999, k_1700, k_2600, k_2601, k_2602, k_2603, k_2604, k_2610, k_2618, k_2682, k_2777, k_2844, k_2868, k_2880, k_3245, k_3250, k_9551, k_9999, k_65536, k_100000, k_999999, k_1000000, k_2147483647, lI_add, lI_sub, lI_mul, lI_neg, lI_lt, lI_le, lI_eq, iI_l, kl_0, kl_1, kl_2, kl_6, kl_9, kl_10, kl_32, kl_99, kl_999, kl_9999, kl_999999, lt_T, lt_F, le_T, le_F, eq_T, eq_F, ↓reduceIte, not_true_eq_false, not_false_eq_true, or_true, or_false, true_or, false_or, and_true, true_and, and_false, false_and, e1, e2, r1]
theorem tq_draws (w : WF F) (wT : WT T) {h a : Int} (hh : -2147483648 ≤ h ∧ h < 2147483648) (ha : -2147483648 ≤ a ∧ a < 2147483648) {φ : Nat} (hφ : 20000 ≤ φ) : ∃ (q : Int × Int) (T' : TS), WT T' ∧ (∀ g M, (g + 13 < 57 ∨ 86 ≤ g) → CI 0 g F M → TC1 T M → ∃ M1, Fr (fun x => x = 73 ∨ (78 ≤ x ∧ x ≤ 85)) M M1 ∧ TC1 T' M1 ∧ fX10_draws φ 0 (iI h) (iI a) M = some (iI q.1, stI M1 0 0 (iI q.2))) ∧ ∀ m M, MR m 0 F M → TM1 m T M → ∃ M1, Fr (Rg (m + 3) (m + 5)) M M1 ∧ TM1 m T' M1 ∧ fX11_draws φ m (iI h) (iI a) M = some (iI q.1, stI M1 m 2 (iI q.2)) := by
  have h0 := w.n0
  have hn1 := w.n1
  by_cases h1 : 0 ≤ h ∧ h < F 0 1 0
  · by_cases h2 : 0 ≤ a ∧ a < 4
    · have hw := (wT a h2.1 h2.2).2.1
      by_cases h3 : T.2.1 a = -1
      · refine ⟨(-1, 2), T, wT, fun g M hx I hT => ⟨M, Fr.refl M, hT, ?_⟩, fun m M G hT => ⟨M, Fr.refl M, hT, ?_⟩⟩
        · obtain ⟨hg, ho, hd, w, G, hB⟩ := I
          have e1 := c_isHole w G hh
          have e2 := c_missing wT hT h2
          rw [s_in_t h1] at e1
          rw [decide_eq_true h3] at e2
          unfold fX10_draws fX10_refuse
          rw [c_isTray ha, s_in_t h2]
          simp (disch := omega) only [iI_add, iI_sub, iI_mul, iI_neg, iI_nat, addm1, ixkI, ↓sbind, sbind, ↓bdS, bdS, ↓nm_eq, ↓jn_eq, iI_lt, iI_le, iI_eq, k_0, k_1, k_2, k_3, k_4, k_5, k_6, k_7, k_8, k_9, k_10, k_11, k_12, k_13, k_14, k_15, k_16, k_17, k_18, k_19, k_20, k_21, k_22, k_23, k_24, k_27, k_30, k_32, k_48, k_57, k_59, k_60, k_61, k_62, k_63, k_64, k_72, k_78, k_80, k_82, k_97, k_99, k_100, k_122, k_244, k_255, k_268, k_280, k_300, k_432, k_650, k_900, k_901, k_999, k_1700, k_2600, k_2601, k_2602, k_2603, k_2604, k_2610, k_2618, k_2682, k_2777, k_2844, k_2868, k_2880, k_3245, k_3250, k_9551, k_9999, k_65536, k_100000, k_999999, k_1000000, k_2147483647, lt_T, lt_F, le_T, le_F, eq_T, eq_F, ↓reduceIte, not_true_eq_false, not_false_eq_true, or_true, or_false, true_or, false_or, and_true, true_and, and_false, false_and, hg, ldr_ok ho, bI_t, srf_t, e1, e2]
        · have e1 := m_isHole w G hh
          have e2 := (hT a h2.1 h2.2).2.1
          rw [s_in_t h1] at e1
          unfold fX11_draws fX11_refuse
          rw [m_isTray ha, s_in_t h2]
          simp (disch := omega) only [iI_add, iI_sub, iI_mul, iI_neg, iI_nat, addm1, ixkI, ↓sbind, sbind, ↓bdS, bdS, ↓nm_eq, ↓jn_eq, iI_lt, iI_le, iI_eq, k_0, k_1, k_2, k_3, k_4, k_5, k_6, k_7, k_8, k_9, k_10, k_11, k_12, k_13, k_14, k_15, k_16, k_17, k_18, k_19, k_20, k_21, k_22, k_23, k_24, k_27, k_30, k_32, k_48, k_57, k_59, k_60, k_61, k_62, k_63, k_64, k_72, k_78, k_80, k_82, k_97, k_99, k_100, k_122, k_244, k_255, k_268, k_280, k_300, k_432, k_650, k_900, k_901, k_999, k_1700, k_2600, k_2601, k_2602, k_2603, k_2604, k_2610, k_2618, k_2682, k_2777, k_2844, k_2868, k_2880, k_3245, k_3250, k_9551, k_9999, k_65536, k_100000, k_999999, k_1000000, k_2147483647, lt_T, lt_F, le_T, le_F, eq_T, eq_F, ↓reduceIte, not_true_eq_false, not_false_eq_true, or_true, or_false, true_or, false_or, and_true, true_and, and_false, false_and, bI_t, e1, e2]
      · obtain ⟨q, T', w', i1, i2⟩ := draw_l w h2 h1 hφ (T.2.1 a).toNat 0 T wT (by omega) (by omega) (by omega)
        refine ⟨(q, 0), T', w', fun g M hx I hT => ?_, fun m M G hT => ?_⟩
        · obtain ⟨hg, ho, hd, w, G, hB⟩ := I
          have e1 := c_isHole w G hh
          have e2 := c_missing wT hT h2
          rw [s_in_t h1] at e1
          rw [decide_eq_false h3] at e2
          obtain ⟨M1, r1, r2, r3⟩ := c_unfold w G (0 + 71) h1 (by omega) hφ
          have hT1 : TC1 T M1 := hT.fr r3 (fun x a b q => by have := q.1; have := q.2; omega)
          obtain ⟨M2, s1, s2, s3⟩ := i1 M1 (0 + 71) (by omega) hT1 r2 φ (by omega)
          refine ⟨M2, (r3.mono (fun x q => Or.inl (by have := q.1; have := q.2; omega))).trans (s3.mono (fun x q => Or.inr (by have := q.1; have := q.2; exact ⟨by omega, by omega⟩))), s2, ?_⟩
          unfold fX10_draws fX10_answer fX4_draw
          rw [c_isTray ha, s_in_t h2]
          simp (disch := omega) only [iI_add, iI_sub, iI_mul, iI_neg, iI_nat, addm1, ixkI, ↓sbind, sbind, ↓bdS, bdS, ↓nm_eq, ↓jn_eq, iI_lt, iI_le, iI_eq, k_0, k_1, k_2, k_3, k_4, k_5, k_6, k_7, k_8, k_9, k_10, k_11, k_12, k_13, k_14, k_15, k_16, k_17, k_18, k_19, k_20, k_21, k_22, k_23, k_24, k_27, k_30, k_32, k_48, k_57, k_59, k_60, k_61, k_62, k_63, k_64, k_72, k_78, k_80, k_82, k_97, k_99, k_100, k_122, k_244, k_255, k_268, k_280, k_300, k_432, k_650, k_900, k_901, k_999, k_1700, k_2600, k_2601, k_2602, k_2603, k_2604, k_2610, k_2618, k_2682, k_2777, k_2844, k_2868, k_2880, k_3245, k_3250, k_9551, k_9999, k_65536, k_100000, k_999999, k_1000000, k_2147483647, lt_T, lt_F, le_T, le_F, eq_T, eq_F, ↓reduceIte, not_true_eq_false, not_false_eq_true, or_true, or_false, true_or, false_or, and_true, true_and, and_false, false_and, hg, ldr_ok ho, bI_t, bI_f, srf_t, e1, e2, r1, s1]
        · have e1 := m_isHole w G hh
          have e2 := (hT a h2.1 h2.2).2.1
          rw [s_in_t h1] at e1
          obtain ⟨M2, s1, s2, s3⟩ := i2 m M G hT φ (by omega)
          refine ⟨M2, s3, s2, ?_⟩
          unfold fX11_draws
          rw [m_isTray ha, s_in_t h2]
          simp (disch := omega) only [iI_add, iI_sub, iI_mul, iI_neg, iI_nat, addm1, ixkI, ↓sbind, sbind, ↓bdS, bdS, ↓nm_eq, ↓jn_eq, iI_lt, iI_le, iI_eq, k_0, k_1, k_2, k_3, k_4, k_5, k_6, k_7, k_8, k_9, k_10, k_11, k_12, k_13, k_14, k_15, k_16, k_17, k_18, k_19, k_20, k_21, k_22, k_23, k_24, k_27, k_30, k_32, k_48, k_57, k_59, k_60, k_61, k_62, k_63, k_64, k_72, k_78, k_80, k_82, k_97, k_99, k_100, k_122, k_244, k_255, k_268, k_280, k_300, k_432, k_650, k_900, k_901, k_999, k_1700, k_2600, k_2601, k_2602, k_2603, k_2604, k_2610, k_2618, k_2682, k_2777, k_2844, k_2868, k_2880, k_3245, k_3250, k_9551, k_9999, k_65536, k_100000, k_999999, k_1000000, k_2147483647, lt_T, lt_F, le_T, le_F, eq_T, eq_F, ↓reduceIte, not_true_eq_false, not_false_eq_true, or_true, or_false, true_or, false_or, and_true, true_and, and_false, false_and, bI_t, e1, e2, s1]
    · refine ⟨(-1, 1), T, wT, fun g M hx I hT => ⟨M, Fr.refl M, hT, ?_⟩, fun m M G hT => ⟨M, Fr.refl M, hT, ?_⟩⟩
      · obtain ⟨hg, ho, hd, w, G, hB⟩ := I
        have e1 := c_isHole w G hh
        rw [s_in_t h1] at e1
        unfold fX10_draws fX10_refuse
        rw [c_isTray ha, s_in_f h2]
        simp (disch := omega) only [iI_add, iI_sub, iI_mul, iI_neg, iI_nat, addm1, ixkI, ↓sbind, sbind, ↓bdS, bdS, ↓nm_eq, ↓jn_eq, iI_lt, iI_le, iI_eq, k_0, k_1, k_2, k_3, k_4, k_5, k_6, k_7, k_8, k_9, k_10, k_11, k_12, k_13, k_14, k_15, k_16, k_17, k_18, k_19, k_20, k_21, k_22, k_23, k_24, k_27, k_30, k_32, k_48, k_57, k_59, k_60, k_61, k_62, k_63, k_64, k_72, k_78, k_80, k_82, k_97, k_99, k_100, k_122, k_244, k_255, k_268, k_280, k_300, k_432, k_650, k_900, k_901, k_999, k_1700, k_2600, k_2601, k_2602, k_2603, k_2604, k_2610, k_2618, k_2682, k_2777, k_2844, k_2868, k_2880, k_3245, k_3250, k_9551, k_9999, k_65536, k_100000, k_999999, k_1000000, k_2147483647, lt_T, lt_F, le_T, le_F, eq_T, eq_F, ↓reduceIte, not_true_eq_false, not_false_eq_true, or_true, or_false, true_or, false_or, and_true, true_and, and_false, false_and, hg, ldr_ok ho, bI_t, bI_f, e1]
      · have e1 := m_isHole w G hh
        rw [s_in_t h1] at e1
        unfold fX11_draws fX11_refuse
        rw [m_isTray ha, s_in_f h2]
        simp (disch := omega) only [iI_add, iI_sub, iI_mul, iI_neg, iI_nat, addm1, ixkI, ↓sbind, sbind, ↓bdS, bdS, ↓nm_eq, ↓jn_eq, iI_lt, iI_le, iI_eq, k_0, k_1, k_2, k_3, k_4, k_5, k_6, k_7, k_8, k_9, k_10, k_11, k_12, k_13, k_14, k_15, k_16, k_17, k_18, k_19, k_20, k_21, k_22, k_23, k_24, k_27, k_30, k_32, k_48, k_57, k_59, k_60, k_61, k_62, k_63, k_64, k_72, k_78, k_80, k_82, k_97, k_99, k_100, k_122, k_244, k_255, k_268, k_280, k_300, k_432, k_650, k_900, k_901, k_999, k_1700, k_2600, k_2601, k_2602, k_2603, k_2604, k_2610, k_2618, k_2682, k_2777, k_2844, k_2868, k_2880, k_3245, k_3250, k_9551, k_9999, k_65536, k_100000, k_999999, k_1000000, k_2147483647, lt_T, lt_F, le_T, le_F, eq_T, eq_F, ↓reduceIte, not_true_eq_false, not_false_eq_true, or_true, or_false, true_or, false_or, and_true, true_and, and_false, false_and, bI_t, bI_f, e1]
  · refine ⟨(-1, 1), T, wT, fun g M hx I hT => ⟨M, Fr.refl M, hT, ?_⟩, fun m M G hT => ⟨M, Fr.refl M, hT, ?_⟩⟩
    · obtain ⟨hg, ho, hd, w, G, hB⟩ := I
      have e1 := c_isHole w G hh
      rw [s_in_f h1] at e1
      unfold fX10_draws fX10_refuse
      simp (disch := omega) only [iI_add, iI_sub, iI_mul, iI_neg, iI_nat, addm1, ixkI, ↓sbind, sbind, ↓bdS, bdS, ↓nm_eq, ↓jn_eq, iI_lt, iI_le, iI_eq, k_0, k_1, k_2, k_3, k_4, k_5, k_6, k_7, k_8, k_9, k_10, k_11, k_12, k_13, k_14, k_15, k_16, k_17, k_18, k_19, k_20, k_21, k_22, k_23, k_24, k_27, k_30, k_32, k_48, k_57, k_59, k_60, k_61, k_62, k_63, k_64, k_72, k_78, k_80, k_82, k_97, k_99, k_100, k_122, k_244, k_255, k_268, k_280, k_300, k_432, k_650, k_900, k_901, k_999, k_1700, k_2600, k_2601, k_2602, k_2603, k_2604, k_2610, k_2618, k_2682, k_2777, k_2844, k_2868, k_2880, k_3245, k_3250, k_9551, k_9999, k_65536, k_100000, k_999999, k_1000000, k_2147483647, lt_T, lt_F, le_T, le_F, eq_T, eq_F, ↓reduceIte, not_true_eq_false, not_false_eq_true, or_true, or_false, true_or, false_or, and_true, true_and, and_false, false_and, hg, ldr_ok ho, bI_f, e1]
    · have e1 := m_isHole w G hh
      rw [s_in_f h1] at e1
      unfold fX11_draws fX11_refuse
      simp (disch := omega) only [iI_add, iI_sub, iI_mul, iI_neg, iI_nat, addm1, ixkI, ↓sbind, sbind, ↓bdS, bdS, ↓nm_eq, ↓jn_eq, iI_lt, iI_le, iI_eq, k_0, k_1, k_2, k_3, k_4, k_5, k_6, k_7, k_8, k_9, k_10, k_11, k_12, k_13, k_14, k_15, k_16, k_17, k_18, k_19, k_20, k_21, k_22, k_23, k_24, k_27, k_30, k_32, k_48, k_57, k_59, k_60, k_61, k_62, k_63, k_64, k_72, k_78, k_80, k_82, k_97, k_99, k_100, k_122, k_244, k_255, k_268, k_280, k_300, k_432, k_650, k_900, k_901, k_999, k_1700, k_2600, k_2601, k_2602, k_2603, k_2604, k_2610, k_2618, k_2682, k_2777, k_2844, k_2868, k_2880, k_3245, k_3250, k_9551, k_9999, k_65536, k_100000, k_999999, k_1000000, k_2147483647, lt_T, lt_F, le_T, le_F, eq_T, eq_F, ↓reduceIte, not_true_eq_false, not_false_eq_true, or_true, or_false, true_or, false_or, and_true, true_and, and_false, false_and, bI_f, e1]
end DR
