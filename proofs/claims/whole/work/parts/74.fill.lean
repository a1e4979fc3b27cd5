/-! gaps filled -/
section FY
variable {m : Nat} {T : TS} {M : Mem}
theorem fill_l {a n : Int} (ha : 0 ≤ a ∧ a < 4) (hn : n ≤ 60) : ∀ (d : Nat) (i : Int) (x : Int32) (T : TS), WT T → n ≤ T.2.1 a → n - i = d → 1 ≤ i → ∃ (b : Int32) (T' : TS), WT T' ∧ (∀ M, TC1 T M → ∀ k, d < k → ∃ M1, lX7_fillGaps_4 (78 + 2 * a.toNat) (iI n) k x (iI i) M = some (b, M1) ∧ TC1 T' M1 ∧ Fr (Rg 78 85) M M1) ∧ ∀ m M, TM1 m T M → ∀ k, d < k → ∃ M1, lX11_fill_26 m (iI a) (iI n) k x (iI i) M = some (b, stI M1 m 2 (iI 0)) ∧ TM1 m T' M1 ∧ Fr (Rg (m + 3) (m + 5)) M M1 := by
  intro d
  induction d with
  | zero =>
    intro i x T w hT hd hi
    refine ⟨x, T, w, fun M h k hk => ⟨M, ?_, h, Fr.refl M⟩, fun m M h k hk => ⟨M, ?_, h, Fr.refl M⟩⟩
    · obtain ⟨k, rfl⟩ : ∃ q, k = q + 1 := ⟨k - 1, by omega⟩
      rw [lX7_fillGaps_4]
      simp (disch := omega) only [iI_add, iI_sub, iI_mul, iI_neg, iI_nat, addm1, ixkI, ↓sbind, sbind, ↓bdS, bdS, ↓nm_eq, ↓jn_eq, iI_lt, iI_le, iI_eq, k_0, k_1, k_2, k_3, k_4, k_5, k_6, k_7, k_8, k_9, k_10, k_11, k_12, k_13, k_14, k_15, k_16, k_17, k_18, k_19, k_20, k_21, k_22, k_23, k_24, k_27, k_30, k_32, k_48, k_57, k_59, k_60, k_61, k_62, k_63, k_64, k_72, k_78, k_80, k_82, k_97, k_99, k_100, k_122, k_244, k_255, k_268, k_280, k_300, k_432, k_650, k_900, k_901, k_999, k_1700, k_2600, k_2601, k_2602, k_2603, k_2604, k_2610, k_2618, k_2682, k_2777, k_2844, k_2868, k_2880, k_3245, k_3250, k_9551, k_9999, k_65536, k_100000, k_999999, k_1000000, k_2147483647, lt_T, lt_F, le_T, le_F, eq_T, eq_F, ↓reduceIte, not_true_eq_false, not_false_eq_true, or_true, or_false, true_or, false_or, and_true, true_and, and_false, false_and]
    · obtain ⟨k, rfl⟩ : ∃ q, k = q + 1 := ⟨k - 1, by omega⟩
      rw [lX11_fill_26]
      unfold fX11_gives
      simp (disch := omega) only [iI_add, iI_sub, iI_mul, iI_neg, iI_nat, addm1, ixkI, ↓sbind, sbind, ↓bdS, bdS, ↓nm_eq, ↓jn_eq, iI_lt, iI_le, iI_eq, k_0, k_1, k_2, k_3, k_4, k_5, k_6, k_7, k_8, k_9, k_10, k_11, k_12, k_13, k_14, k_15, k_16, k_17, k_18, k_19, k_20, k_21, k_22, k_23, k_24, k_27, k_30, k_32, k_48, k_57, k_59, k_60, k_61, k_62, k_63, k_64, k_72, k_78, k_80, k_82, k_97, k_99, k_100, k_122, k_244, k_255, k_268, k_280, k_300, k_432, k_650, k_900, k_901, k_999, k_1700, k_2600, k_2601, k_2602, k_2603, k_2604, k_2610, k_2618, k_2682, k_2777, k_2844, k_2868, k_2880, k_3245, k_3250, k_9551, k_9999, k_65536, k_100000, k_999999, k_1000000, k_2147483647, lt_T, lt_F, le_T, le_F, eq_T, eq_F, ↓reduceIte, not_true_eq_false, not_false_eq_true, or_true, or_false, true_or, false_or, and_true, true_and, and_false, false_and]
  | succ d ih =>
    intro i x T w hT hd hi
    have v1 := (w a ha.1 ha.2).2.2 i
    have v2 := (w a ha.1 ha.2).2.2 (i - 1)
    have v3 := (w a ha.1 ha.2).2.1
    by_cases h1 : T.2.2 a i = -1
    · by_cases h2 : T.2.2 a (i - 1) = -1
      · obtain ⟨b, T', w', i1, i2⟩ := ih (i + 1) x T w hT (by omega) (by omega)
        refine ⟨b, T', w', fun M h k hk => ?_, fun m M h k hk => ?_⟩
        · obtain ⟨k, rfl⟩ : ∃ q, k = q + 1 := ⟨k - 1, by omega⟩
          have e1 := (h a ha.1 ha.2).2.2 i (by omega) (by omega)
          have e2 := (h a ha.1 ha.2).2.2 (i - 1) (by omega) (by omega)
          obtain ⟨M1, r1, r2, r3⟩ := i1 M h k (by omega)
          refine ⟨M1, ?_, r2, r3⟩
          rw [lX7_fillGaps_4]
          simp (disch := omega) only [iI_add, iI_sub, iI_mul, iI_neg, iI_nat, addm1, ixkI, ↓sbind, sbind, ↓bdS, bdS, ↓nm_eq, ↓jn_eq, iI_lt, iI_le, iI_eq, k_0, k_1, k_2, k_3, k_4, k_5, k_6, k_7, k_8, k_9, k_10, k_11, k_12, k_13, k_14, k_15, k_16, k_17, k_18, k_19, k_20, k_21, k_22, k_23, k_24, k_27, k_30, k_32, k_48, k_57, k_59, k_60, k_61, k_62, k_63, k_64, k_72, k_78, k_80, k_82, k_97, k_99, k_100, k_122, k_244, k_255, k_268, k_280, k_300, k_432, k_650, k_900, k_901, k_999, k_1700, k_2600, k_2601, k_2602, k_2603, k_2604, k_2610, k_2618, k_2682, k_2777, k_2844, k_2868, k_2880, k_3245, k_3250, k_9551, k_9999, k_65536, k_100000, k_999999, k_1000000, k_2147483647, lI_add, lI_sub, lI_mul, lI_neg, lI_lt, lI_le, lI_eq, iI_l, kl_0, kl_1, kl_2, kl_6, kl_9, kl_10, kl_32, kl_99, kl_999, kl_9999, kl_999999, lt_T, lt_F, le_T, le_F, eq_T, eq_F, ↓reduceIte, not_true_eq_false, not_false_eq_true, or_true, or_false, true_or, false_or, and_true, true_and, and_false, false_and, e1, e2, r1]
        · obtain ⟨k, rfl⟩ : ∃ q, k = q + 1 := ⟨k - 1, by omega⟩
          have e1 := (h a ha.1 ha.2).2.2 i (by omega) (by omega)
          have e2 := (h a ha.1 ha.2).2.2 (i - 1) (by omega) (by omega)
          obtain ⟨M1, r1, r2, r3⟩ := i2 m M h k (by omega)
          refine ⟨M1, ?_, r2, r3⟩
          rw [lX11_fill_26]
          unfold fX11_logAt
          simp (disch := omega) only [iI_add, iI_sub, iI_mul, iI_neg, iI_nat, addm1, ixkI, ↓sbind, sbind, ↓bdS, bdS, ↓nm_eq, ↓jn_eq, iI_lt, iI_le, iI_eq, k_0, k_1, k_2, k_3, k_4, k_5, k_6, k_7, k_8, k_9, k_10, k_11, k_12, k_13, k_14, k_15, k_16, k_17, k_18, k_19, k_20, k_21, k_22, k_23, k_24, k_27, k_30, k_32, k_48, k_57, k_59, k_60, k_61, k_62, k_63, k_64, k_72, k_78, k_80, k_82, k_97, k_99, k_100, k_122, k_244, k_255, k_268, k_280, k_300, k_432, k_650, k_900, k_901, k_999, k_1700, k_2600, k_2601, k_2602, k_2603, k_2604, k_2610, k_2618, k_2682, k_2777, k_2844, k_2868, k_2880, k_3245, k_3250, k_9551, k_9999, k_65536, k_100000, k_999999, k_1000000, k_2147483647, lI_add, lI_sub, lI_mul, lI_neg, lI_lt, lI_le, lI_eq, iI_l, kl_0, kl_1, kl_2, kl_6, kl_9, kl_10, kl_32, kl_99, kl_999, kl_9999, kl_999999, lt_T, lt_F, le_T, le_F, eq_T, eq_F, ↓reduceIte, not_true_eq_false, not_false_eq_true, or_true, or_false, true_or, false_or, and_true, true_and, and_false, false_and, e1, e2, r1]
      · obtain ⟨b, T', w', i1, i2⟩ := ih (i + 1) (x + iI 1) (t_put T a i (T.2.2 a (i - 1))) (w.put v2) hT (by omega) (by omega)
        refine ⟨b, T', w', fun M h k hk => ?_, fun m M h k hk => ?_⟩
        · obtain ⟨k, rfl⟩ : ∃ q, k = q + 1 := ⟨k - 1, by omega⟩
          have e1 := (h a ha.1 ha.2).2.2 i (by omega) (by omega)
          have e2 := (h a ha.1 ha.2).2.2 (i - 1) (by omega) (by omega)
          obtain ⟨M1, r1, r2, r3⟩ := i1 _ (h.put (k := i) (v := T.2.2 a (i - 1)) ha (by omega)) k (by omega)
          refine ⟨M1, ?_, r2, (Fr.stL ⟨by omega, by omega⟩ (Fr.refl M)).trans r3⟩
          rw [lX7_fillGaps_4]
          simp (disch := omega) only [iI_add, iI_sub, iI_mul, iI_neg, iI_nat, addm1, ixkI, ↓sbind, sbind, ↓bdS, bdS, ↓nm_eq, ↓jn_eq, iI_lt, iI_le, iI_eq, k_0, k_1, k_2, k_3, k_4, k_5, k_6, k_7, k_8, k_9, k_10, k_11, k_12, k_13, k_14, k_15, k_16, k_17, k_18, k_19, k_20, k_21, k_22, k_23, k_24, k_27, k_30, k_32, k_48, k_57, k_59, k_60, k_61, k_62, k_63, k_64, k_72, k_78, k_80, k_82, k_97, k_99, k_100, k_122, k_244, k_255, k_268, k_280, k_300, k_432, k_650, k_900, k_901, k_999, k_1700, k_2600, k_2601, k_2602, k_2603, k_2604, k_2610, k_2618, k_2682, k_2777, k_2844, k_2868, k_2880, k_3245, k_3250, k_9551, k_9999, k_65536, k_100000, k_999999, k_1000000, k_2147483647, lI_add, lI_sub, lI_mul, lI_neg, lI_lt, lI_le, lI_eq, iI_l, kl_0, kl_1, kl_2, kl_6, kl_9, kl_10, kl_32, kl_99, kl_999, kl_9999, kl_999999, lt_T, lt_F, le_T, le_F, eq_T, eq_F, ↓reduceIte, not_true_eq_false, not_false_eq_true, or_true, or_false, true_or, false_or, and_true, true_and, and_false, false_and, e1, e2, r1]
        · obtain ⟨k, rfl⟩ : ∃ q, k = q + 1 := ⟨k - 1, by omega⟩
          have e1 := (h a ha.1 ha.2).2.2 i (by omega) (by omega)
          have e2 := (h a ha.1 ha.2).2.2 (i - 1) (by omega) (by omega)
          obtain ⟨M1, r1, r2, r3⟩ := i2 m _ (h.put w (k := i) (v := T.2.2 a (i - 1)) ha (by omega)) k (by omega)
          refine ⟨M1, ?_, r2, (Fr.stL ⟨by omega, by omega⟩ (Fr.refl M)).trans r3⟩
          rw [lX11_fill_26]
          unfold fX11_logAt
          simp (disch := omega) only [iI_add, iI_sub, iI_mul, iI_neg, iI_nat, addm1, ixkI, ↓sbind, sbind, ↓bdS, bdS, ↓nm_eq, ↓jn_eq, iI_lt, iI_le, iI_eq, k_0, k_1, k_2, k_3, k_4, k_5, k_6, k_7, k_8, k_9, k_10, k_11, k_12, k_13, k_14, k_15, k_16, k_17, k_18, k_19, k_20, k_21, k_22, k_23, k_24, k_27, k_30, k_32, k_48, k_57, k_59, k_60, k_61, k_62, k_63, k_64, k_72, k_78, k_80, k_82, k_97, k_99, k_100, k_122, k_244, k_255, k_268, k_280, k_300, k_432, k_650, k_900, k_901, k_999, k_1700, k_2600, k_2601, k_2602, k_2603, k_2604, k_2610, k_2618, k_2682, k_2777, k_2844, k_2868, k_2880, k_3245, k_3250, k_9551, k_9999, k_65536, k_100000, k_999999, k_1000000, k_2147483647, lI_add, lI_sub, lI_mul, lI_neg, lI_lt, lI_le, lI_eq, iI_l, kl_0, kl_1, kl_2, kl_6, kl_9, kl_10, kl_32, kl_99, kl_999, kl_9999, kl_999999, lt_T, lt_F, le_T, le_F, eq_T, eq_F, ↓reduceIte, not_true_eq_false, not_false_eq_true, or_true, or_false, true_or, false_or, and_true, true_and, and_false, false_and, e1, e2, r1]
    · obtain ⟨b, T', w', i1, i2⟩ := ih (i + 1) x T w hT (by omega) (by omega)
      refine ⟨b, T', w', fun M h k hk => ?_, fun m M h k hk => ?_⟩
      · obtain ⟨k, rfl⟩ : ∃ q, k = q + 1 := ⟨k - 1, by omega⟩
        have e1 := (h a ha.1 ha.2).2.2 i (by omega) (by omega)
        obtain ⟨M1, r1, r2, r3⟩ := i1 M h k (by omega)
        refine ⟨M1, ?_, r2, r3⟩
        rw [lX7_fillGaps_4]
        simp (disch := omega) only [iI_add, iI_sub, iI_mul, iI_neg, iI_nat, addm1, ixkI, ↓sbind, sbind, ↓bdS, bdS, ↓nm_eq, ↓jn_eq, iI_lt, iI_le, iI_eq, k_0, k_1, k_2, k_3, k_4, k_5, k_6, k_7, k_8, k_9, k_10, k_11, k_12, k_13, k_14, k_15, k_16, k_17, k_18, k_19, k_20, k_21, k_22, k_23, k_24, k_27, k_30, k_32, k_48, k_57, k_59, k_60, k_61, k_62, k_63, k_64, k_72, k_78, k_80, k_82, k_97, k_99, k_100, k_122, k_244, k_255, k_268, k_280, k_300, k_432, k_650, k_900, k_901, k_999, k_1700, k_2600, k_2601, k_2602, k_2603, k_2604, k_2610, k_2618, k_2682, k_2777, k_2844, k_2868, k_2880, k_3245, k_3250, k_9551, k_9999, k_65536, k_100000, k_999999, k_1000000, k_2147483647, lI_add, lI_sub, lI_mul, lI_neg, lI_lt, lI_le, lI_eq, iI_l, kl_0, kl_1, kl_2, kl_6, kl_9, kl_10, kl_32, kl_99, kl_999, kl_9999, kl_999999, lt_T, lt_F, le_T, le_F, eq_T, eq_F, ↓reduceIte, not_true_eq_false, not_false_eq_true, or_true, or_false, true_or, false_or, and_true, true_and, and_false, false_and, e1, r1]
      · obtain ⟨k, rfl⟩ : ∃ q, k = q + 1 := ⟨k - 1, by omega⟩
        have e1 := (h a ha.1 ha.2).2.2 i (by omega) (by omega)
        obtain ⟨M1, r1, r2, r3⟩ := i2 m M h k (by omega)
        refine ⟨M1, ?_, r2, r3⟩
        rw [lX11_fill_26]
        unfold fX11_logAt
        simp (disch := omega) only [iI_add, iI_sub, iI_mul, iI_neg, iI_nat, addm1, ixkI, ↓sbind, sbind, ↓bdS, bdS, ↓nm_eq, ↓jn_eq, iI_lt, iI_le, iI_eq, k_0, k_1, k_2, k_3, k_4, k_5, k_6, k_7, k_8, k_9, k_10, k_11, k_12, k_13, k_14, k_15, k_16, k_17, k_18, k_19, k_20, k_21, k_22, k_23, k_24, k_27, k_30, k_32, k_48, k_57, k_59, k_60, k_61, k_62, k_63, k_64, k_72, k_78, k_80, k_82, k_97, k_99, k_100, k_122, k_244, k_255, k_268, k_280, k_300, k_432, k_650, k_900, k_901, k_999, k_1700, k_2600, k_2601, k_2602, k_2603, k_2604, k_2610, k_2618, k_2682, k_2777, k_2844, k_2868, k_2880, k_3245, k_3250, k_9551, k_9999, k_65536, k_100000, k_999999, k_1000000, k_2147483647, lI_add, lI_sub, lI_mul, lI_neg, lI_lt, lI_le, lI_eq, iI_l, kl_0, kl_1, kl_2, kl_6, kl_9, kl_10, kl_32, kl_99, kl_999, kl_9999, kl_999999, lt_T, lt_F, le_T, le_F, eq_T, eq_F, ↓reduceIte, not_true_eq_false, not_false_eq_true, or_true, or_false, true_or, false_or, and_true, true_and, and_false, false_and, e1, r1]
theorem tc_fill (w : WT T) {a n : Int} (ha : -2147483648 ≤ a ∧ a < 2147483648) (hn : -2147483648 ≤ n ∧ n < 2147483648) {φ : Nat} (hφ : 200 ≤ φ) : ∃ (b : Int32) (st : Int) (T' : TS), WT T' ∧ (∀ M, TC1 T M → ∃ M1, fX10_fill φ 0 (iI a) (iI n) M = some (b, stI M1 0 0 (iI st)) ∧ TC1 T' M1 ∧ Fr (Rg 78 85) M M1) ∧ ∀ m M, TM1 m T M → ∃ M1, fX11_fill φ m (iI a) (iI n) M = some (b, stI M1 m 2 (iI st)) ∧ TM1 m T' M1 ∧ Fr (Rg (m + 3) (m + 5)) M M1 := by
  have pv := l_st_vals T a n 999999
  by_cases h0 : l_st T a n 999999 = 0
  · obtain ⟨h1, h2, h3, h4⟩ := l_st_0 h0
    obtain ⟨b, T', w', i1, i2⟩ := fill_l h1 h2.2 (n - 1).toNat 1 (iI 0) T w h3 (by omega) (by omega)
    refine ⟨b, 0, T', w', fun M h => ?_, fun m M h => ?_⟩
    · have e1 := c_logStatus w h (hi := 999999) ha hn (by omega) hφ
      rw [h0] at e1
      obtain ⟨M1, r1, r2, r3⟩ := i1 M h φ (by omega)
      refine ⟨M1, ?_, r2, r3⟩
      unfold fX10_fill fX7_fillGaps fX10_answer
      rw [show (999999 : Int32) = iI 999999 from rfl, e1]
      simp (disch := omega) only [iI_add, iI_sub, iI_mul, iI_neg, iI_nat, addm1, ixkI, ↓sbind, sbind, ↓bdS, bdS, ↓nm_eq, ↓jn_eq, iI_lt, iI_le, iI_eq, k_0, k_1, k_2, k_3, k_4, k_5, k_6, k_7, k_8, k_9, k_10, k_11, k_12, k_13, k_14, k_15, k_16, k_17, k_18, k_19, k_20, k_21, k_22, k_23, k_24, k_27, k_30, k_32, k_48, k_57, k_59, k_60, k_61, k_62, k_63, k_64, k_72, k_78, k_80, k_82, k_97, k_99, k_100, k_122, k_244, k_255, k_268, k_280, k_300, k_432, k_650, k_900, k_901, k_999, k_1700, k_2600, k_2601, k_2602, k_2603, k_2604, k_2610, k_2618, k_2682, k_2777, k_2844, k_2868, k_2880, k_3245, k_3250, k_9551, k_9999, k_65536, k_100000, k_999999, k_1000000, k_2147483647, lt_T, lt_F, le_T, le_F, eq_T, eq_F, ↓reduceIte, not_true_eq_false, not_false_eq_true, or_true, or_false, true_or, false_or, and_true, true_and, and_false, false_and, srf_t, r1]
    · have e1 := m_wrongLog w h (hi := 999999) ha hn (by omega) hφ
      rw [h0] at e1
      obtain ⟨M1, r1, r2, r3⟩ := i2 m M h φ (by omega)
      refine ⟨M1, ?_, r2, r3⟩
      unfold fX11_fill
      rw [show (999999 : Int64) = lI 999999 from rfl, e1]
      simp (disch := omega) only [iI_add, iI_sub, iI_mul, iI_neg, iI_nat, addm1, ixkI, ↓sbind, sbind, ↓bdS, bdS, ↓nm_eq, ↓jn_eq, iI_lt, iI_le, iI_eq, k_0, k_1, k_2, k_3, k_4, k_5, k_6, k_7, k_8, k_9, k_10, k_11, k_12, k_13, k_14, k_15, k_16, k_17, k_18, k_19, k_20, k_21, k_22, k_23, k_24, k_27, k_30, k_32, k_48, k_57, k_59, k_60, k_61, k_62, k_63, k_64, k_72, k_78, k_80, k_82, k_97, k_99, k_100, k_122, k_244, k_255, k_268, k_280, k_300, k_432, k_650, k_900, k_901, k_999, k_1700, k_2600, k_2601, k_2602, k_2603, k_2604, k_2610, k_2618, k_2682, k_2777, k_2844, k_2868, k_2880, k_3245, k_3250, k_9551, k_9999, k_65536, k_100000, k_999999, k_1000000, k_2147483647, lt_T, lt_F, le_T, le_F, eq_T, eq_F, ↓reduceIte, not_true_eq_false, not_false_eq_true, or_true, or_false, true_or, false_or, and_true, true_and, and_false, false_and, r1]
  · refine ⟨iI (-1), l_st T a n 999999, T, w, fun M h => ⟨M, ?_, h, Fr.refl M⟩, fun m M h => ⟨M, ?_, h, Fr.refl M⟩⟩
    · have e1 := c_logStatus w h (hi := 999999) ha hn (by omega) hφ
      unfold fX10_fill fX10_refuse
      rw [show (999999 : Int32) = iI 999999 from rfl, e1]
      simp (disch := omega) only [iI_add, iI_sub, iI_mul, iI_neg, iI_nat, addm1, ixkI, ↓sbind, sbind, ↓bdS, bdS, ↓nm_eq, ↓jn_eq, iI_lt, iI_le, iI_eq, k_0, k_1, k_2, k_3, k_4, k_5, k_6, k_7, k_8, k_9, k_10, k_11, k_12, k_13, k_14, k_15, k_16, k_17, k_18, k_19, k_20, k_21, k_22, k_23, k_24, k_27, k_30, k_32, k_48, k_57, k_59, k_60, k_61, k_62, k_63, k_64, k_72, k_78, k_80, k_82, k_97, k_99, k_100, k_122, k_244, k_255, k_268, k_280, k_300, k_432, k_650, k_900, k_901, k_999, k_1700, k_2600, k_2601, k_2602, k_2603, k_2604, k_2610, k_2618, k_2682, k_2777, k_2844, k_2868, k_2880, k_3245, k_3250, k_9551, k_9999, k_65536, k_100000, k_999999, k_1000000, k_2147483647, lt_T, lt_F, le_T, le_F, eq_T, eq_F, ↓reduceIte, not_true_eq_false, not_false_eq_true, or_true, or_false, true_or, false_or, and_true, true_and, and_false, false_and]
    · have e1 := m_wrongLog w h (hi := 999999) ha hn (by omega) hφ
      unfold fX11_fill fX11_refuse
      rw [show (999999 : Int64) = lI 999999 from rfl, e1]
      simp (disch := omega) only [iI_add, iI_sub, iI_mul, iI_neg, iI_nat, addm1, ixkI, ↓sbind, sbind, ↓bdS, bdS, ↓nm_eq, ↓jn_eq, iI_lt, iI_le, iI_eq, k_0, k_1, k_2, k_3, k_4, k_5, k_6, k_7, k_8, k_9, k_10, k_11, k_12, k_13, k_14, k_15, k_16, k_17, k_18, k_19, k_20, k_21, k_22, k_23, k_24, k_27, k_30, k_32, k_48, k_57, k_59, k_60, k_61, k_62, k_63, k_64, k_72, k_78, k_80, k_82, k_97, k_99, k_100, k_122, k_244, k_255, k_268, k_280, k_300, k_432, k_650, k_900, k_901, k_999, k_1700, k_2600, k_2601, k_2602, k_2603, k_2604, k_2610, k_2618, k_2682, k_2777, k_2844, k_2868, k_2880, k_3245, k_3250, k_9551, k_9999, k_65536, k_100000, k_999999, k_1000000, k_2147483647, lt_T, lt_F, le_T, le_F, eq_T, eq_F, ↓reduceIte, not_true_eq_false, not_false_eq_true, or_true, or_false, true_or, false_or, and_true, true_and, and_false, false_and]
end FY
