/-! odds as a call -/
section OC2
variable {F : Fld} {M : Mem} {Y : Yr} {N : Int}
def mO2 (m : Nat) (M M1 : Mem) : Prop := (M1.2.1 m = M.2.1 m ∧ ∀ i, i ≠ 39 → i ≠ 40 → M1.1 m i = M.1 m i) ∧ (∀ e : Int, 0 ≤ e → e < 3250 → M1.1 (m + 1) e.toNat = M.1 (m + 1) e.toNat) ∧ Fr (mL m) M M1
theorem mO2.refl (m : Nat) (M : Mem) : mO2 m M M := ⟨⟨rfl, fun _ _ _ => rfl⟩, fun _ _ _ => rfl, Fr.refl M⟩
theorem tl_odds (w : WF F) (yi : YI F N Y) {h r sd n : Int} (hh : -2147483648 ≤ h ∧ h < 2147483648) (hr : -2147483648 ≤ r ∧ r < 2147483648) (hs : -2147483648 ≤ sd ∧ sd < 2147483648) (hn : -2147483648 ≤ n ∧ n < 2147483648) {φ : Nat} (hφ : 30000 < φ) : ∃ q : Fq, (∀ g gs y M (nm : NMs), dj 76 gs y → (g + 13 < gs ∨ gs + 13 < g) → (g + 13 < 76 ∨ 77 < g) → 0 < gs → M.2.2 0 7 = some g → isO 2 g → M.2.2 0 8 = some gs → isO 2 gs → M.2.2 0 9 = some y → isO 8 y → GR g F M → NCn g F nm M → YW y N Y M → ∃ M1, fX10_odds φ 0 (iI h) (iI r) (iI sd) (iI n) M = fC 0 M1 q ∧ Fr (cO gs) M M1) ∧ ∀ m M, MR m 0 F M → YM m N Y M → ∃ M1, fX11_odds φ m (iI h) (iI r) (iI sd) (iI n) M = fM m M1 q ∧ mO2 m M M1 := by
  have w0 := w.n0
  have w1 := w.n1
  have yb := yi.bd
  by_cases h1 : 0 ≤ h ∧ h < F 0 1 0
  rotate_left
  · refine ⟨.inr 1, fun g gs y M nm _ _ _ _ e7 o7 e8 o8 e9 o9 G _ _ => ⟨M, ?_, Fr.refl M⟩, fun m M R _ => ⟨M, ?_, mO2.refl m M⟩⟩
    · have a1 := c_isHole w G hh
      rw [s_in_f h1] at a1
      unfold fX10_odds fX10_deny fC
      simp (disch := omega) only [iI_add, iI_sub, iI_mul, iI_neg, iI_nat, addm1, ixkI, ↓sbind, sbind, ↓bdS, bdS, ↓nm_eq, ↓jn_eq, iI_lt, iI_le, iI_eq, k_0, k_1, k_2, k_3, k_4, k_5, k_6, k_7, k_8, k_9, k_10, k_11, k_12, k_13, k_14, k_15, k_16, k_17, k_18, k_19, k_20, k_21, k_22, k_23, k_24, k_27, k_30, k_32, k_48, k_57, k_59, k_60, k_61, k_62, k_63, k_64, k_72, k_78, k_80, k_82, k_97, k_99, k_100, k_122, k_244, k_255, k_268, k_280, k_300, k_432, k_650, k_900, k_901, k_999, k_1700, k_2600, k_2601, k_2602, k_2603, k_2604, k_2610, k_2618, k_2682, k_2777, k_2844, k_2868, k_2880, k_3245, k_3250, k_9551, k_9999, k_65536, k_100000, k_999999, k_1000000, k_2147483647, lt_T, lt_F, le_T, le_F, eq_T, eq_F, ↓reduceIte, not_true_eq_false, not_false_eq_true, or_true, or_false, true_or, false_or, and_true, true_and, and_false, false_and, bI_f, e7, ldr_ok o7, a1, i01_a, if_true]
    · have a1 := m_isHole w R hh
      rw [s_in_f h1] at a1
      unfold fX11_odds fX11_is fM
      simp (disch := omega) only [iI_add, iI_sub, iI_mul, iI_neg, iI_nat, addm1, ixkI, ↓sbind, sbind, ↓bdS, bdS, ↓nm_eq, ↓jn_eq, iI_lt, iI_le, iI_eq, k_0, k_1, k_2, k_3, k_4, k_5, k_6, k_7, k_8, k_9, k_10, k_11, k_12, k_13, k_14, k_15, k_16, k_17, k_18, k_19, k_20, k_21, k_22, k_23, k_24, k_27, k_30, k_32, k_48, k_57, k_59, k_60, k_61, k_62, k_63, k_64, k_72, k_78, k_80, k_82, k_97, k_99, k_100, k_122, k_244, k_255, k_268, k_280, k_300, k_432, k_650, k_900, k_901, k_999, k_1700, k_2600, k_2601, k_2602, k_2603, k_2604, k_2610, k_2618, k_2682, k_2777, k_2844, k_2868, k_2880, k_3245, k_3250, k_9551, k_9999, k_65536, k_100000, k_999999, k_1000000, k_2147483647, lt_T, lt_F, le_T, le_F, eq_T, eq_F, ↓reduceIte, not_true_eq_false, not_false_eq_true, or_true, or_false, true_or, false_or, and_true, true_and, and_false, false_and, bI_f, a1, i01_a, if_true]
  by_cases h2 : 0 ≤ r ∧ r < F 0 0 0
  rotate_left
  · refine ⟨.inr 1, fun g gs y M nm _ _ _ _ e7 o7 e8 o8 e9 o9 G _ _ => ⟨M, ?_, Fr.refl M⟩, fun m M R _ => ⟨M, ?_, mO2.refl m M⟩⟩
    · have a1 := c_isHole w G hh
      have a2 := c_isRock w G hr
      rw [s_in_t h1] at a1
      rw [s_in_f h2] at a2
      unfold fX10_odds fX10_deny fC
      simp (disch := omega) only [iI_add, iI_sub, iI_mul, iI_neg, iI_nat, addm1, ixkI, ↓sbind, sbind, ↓bdS, bdS, ↓nm_eq, ↓jn_eq, iI_lt, iI_le, iI_eq, k_0, k_1, k_2, k_3, k_4, k_5, k_6, k_7, k_8, k_9, k_10, k_11, k_12, k_13, k_14, k_15, k_16, k_17, k_18, k_19, k_20, k_21, k_22, k_23, k_24, k_27, k_30, k_32, k_48, k_57, k_59, k_60, k_61, k_62, k_63, k_64, k_72, k_78, k_80, k_82, k_97, k_99, k_100, k_122, k_244, k_255, k_268, k_280, k_300, k_432, k_650, k_900, k_901, k_999, k_1700, k_2600, k_2601, k_2602, k_2603, k_2604, k_2610, k_2618, k_2682, k_2777, k_2844, k_2868, k_2880, k_3245, k_3250, k_9551, k_9999, k_65536, k_100000, k_999999, k_1000000, k_2147483647, lt_T, lt_F, le_T, le_F, eq_T, eq_F, ↓reduceIte, not_true_eq_false, not_false_eq_true, or_true, or_false, true_or, false_or, and_true, true_and, and_false, false_and, bI_t, bI_f, e7, ldr_ok o7, a1, a2, i01_a, if_true]
    · have a1 := m_isHole w R hh
      have a2 := m_isRock w R hr
      rw [s_in_t h1] at a1
      rw [s_in_f h2] at a2
      unfold fX11_odds fX11_is fM
      simp (disch := omega) only [iI_add, iI_sub, iI_mul, iI_neg, iI_nat, addm1, ixkI, ↓sbind, sbind, ↓bdS, bdS, ↓nm_eq, ↓jn_eq, iI_lt, iI_le, iI_eq, k_0, k_1, k_2, k_3, k_4, k_5, k_6, k_7, k_8, k_9, k_10, k_11, k_12, k_13, k_14, k_15, k_16, k_17, k_18, k_19, k_20, k_21, k_22, k_23, k_24, k_27, k_30, k_32, k_48, k_57, k_59, k_60, k_61, k_62, k_63, k_64, k_72, k_78, k_80, k_82, k_97, k_99, k_100, k_122, k_244, k_255, k_268, k_280, k_300, k_432, k_650, k_900, k_901, k_999, k_1700, k_2600, k_2601, k_2602, k_2603, k_2604, k_2610, k_2618, k_2682, k_2777, k_2844, k_2868, k_2880, k_3245, k_3250, k_9551, k_9999, k_65536, k_100000, k_999999, k_1000000, k_2147483647, lt_T, lt_F, le_T, le_F, eq_T, eq_F, ↓reduceIte, not_true_eq_false, not_false_eq_true, or_true, or_false, true_or, false_or, and_true, true_and, and_false, false_and, bI_t, bI_f, a1, a2, i01_a, if_true]
  by_cases h3 : 1 ≤ n ∧ n ≤ 10
  rotate_left
  · refine ⟨.inr 1, fun g gs y M nm _ _ _ _ e7 o7 e8 o8 e9 o9 G _ _ => ⟨M, ?_, Fr.refl M⟩, fun m M R _ => ⟨M, ?_, mO2.refl m M⟩⟩
    · have a1 := c_isHole w G hh
      have a2 := c_isRock w G hr
      have a3 := c_isWithin (M := M) (a := n) (b := 1) (d := 10) hn (by omega) (by omega)
      rw [s_in_t h1] at a1
      rw [s_in_t h2] at a2
      rw [decide_eq_false h3] at a3
      unfold fX10_odds fX10_deny fC
      simp (disch := omega) only [iI_add, iI_sub, iI_mul, iI_neg, iI_nat, addm1, ixkI, ↓sbind, sbind, ↓bdS, bdS, ↓nm_eq, ↓jn_eq, iI_lt, iI_le, iI_eq, k_0, k_1, k_2, k_3, k_4, k_5, k_6, k_7, k_8, k_9, k_10, k_11, k_12, k_13, k_14, k_15, k_16, k_17, k_18, k_19, k_20, k_21, k_22, k_23, k_24, k_27, k_30, k_32, k_48, k_57, k_59, k_60, k_61, k_62, k_63, k_64, k_72, k_78, k_80, k_82, k_97, k_99, k_100, k_122, k_244, k_255, k_268, k_280, k_300, k_432, k_650, k_900, k_901, k_999, k_1700, k_2600, k_2601, k_2602, k_2603, k_2604, k_2610, k_2618, k_2682, k_2777, k_2844, k_2868, k_2880, k_3245, k_3250, k_9551, k_9999, k_65536, k_100000, k_999999, k_1000000, k_2147483647, lt_T, lt_F, le_T, le_F, eq_T, eq_F, ↓reduceIte, not_true_eq_false, not_false_eq_true, or_true, or_false, true_or, false_or, and_true, true_and, and_false, false_and, bI_t, bI_f, e7, ldr_ok o7, a1, a2, a3, i01_a, if_true]
    · have a1 := m_isHole w R hh
      have a2 := m_isRock w R hr
      have a3 := m_isFrom (M := M) (a := n) (b := 1) (c := 10) (by omega) (by omega) (by omega)
      have a4 := m_isFrom (M := M) (a := sd) (b := 0) (c := 9999) (by omega) (by omega) (by omega)
      rw [s_in_t h1] at a1
      rw [s_in_t h2] at a2
      rw [decide_eq_false h3] at a3
      unfold fX11_odds fX11_is fM
      rw [a1, a2, iI_l hn, iI_l hs, kl_0, kl_1, kl_10, kl_9999, a3, a4]
      by_cases q : 0 ≤ sd ∧ sd ≤ 9999
      · rw [decide_eq_true q]
        simp (disch := omega) only [iI_add, iI_sub, iI_mul, iI_neg, iI_nat, addm1, ixkI, ↓sbind, sbind, ↓bdS, bdS, ↓nm_eq, ↓jn_eq, iI_lt, iI_le, iI_eq, k_0, k_1, k_2, k_3, k_4, k_5, k_6, k_7, k_8, k_9, k_10, k_11, k_12, k_13, k_14, k_15, k_16, k_17, k_18, k_19, k_20, k_21, k_22, k_23, k_24, k_27, k_30, k_32, k_48, k_57, k_59, k_60, k_61, k_62, k_63, k_64, k_72, k_78, k_80, k_82, k_97, k_99, k_100, k_122, k_244, k_255, k_268, k_280, k_300, k_432, k_650, k_900, k_901, k_999, k_1700, k_2600, k_2601, k_2602, k_2603, k_2604, k_2610, k_2618, k_2682, k_2777, k_2844, k_2868, k_2880, k_3245, k_3250, k_9551, k_9999, k_65536, k_100000, k_999999, k_1000000, k_2147483647, lt_T, lt_F, le_T, le_F, eq_T, eq_F, ↓reduceIte, not_true_eq_false, not_false_eq_true, or_true, or_false, true_or, false_or, and_true, true_and, and_false, false_and, bI_t, bI_f, i01_a, if_true]
      · rw [decide_eq_false q]
        simp (disch := omega) only [iI_add, iI_sub, iI_mul, iI_neg, iI_nat, addm1, ixkI, ↓sbind, sbind, ↓bdS, bdS, ↓nm_eq, ↓jn_eq, iI_lt, iI_le, iI_eq, k_0, k_1, k_2, k_3, k_4, k_5, k_6, k_7, k_8, k_9, k_10, k_11, k_12, k_13, k_14, k_15, k_16, k_17, k_18, k_19, k_20, k_21, k_22, k_23, k_24, k_27, k_30, k_32, k_48, k_57, k_59, k_60, k_61, k_62, k_63, k_64, k_72, k_78, k_80, k_82, k_97, k_99, k_100, k_122, k_244, k_255, k_268, k_280, k_300, k_432, k_650, k_900, k_901, k_999, k_1700, k_2600, k_2601, k_2602, k_2603, k_2604, k_2610, k_2618, k_2682, k_2777, k_2844, k_2868, k_2880, k_3245, k_3250, k_9551, k_9999, k_65536, k_100000, k_999999, k_1000000, k_2147483647, lt_T, lt_F, le_T, le_F, eq_T, eq_F, ↓reduceIte, not_true_eq_false, not_false_eq_true, or_true, or_false, true_or, false_or, and_true, true_and, and_false, false_and, bI_t, bI_f, i01_a, if_true]
  by_cases h4 : 0 ≤ sd ∧ sd ≤ 9999 - n + 1
  rotate_left
  · refine ⟨.inr 1, fun g gs y M nm _ _ _ _ e7 o7 e8 o8 e9 o9 G _ _ => ⟨M, ?_, Fr.refl M⟩, fun m M R _ => ⟨M, ?_, mO2.refl m M⟩⟩
    · have a1 := c_isHole w G hh
      have a2 := c_isRock w G hr
      have a3 := c_isWithin (M := M) (a := n) (b := 1) (d := 10) hn (by omega) (by omega)
      have a4 := c_isWithin (M := M) (a := sd) (b := 0) (d := 9999 - n + 1) hs (by omega) (by omega)
      rw [s_in_t h1] at a1
      rw [s_in_t h2] at a2
      rw [decide_eq_true h3] at a3
      rw [decide_eq_false h4] at a4
      unfold fX10_odds fX10_deny fC
      simp (disch := omega) only [iI_add, iI_sub, iI_mul, iI_neg, iI_nat, addm1, ixkI, ↓sbind, sbind, ↓bdS, bdS, ↓nm_eq, ↓jn_eq, iI_lt, iI_le, iI_eq, k_0, k_1, k_2, k_3, k_4, k_5, k_6, k_7, k_8, k_9, k_10, k_11, k_12, k_13, k_14, k_15, k_16, k_17, k_18, k_19, k_20, k_21, k_22, k_23, k_24, k_27, k_30, k_32, k_48, k_57, k_59, k_60, k_61, k_62, k_63, k_64, k_72, k_78, k_80, k_82, k_97, k_99, k_100, k_122, k_244, k_255, k_268, k_280, k_300, k_432, k_650, k_900, k_901, k_999, k_1700, k_2600, k_2601, k_2602, k_2603, k_2604, k_2610, k_2618, k_2682, k_2777, k_2844, k_2868, k_2880, k_3245, k_3250, k_9551, k_9999, k_65536, k_100000, k_999999, k_1000000, k_2147483647, lt_T, lt_F, le_T, le_F, eq_T, eq_F, ↓reduceIte, not_true_eq_false, not_false_eq_true, or_true, or_false, true_or, false_or, and_true, true_and, and_false, false_and, bI_t, bI_f, e7, ldr_ok o7, a1, a2, a3, a4, i01_a, if_true]
    · have a1 := m_isHole w R hh
      have a2 := m_isRock w R hr
      have a3 := m_isFrom (M := M) (a := n) (b := 1) (c := 10) (by omega) (by omega) (by omega)
      have a4 := m_isFrom (M := M) (a := sd) (b := 0) (c := 9999) (by omega) (by omega) (by omega)
      rw [s_in_t h1] at a1
      rw [s_in_t h2] at a2
      rw [decide_eq_true h3] at a3
      unfold fX11_odds fX11_is fM
      rw [a1, a2, iI_l hn, iI_l hs, kl_0, kl_1, kl_10, kl_9999, a3, a4]
      by_cases q : 0 ≤ sd ∧ sd ≤ 9999
      · rw [decide_eq_true q]
        simp (disch := omega) only [iI_add, iI_sub, iI_mul, iI_neg, iI_nat, addm1, ixkI, ↓sbind, sbind, ↓bdS, bdS, ↓nm_eq, ↓jn_eq, iI_lt, iI_le, iI_eq, k_0, k_1, k_2, k_3, k_4, k_5, k_6, k_7, k_8, k_9, k_10, k_11, k_12, k_13, k_14, k_15, k_16, k_17, k_18, k_19, k_20, k_21, k_22, k_23, k_24, k_27, k_30, k_32, k_48, k_57, k_59, k_60, k_61, k_62, k_63, k_64, k_72, k_78, k_80, k_82, k_97, k_99, k_100, k_122, k_244, k_255, k_268, k_280, k_300, k_432, k_650, k_900, k_901, k_999, k_1700, k_2600, k_2601, k_2602, k_2603, k_2604, k_2610, k_2618, k_2682, k_2777, k_2844, k_2868, k_2880, k_3245, k_3250, k_9551, k_9999, k_65536, k_100000, k_999999, k_1000000, k_2147483647, lt_T, lt_F, le_T, le_F, eq_T, eq_F, ↓reduceIte, not_true_eq_false, not_false_eq_true, or_true, or_false, true_or, false_or, and_true, true_and, and_false, false_and, bI_t, bI_f, i01_a, if_true]
      · rw [decide_eq_false q]
        simp (disch := omega) only [iI_add, iI_sub, iI_mul, iI_neg, iI_nat, addm1, ixkI, ↓sbind, sbind, ↓bdS, bdS, ↓nm_eq, ↓jn_eq, iI_lt, iI_le, iI_eq, k_0, k_1, k_2, k_3, k_4, k_5, k_6, k_7, k_8, k_9, k_10, k_11, k_12, k_13, k_14, k_15, k_16, k_17, k_18, k_19, k_20, k_21, k_22, k_23, k_24, k_27, k_30, k_32, k_48, k_57, k_59, k_60, k_61, k_62, k_63, k_64, k_72, k_78, k_80, k_82, k_97, k_99, k_100, k_122, k_244, k_255, k_268, k_280, k_300, k_432, k_650, k_900, k_901, k_999, k_1700, k_2600, k_2601, k_2602, k_2603, k_2604, k_2610, k_2618, k_2682, k_2777, k_2844, k_2868, k_2880, k_3245, k_3250, k_9551, k_9999, k_65536, k_100000, k_999999, k_1000000, k_2147483647, lt_T, lt_F, le_T, le_F, eq_T, eq_F, ↓reduceIte, not_true_eq_false, not_false_eq_true, or_true, or_false, true_or, false_or, and_true, true_and, and_false, false_and, bI_t, bI_f, i01_a, if_true]
  by_cases h5 : N = -1
  · refine ⟨.inr 6, fun g gs y M nm _ _ _ _ e7 o7 e8 o8 e9 o9 G _ hY => ⟨M, ?_, Fr.refl M⟩, fun m M R hY => ⟨M, ?_, mO2.refl m M⟩⟩
    · have a1 := c_isHole w G hh
      have a2 := c_isRock w G hr
      have a3 := c_isWithin (M := M) (a := n) (b := 1) (d := 10) hn (by omega) (by omega)
      have a4 := c_isWithin (M := M) (a := sd) (b := 0) (d := 9999 - n + 1) hs (by omega) (by omega)
      have a5 := hY.1
      rw [s_in_t h1] at a1
      rw [s_in_t h2] at a2
      rw [decide_eq_true h3] at a3
      rw [decide_eq_true h4] at a4
      rw [decide_eq_false (by omega)] at a5
      unfold fX10_odds fX10_deny fC
      simp (disch := omega) only [iI_add, iI_sub, iI_mul, iI_neg, iI_nat, addm1, ixkI, ↓sbind, sbind, ↓bdS, bdS, ↓nm_eq, ↓jn_eq, iI_lt, iI_le, iI_eq, k_0, k_1, k_2, k_3, k_4, k_5, k_6, k_7, k_8, k_9, k_10, k_11, k_12, k_13, k_14, k_15, k_16, k_17, k_18, k_19, k_20, k_21, k_22, k_23, k_24, k_27, k_30, k_32, k_48, k_57, k_59, k_60, k_61, k_62, k_63, k_64, k_72, k_78, k_80, k_82, k_97, k_99, k_100, k_122, k_244, k_255, k_268, k_280, k_300, k_432, k_650, k_900, k_901, k_999, k_1700, k_2600, k_2601, k_2602, k_2603, k_2604, k_2610, k_2618, k_2682, k_2777, k_2844, k_2868, k_2880, k_3245, k_3250, k_9551, k_9999, k_65536, k_100000, k_999999, k_1000000, k_2147483647, lt_T, lt_F, le_T, le_F, eq_T, eq_F, ↓reduceIte, not_true_eq_false, not_false_eq_true, or_true, or_false, true_or, false_or, and_true, true_and, and_false, false_and, bI_t, bI_f, e7, ldr_ok o7, e9, ldr_ok o9, a1, a2, a3, a4, a5, i01_a, if_true]
    · have a1 := m_isHole w R hh
      have a2 := m_isRock w R hr
      have a3 := m_isFrom (M := M) (a := n) (b := 1) (c := 10) (by omega) (by omega) (by omega)
      have a4 := m_isFrom (M := M) (a := sd) (b := 0) (c := 9999) (by omega) (by omega) (by omega)
      have a5 : M.1 (m + 1) (Int.toNat 4) = iI N := hY.1
      rw [s_in_t h1] at a1
      rw [s_in_t h2] at a2
      rw [decide_eq_true h3] at a3
      rw [decide_eq_true (by omega)] at a4
      unfold fX11_odds fX11_is fM
      rw [a1, a2, iI_l hn, iI_l hs, kl_0, kl_1, kl_10, kl_9999, a3, a4]
      simp (disch := omega) only [iI_add, iI_sub, iI_mul, iI_neg, iI_nat, addm1, ixkI, ↓sbind, sbind, ↓bdS, bdS, ↓nm_eq, ↓jn_eq, iI_lt, iI_le, iI_eq, k_0, k_1, k_2, k_3, k_4, k_5, k_6, k_7, k_8, k_9, k_10, k_11, k_12, k_13, k_14, k_15, k_16, k_17, k_18, k_19, k_20, k_21, k_22, k_23, k_24, k_27, k_30, k_32, k_48, k_57, k_59, k_60, k_61, k_62, k_63, k_64, k_72, k_78, k_80, k_82, k_97, k_99, k_100, k_122, k_244, k_255, k_268, k_280, k_300, k_432, k_650, k_900, k_901, k_999, k_1700, k_2600, k_2601, k_2602, k_2603, k_2604, k_2610, k_2618, k_2682, k_2777, k_2844, k_2868, k_2880, k_3245, k_3250, k_9551, k_9999, k_65536, k_100000, k_999999, k_1000000, k_2147483647, lt_T, lt_F, le_T, le_F, eq_T, eq_F, ↓reduceIte, not_true_eq_false, not_false_eq_true, or_true, or_false, true_or, false_or, and_true, true_and, and_false, false_and, bI_t, bI_f, a5, i01_a, if_true]
  · have yj : (0 ≤ N ∧ N ≤ 60) ∧ YN N Y ∧ ∀ x, 0 ≤ x → x < N → WS F Y x := by
      rcases yi with q | q
      · exact absurd q h5
      · exact q
    obtain ⟨v', v0, ic, im⟩ := odds_l w yj.2.1 yj.1 yj.2.2 h1 h2 (sd := sd) (n := n) h4.1 h3 (by omega) hφ n.toNat 0 0 (by omega) (by omega) (by omega) (by omega)
    have et : ∀ c M, fX10_tell φ c (lI v') (lI n) M = fC c M (.inl (fr v' n)) := fun c M => by
      have := c_tell (c := c) (M := M) (n := v') (b := n) (by omega) (by omega) (by omega) (φ := φ) (by omega)
      rw [show s_sg n * v' = v' from by unfold s_sg; rw [if_pos (by omega), Int.one_mul], show s_abs n = n from if_pos (by omega)] at this
      exact this
    have em : ∀ m M, fX11_tellsBy φ m (lI v') (lI n) M = fM m M (.inl (fr v' n)) := fun m M => m_tellsBy (by omega) (by omega) (by omega)
    refine ⟨.inl (fr v' n), fun g gs y M nm dd q1 q2 q3 e7 o7 e8 o8 e9 o9 G hnm hY => ?_, fun m M R hY => ?_⟩
    · obtain ⟨M1, b1, b2⟩ := ic g gs y M nm (fun (v26 : Int32) (M27 : Mem) => bd (fX10_tell φ 0 (v26.toInt64) ((iI n).toInt64) M27) fun v28 M29 => if v28 = 0 ∨ v28 = 1 then some (v28, M29) else none) dd q1 q2 q3 e7 o7 e8 o8 e9 o9 G hnm (hY.2 h5) φ (by omega)
      refine ⟨M1, ?_, b2⟩
      have a1 := c_isHole w G hh
      have a2 := c_isRock w G hr
      have a3 := c_isWithin (M := M) (a := n) (b := 1) (d := 10) hn (by omega) (by omega)
      have a4 := c_isWithin (M := M) (a := sd) (b := 0) (d := 9999 - n + 1) hs (by omega) (by omega)
      have a5 := hY.1
      rw [s_in_t h1] at a1
      rw [s_in_t h2] at a2
      rw [decide_eq_true h3] at a3
      rw [decide_eq_true h4] at a4
      rw [decide_eq_true h5] at a5
      have b1' : lX10_odds_84 (fun (v26 : Int32) (M27 : Mem) => bd (fX10_tell φ 0 (v26.toInt64) ((iI n).toInt64) M27) fun v28 M29 => if v28 = 0 ∨ v28 = 1 then some (v28, M29) else none) φ 0 (iI h) (iI r) (iI sd) (iI n) φ (0 : Int32) (0 : Int32) M = fC 0 M1 (.inl (fr v' n)) := by
        refine Eq.trans b1 ?_
        show (bd (fX10_tell φ 0 ((iI v').toInt64) ((iI n).toInt64) M1) fun v28 M29 => if v28 = 0 ∨ v28 = 1 then some (v28, M29) else none) = _
        rw [iI_l (a := v') (by omega), iI_l hn, et]
        unfold fC
        simp (disch := omega) only [iI_add, iI_sub, iI_mul, iI_neg, iI_nat, addm1, ixkI, ↓sbind, sbind, ↓bdS, bdS, ↓nm_eq, ↓jn_eq, iI_lt, iI_le, iI_eq, k_0, k_1, k_2, k_3, k_4, k_5, k_6, k_7, k_8, k_9, k_10, k_11, k_12, k_13, k_14, k_15, k_16, k_17, k_18, k_19, k_20, k_21, k_22, k_23, k_24, k_27, k_30, k_32, k_48, k_57, k_59, k_60, k_61, k_62, k_63, k_64, k_72, k_78, k_80, k_82, k_97, k_99, k_100, k_122, k_244, k_255, k_268, k_280, k_300, k_432, k_650, k_900, k_901, k_999, k_1700, k_2600, k_2601, k_2602, k_2603, k_2604, k_2610, k_2618, k_2682, k_2777, k_2844, k_2868, k_2880, k_3245, k_3250, k_9551, k_9999, k_65536, k_100000, k_999999, k_1000000, k_2147483647, lt_T, lt_F, le_T, le_F, eq_T, eq_F, ↓reduceIte, not_true_eq_false, not_false_eq_true, or_true, or_false, true_or, false_or, and_true, true_and, and_false, false_and, i01_b, if_true]
      unfold fX10_odds
      simp only [e7, ldr_ok o7, sbind, a1]
      rw [if_neg (by rw [bI_t]; decide), a2]
      simp only [sbind]
      rw [if_neg (by rw [bI_t]; decide), k_1, k_10, a3]
      simp only [sbind]
      rw [if_neg (by rw [bI_t]; decide), k_0, k_9999, iI_sub, iI_add, a4]
      simp only [sbind]
      rw [if_neg (by rw [bI_t]; decide), e9, ldr_ok o9]
      simp only [sbind]
      rw [if_neg (by rw [a5, bI_t]; decide)]
      exact b1'
    · have a5 : M.1 (m + 1) (Int.toNat 4) = iI N := hY.1
      obtain ⟨M1, c1, c2, c3⟩ := m_odds80 (m := m) (fun (M18 : Mem) => lX11_odds_118 (fun (v27 : Int32) (M28 : Mem) => bd (fX11_tellsBy φ m (v27.toInt64) ((iI n).toInt64) M28) fun v29 M30 => if v29 = 0 ∨ v29 = 1 then some (v29, M30) else none) φ m (iI h) (iI r) (iI sd) (iI n) φ (0 : Int32) (0 : Int32) M18) (iI h) (iI r) (iI sd) (iI n) M φ 0 (by omega) (by omega) (by omega) M (fun e e0 => by rw [if_neg (by omega)])
      have ce : ∀ e : Int, 0 ≤ e → e < 3250 → M1.1 (m + 1) e.toNat = M.1 (m + 1) e.toNat := fun e e0 e1 => by rw [c3 e e0, if_neg (by omega)]
      have R1 : MR m 0 F M1 := R.cell (by omega) (fun k k0 k1 => ce k (by omega) (by omega))
      have Y1 : YM m N Y M1 := ⟨(ce 4 (by omega) (by omega)).trans hY.1, fun x c x0 x1 d0 d1 => by rw [ce _ (by omega) (by omega)]; exact hY.2 x c x0 x1 d0 d1⟩
      obtain ⟨M2, d1, d2⟩ := im m M1 (fun (v27 : Int32) (M28 : Mem) => bd (fX11_tellsBy φ m (v27.toInt64) ((iI n).toInt64) M28) fun v29 M30 => if v29 = 0 ∨ v29 = 1 then some (v29, M30) else none) R1 Y1 (fun e e0 e1 => by rw [c3 _ (by omega), if_pos (by omega), ce e e0 (by omega), show 3250 + e - 3250 = e from by omega]) φ (by omega)
      have t1 : M1.1 m = M.1 m := (c2 m (fun q => by have := q.1; omega)).1
      refine ⟨M2, ?_, ⟨d2.1.1.trans (c2 m (fun q => by have := q.1; omega)).2.1, fun j j1 j2 => by rw [d2.1.2 j j1 j2, t1]⟩, fun e e0 e1 => (d2.2.1 e e0).trans (ce e e0 e1), (c2.mono (fun z q => Or.inr (Or.inl (by have := q.1; have := q.2; omega)))).trans d2.2.2⟩
      have a1 := m_isHole w R hh
      have a2 := m_isRock w R hr
      have a3 := m_isFrom (M := M) (a := n) (b := 1) (c := 10) (by omega) (by omega) (by omega)
      have a4 := m_isFrom (M := M) (a := sd) (b := 0) (c := 9999) (by omega) (by omega) (by omega)
      rw [s_in_t h1] at a1
      rw [s_in_t h2] at a2
      rw [decide_eq_true h3] at a3
      rw [decide_eq_true (by omega)] at a4
      have b1' : lX11_odds_80 (fun (M18 : Mem) => lX11_odds_118 (fun (v27 : Int32) (M28 : Mem) => bd (fX11_tellsBy φ m (v27.toInt64) ((iI n).toInt64) M28) fun v29 M30 => if v29 = 0 ∨ v29 = 1 then some (v29, M30) else none) φ m (iI h) (iI r) (iI sd) (iI n) φ (0 : Int32) (0 : Int32) M18) m (iI h) (iI r) (iI sd) (iI n) φ (0 : Int32) M = fM m M2 (.inl (fr v' n)) := by
        refine Eq.trans c1 (Eq.trans d1 ?_)
        show (bd (fX11_tellsBy φ m ((iI v').toInt64) ((iI n).toInt64) M2) fun v29 M30 => if v29 = 0 ∨ v29 = 1 then some (v29, M30) else none) = _
        rw [iI_l (a := v') (by omega), iI_l hn, em]
        unfold fM
        simp (disch := omega) only [iI_add, iI_sub, iI_mul, iI_neg, iI_nat, addm1, ixkI, ↓sbind, sbind, ↓bdS, bdS, ↓nm_eq, ↓jn_eq, iI_lt, iI_le, iI_eq, k_0, k_1, k_2, k_3, k_4, k_5, k_6, k_7, k_8, k_9, k_10, k_11, k_12, k_13, k_14, k_15, k_16, k_17, k_18, k_19, k_20, k_21, k_22, k_23, k_24, k_27, k_30, k_32, k_48, k_57, k_59, k_60, k_61, k_62, k_63, k_64, k_72, k_78, k_80, k_82, k_97, k_99, k_100, k_122, k_244, k_255, k_268, k_280, k_300, k_432, k_650, k_900, k_901, k_999, k_1700, k_2600, k_2601, k_2602, k_2603, k_2604, k_2610, k_2618, k_2682, k_2777, k_2844, k_2868, k_2880, k_3245, k_3250, k_9551, k_9999, k_65536, k_100000, k_999999, k_1000000, k_2147483647, lt_T, lt_F, le_T, le_F, eq_T, eq_F, ↓reduceIte, not_true_eq_false, not_false_eq_true, or_true, or_false, true_or, false_or, and_true, true_and, and_false, false_and, i01_b, if_true]
      have z1 : iI (sd + n - 1) ≤ (9999 : Int32) := by rw [k_9999, iI_le (by omega) (by omega)]; omega
      unfold fX11_odds
      rw [a1, sbind, if_neg (by rw [bI_t]; decide), a2, sbind, if_neg (by rw [bI_t]; decide), iI_l hs, kl_0, kl_9999, a4, sbind, if_neg (by rw [bI_t]; decide)]
      rw [iI_l hn, kl_1, kl_10, a3, sbind, if_neg (by rw [bI_t]; decide), iI_add, k_1, iI_sub, if_pos z1]
      rw [iI_l hn] at b1'
      rw [k_4, ixkI (by omega), iI_nat (by omega), a5, if_neg (by rw [iI_neg, iI_eq (by omega) (by omega)]; omega)]
      exact b1'
end OC2
