/-! the same questions, of the reference -/
section SM
variable {m : Nat} {F : Fld} {M : Mem}
theorem mq_told (G : MR m 0 F M) {a : Int} (ha : -2147483648 ≤ a ∧ a < 2147483648) : mQ m M (fX11_told m (iI a) M) (q_told F a) := by
  refine ⟨M, QM.refl m M, ?_⟩
  unfold fX11_told fX11_gives fX11_refuse
  by_cases h : 0 ≤ a ∧ a ≤ 3
  · have e := G.at0 (w := a) (e := a) (by omega)
    rw [show q_told F a = (F 0 a 0, 0) from if_pos h]; simp (disch := omega) only [iI_add, iI_sub, iI_mul, iI_neg, iI_nat, addm1, ixkI, ↓sbind, sbind, ↓bdS, bdS, ↓nm_eq, ↓jn_eq, iI_lt, iI_le, iI_eq, k_0, k_1, k_2, k_3, k_4, k_5, k_6, k_7, k_8, k_9, k_10, k_11, k_12, k_13, k_14, k_15, k_16, k_17, k_18, k_19, k_20, k_21, k_22, k_23, k_24, k_27, k_30, k_32, k_48, k_57, k_59, k_60, k_61, k_62, k_63, k_64, k_72, k_78, k_80, k_82, k_97, k_99, k_100, k_122, k_244, k_255, k_268, k_280, k_300, k_432, k_650, k_900, k_901, k_999, k_1700, k_2600, k_2601, k_2602, k_2603, k_2604, k_2610, k_2618, k_2682, k_2777, k_2844, k_2868, k_2880, k_3245, k_3250, k_9551, k_9999, k_65536, k_100000, k_999999, k_1000000, k_2147483647, lt_T, lt_F, le_T, le_F, eq_T, eq_F, ↓reduceIte, not_true_eq_false, not_false_eq_true, or_true, or_false, true_or, false_or, and_true, true_and, and_false, false_and, e]
  · rw [show q_told F a = (-1, 1) from if_neg h]
    by_cases h1 : a < 0 <;> simp (disch := omega) only [iI_add, iI_sub, iI_mul, iI_neg, iI_nat, addm1, ixkI, ↓sbind, sbind, ↓bdS, bdS, ↓nm_eq, ↓jn_eq, iI_lt, iI_le, iI_eq, k_0, k_1, k_2, k_3, k_4, k_5, k_6, k_7, k_8, k_9, k_10, k_11, k_12, k_13, k_14, k_15, k_16, k_17, k_18, k_19, k_20, k_21, k_22, k_23, k_24, k_27, k_30, k_32, k_48, k_57, k_59, k_60, k_61, k_62, k_63, k_64, k_72, k_78, k_80, k_82, k_97, k_99, k_100, k_122, k_244, k_255, k_268, k_280, k_300, k_432, k_650, k_900, k_901, k_999, k_1700, k_2600, k_2601, k_2602, k_2603, k_2604, k_2610, k_2618, k_2682, k_2777, k_2844, k_2868, k_2880, k_3245, k_3250, k_9551, k_9999, k_65536, k_100000, k_999999, k_1000000, k_2147483647, lt_T, lt_F, le_T, le_F, eq_T, eq_F, ↓reduceIte, not_true_eq_false, not_false_eq_true, or_true, or_false, true_or, false_or, and_true, true_and, and_false, false_and]
theorem mq_skip (w : WF F) (G : MR m 0 F M) {a : Int} (ha : -2147483648 ≤ a ∧ a < 2147483648) : mQ m M (fX11_skip m (iI a) M) (q_skip F a) := by
  refine ⟨M, QM.refl m M, ?_⟩
  have h0 := w.n0
  unfold fX11_skip fX11_gives fX11_refuse
  rw [m_isRock w G ha]
  by_cases h : 0 ≤ a ∧ a < F 0 0 0
  · rw [s_in_t h]; unfold q_skip; simp (disch := omega) only [iI_add, iI_sub, iI_mul, iI_neg, iI_nat, addm1, ixkI, ↓sbind, sbind, ↓bdS, bdS, ↓nm_eq, ↓jn_eq, iI_lt, iI_le, iI_eq, k_0, k_1, k_2, k_3, k_4, k_5, k_6, k_7, k_8, k_9, k_10, k_11, k_12, k_13, k_14, k_15, k_16, k_17, k_18, k_19, k_20, k_21, k_22, k_23, k_24, k_27, k_30, k_32, k_48, k_57, k_59, k_60, k_61, k_62, k_63, k_64, k_72, k_78, k_80, k_82, k_97, k_99, k_100, k_122, k_244, k_255, k_268, k_280, k_300, k_432, k_650, k_900, k_901, k_999, k_1700, k_2600, k_2601, k_2602, k_2603, k_2604, k_2610, k_2618, k_2682, k_2777, k_2844, k_2868, k_2880, k_3245, k_3250, k_9551, k_9999, k_65536, k_100000, k_999999, k_1000000, k_2147483647, lt_T, lt_F, le_T, le_F, eq_T, eq_F, ↓reduceIte, not_true_eq_false, not_false_eq_true, or_true, or_false, true_or, false_or, and_true, true_and, and_false, false_and, bI_t, G.sk]
  · rw [s_in_f h, show q_skip F a = (-1, 1) from if_neg h]; simp (disch := omega) only [iI_add, iI_sub, iI_mul, iI_neg, iI_nat, addm1, ixkI, ↓sbind, sbind, ↓bdS, bdS, ↓nm_eq, ↓jn_eq, iI_lt, iI_le, iI_eq, k_0, k_1, k_2, k_3, k_4, k_5, k_6, k_7, k_8, k_9, k_10, k_11, k_12, k_13, k_14, k_15, k_16, k_17, k_18, k_19, k_20, k_21, k_22, k_23, k_24, k_27, k_30, k_32, k_48, k_57, k_59, k_60, k_61, k_62, k_63, k_64, k_72, k_78, k_80, k_82, k_97, k_99, k_100, k_122, k_244, k_255, k_268, k_280, k_300, k_432, k_650, k_900, k_901, k_999, k_1700, k_2600, k_2601, k_2602, k_2603, k_2604, k_2610, k_2618, k_2682, k_2777, k_2844, k_2868, k_2880, k_3245, k_3250, k_9551, k_9999, k_65536, k_100000, k_999999, k_1000000, k_2147483647, lt_T, lt_F, le_T, le_F, eq_T, eq_F, ↓reduceIte, not_true_eq_false, not_false_eq_true, or_true, or_false, true_or, false_or, and_true, true_and, and_false, false_and, bI_f]
theorem mq_unlike (w : WF F) (G : MR m 0 F M) {a b : Int} (ha : -2147483648 ≤ a ∧ a < 2147483648) (hb : -2147483648 ≤ b ∧ b < 2147483648) : mQ m M (fX11_unlike m (iI a) (iI b) M) (q_unlike F a b) := by
  refine ⟨M, QM.refl m M, ?_⟩
  have h0 := w.n0
  unfold fX11_unlike fX11_gives fX11_refuse
  rw [m_isRock w G ha, m_isRock w G hb]
  by_cases h : 0 ≤ a ∧ a < F 0 0 0
  · by_cases h' : 0 ≤ b ∧ b < F 0 0 0
    · have e := m_unlikeOf G (a := a) (b := b) (by omega) (by omega)
      rw [s_in_t h, s_in_t h']; unfold q_unlike; simp (disch := omega) only [iI_add, iI_sub, iI_mul, iI_neg, iI_nat, addm1, ixkI, ↓sbind, sbind, ↓bdS, bdS, ↓nm_eq, ↓jn_eq, iI_lt, iI_le, iI_eq, k_0, k_1, k_2, k_3, k_4, k_5, k_6, k_7, k_8, k_9, k_10, k_11, k_12, k_13, k_14, k_15, k_16, k_17, k_18, k_19, k_20, k_21, k_22, k_23, k_24, k_27, k_30, k_32, k_48, k_57, k_59, k_60, k_61, k_62, k_63, k_64, k_72, k_78, k_80, k_82, k_97, k_99, k_100, k_122, k_244, k_255, k_268, k_280, k_300, k_432, k_650, k_900, k_901, k_999, k_1700, k_2600, k_2601, k_2602, k_2603, k_2604, k_2610, k_2618, k_2682, k_2777, k_2844, k_2868, k_2880, k_3245, k_3250, k_9551, k_9999, k_65536, k_100000, k_999999, k_1000000, k_2147483647, lt_T, lt_F, le_T, le_F, eq_T, eq_F, ↓reduceIte, not_true_eq_false, not_false_eq_true, or_true, or_false, true_or, false_or, and_true, true_and, and_false, false_and, bI_t, e]
    · rw [s_in_t h, s_in_f h', show q_unlike F a b = (-1, 1) from if_neg (fun q => h' q.2)]; simp (disch := omega) only [iI_add, iI_sub, iI_mul, iI_neg, iI_nat, addm1, ixkI, ↓sbind, sbind, ↓bdS, bdS, ↓nm_eq, ↓jn_eq, iI_lt, iI_le, iI_eq, k_0, k_1, k_2, k_3, k_4, k_5, k_6, k_7, k_8, k_9, k_10, k_11, k_12, k_13, k_14, k_15, k_16, k_17, k_18, k_19, k_20, k_21, k_22, k_23, k_24, k_27, k_30, k_32, k_48, k_57, k_59, k_60, k_61, k_62, k_63, k_64, k_72, k_78, k_80, k_82, k_97, k_99, k_100, k_122, k_244, k_255, k_268, k_280, k_300, k_432, k_650, k_900, k_901, k_999, k_1700, k_2600, k_2601, k_2602, k_2603, k_2604, k_2610, k_2618, k_2682, k_2777, k_2844, k_2868, k_2880, k_3245, k_3250, k_9551, k_9999, k_65536, k_100000, k_999999, k_1000000, k_2147483647, lt_T, lt_F, le_T, le_F, eq_T, eq_F, ↓reduceIte, not_true_eq_false, not_false_eq_true, or_true, or_false, true_or, false_or, and_true, true_and, and_false, false_and, bI_t, bI_f]
  · rw [s_in_f h, show q_unlike F a b = (-1, 1) from if_neg (fun q => h q.1)]; simp (disch := omega) only [iI_add, iI_sub, iI_mul, iI_neg, iI_nat, addm1, ixkI, ↓sbind, sbind, ↓bdS, bdS, ↓nm_eq, ↓jn_eq, iI_lt, iI_le, iI_eq, k_0, k_1, k_2, k_3, k_4, k_5, k_6, k_7, k_8, k_9, k_10, k_11, k_12, k_13, k_14, k_15, k_16, k_17, k_18, k_19, k_20, k_21, k_22, k_23, k_24, k_27, k_30, k_32, k_48, k_57, k_59, k_60, k_61, k_62, k_63, k_64, k_72, k_78, k_80, k_82, k_97, k_99, k_100, k_122, k_244, k_255, k_268, k_280, k_300, k_432, k_650, k_900, k_901, k_999, k_1700, k_2600, k_2601, k_2602, k_2603, k_2604, k_2610, k_2618, k_2682, k_2777, k_2844, k_2868, k_2880, k_3245, k_3250, k_9551, k_9999, k_65536, k_100000, k_999999, k_1000000, k_2147483647, lt_T, lt_F, le_T, le_F, eq_T, eq_F, ↓reduceIte, not_true_eq_false, not_false_eq_true, or_true, or_false, true_or, false_or, and_true, true_and, and_false, false_and, bI_f]
theorem mq_hole (w : WF F) (G : MR m 0 F M) {h k : Int} (ha : -2147483648 ≤ h ∧ h < 2147483648) (hk : -2147483648 ≤ k ∧ k < 2147483648) {φ : Nat} (hφ : 100 < φ) : mQ m M (fX11_hole φ m (iI h) (iI k) M) (q_hole F h k) := by
  refine ⟨M, QM.refl m M, ?_⟩
  have h0 := w.n1
  unfold fX11_hole fX11_holeRow fX11_gives fX11_refuse
  rw [m_isHole w G ha]
  by_cases hh : 0 ≤ h ∧ h < F 0 1 0
  · have nl := w.nl hh
    have e2 := m_layersOf G (h := h) (by omega)
    have e3 := m_allThick w G (k := F 3 h 2) hh (by omega) hφ
    have e4 := m_thrown w G hh hφ
    rw [s_in_t hh]
    by_cases hk' : 0 ≤ k ∧ k ≤ 4
    · rw [show q_hole F h k = (if k = 3 then s_top F h (F 3 h 2) else if k = 4 then s_thrown F h else F 3 h k, 0) from if_pos ⟨hh, hk'⟩]
      by_cases k3 : k = 3
      · rw [k3]; simp (disch := omega) only [iI_add, iI_sub, iI_mul, iI_neg, iI_nat, addm1, ixkI, ↓sbind, sbind, ↓bdS, bdS, ↓nm_eq, ↓jn_eq, iI_lt, iI_le, iI_eq, k_0, k_1, k_2, k_3, k_4, k_5, k_6, k_7, k_8, k_9, k_10, k_11, k_12, k_13, k_14, k_15, k_16, k_17, k_18, k_19, k_20, k_21, k_22, k_23, k_24, k_27, k_30, k_32, k_48, k_57, k_59, k_60, k_61, k_62, k_63, k_64, k_72, k_78, k_80, k_82, k_97, k_99, k_100, k_122, k_244, k_255, k_268, k_280, k_300, k_432, k_650, k_900, k_901, k_999, k_1700, k_2600, k_2601, k_2602, k_2603, k_2604, k_2610, k_2618, k_2682, k_2777, k_2844, k_2868, k_2880, k_3245, k_3250, k_9551, k_9999, k_65536, k_100000, k_999999, k_1000000, k_2147483647, lt_T, lt_F, le_T, le_F, eq_T, eq_F, ↓reduceIte, not_true_eq_false, not_false_eq_true, or_true, or_false, true_or, false_or, and_true, true_and, and_false, false_and, bI_t, e2, e3]
      · by_cases k4 : k = 4
        · rw [k4]; simp (disch := omega) only [iI_add, iI_sub, iI_mul, iI_neg, iI_nat, addm1, ixkI, ↓sbind, sbind, ↓bdS, bdS, ↓nm_eq, ↓jn_eq, iI_lt, iI_le, iI_eq, k_0, k_1, k_2, k_3, k_4, k_5, k_6, k_7, k_8, k_9, k_10, k_11, k_12, k_13, k_14, k_15, k_16, k_17, k_18, k_19, k_20, k_21, k_22, k_23, k_24, k_27, k_30, k_32, k_48, k_57, k_59, k_60, k_61, k_62, k_63, k_64, k_72, k_78, k_80, k_82, k_97, k_99, k_100, k_122, k_244, k_255, k_268, k_280, k_300, k_432, k_650, k_900, k_901, k_999, k_1700, k_2600, k_2601, k_2602, k_2603, k_2604, k_2610, k_2618, k_2682, k_2777, k_2844, k_2868, k_2880, k_3245, k_3250, k_9551, k_9999, k_65536, k_100000, k_999999, k_1000000, k_2147483647, lt_T, lt_F, le_T, le_F, eq_T, eq_F, ↓reduceIte, not_true_eq_false, not_false_eq_true, or_true, or_false, true_or, false_or, and_true, true_and, and_false, false_and, bI_t, e4]
        · simp (disch := omega) only [iI_add, iI_sub, iI_mul, iI_neg, iI_nat, addm1, ixkI, ↓sbind, sbind, ↓bdS, bdS, ↓nm_eq, ↓jn_eq, iI_lt, iI_le, iI_eq, k_0, k_1, k_2, k_3, k_4, k_5, k_6, k_7, k_8, k_9, k_10, k_11, k_12, k_13, k_14, k_15, k_16, k_17, k_18, k_19, k_20, k_21, k_22, k_23, k_24, k_27, k_30, k_32, k_48, k_57, k_59, k_60, k_61, k_62, k_63, k_64, k_72, k_78, k_80, k_82, k_97, k_99, k_100, k_122, k_244, k_255, k_268, k_280, k_300, k_432, k_650, k_900, k_901, k_999, k_1700, k_2600, k_2601, k_2602, k_2603, k_2604, k_2610, k_2618, k_2682, k_2777, k_2844, k_2868, k_2880, k_3245, k_3250, k_9551, k_9999, k_65536, k_100000, k_999999, k_1000000, k_2147483647, lt_T, lt_F, le_T, le_F, eq_T, eq_F, ↓reduceIte, not_true_eq_false, not_false_eq_true, or_true, or_false, true_or, false_or, and_true, true_and, and_false, false_and, bI_t, G.hw]
    · rw [show q_hole F h k = (-1, 1) from if_neg (fun q => hk' q.2)]
      by_cases k0 : k < 0 <;> simp (disch := omega) only [iI_add, iI_sub, iI_mul, iI_neg, iI_nat, addm1, ixkI, ↓sbind, sbind, ↓bdS, bdS, ↓nm_eq, ↓jn_eq, iI_lt, iI_le, iI_eq, k_0, k_1, k_2, k_3, k_4, k_5, k_6, k_7, k_8, k_9, k_10, k_11, k_12, k_13, k_14, k_15, k_16, k_17, k_18, k_19, k_20, k_21, k_22, k_23, k_24, k_27, k_30, k_32, k_48, k_57, k_59, k_60, k_61, k_62, k_63, k_64, k_72, k_78, k_80, k_82, k_97, k_99, k_100, k_122, k_244, k_255, k_268, k_280, k_300, k_432, k_650, k_900, k_901, k_999, k_1700, k_2600, k_2601, k_2602, k_2603, k_2604, k_2610, k_2618, k_2682, k_2777, k_2844, k_2868, k_2880, k_3245, k_3250, k_9551, k_9999, k_65536, k_100000, k_999999, k_1000000, k_2147483647, lt_T, lt_F, le_T, le_F, eq_T, eq_F, ↓reduceIte, not_true_eq_false, not_false_eq_true, or_true, or_false, true_or, false_or, and_true, true_and, and_false, false_and, bI_t]
  · rw [s_in_f hh, show q_hole F h k = (-1, 1) from if_neg (fun q => hh q.1)]; simp (disch := omega) only [iI_add, iI_sub, iI_mul, iI_neg, iI_nat, addm1, ixkI, ↓sbind, sbind, ↓bdS, bdS, ↓nm_eq, ↓jn_eq, iI_lt, iI_le, iI_eq, k_0, k_1, k_2, k_3, k_4, k_5, k_6, k_7, k_8, k_9, k_10, k_11, k_12, k_13, k_14, k_15, k_16, k_17, k_18, k_19, k_20, k_21, k_22, k_23, k_24, k_27, k_30, k_32, k_48, k_57, k_59, k_60, k_61, k_62, k_63, k_64, k_72, k_78, k_80, k_82, k_97, k_99, k_100, k_122, k_244, k_255, k_268, k_280, k_300, k_432, k_650, k_900, k_901, k_999, k_1700, k_2600, k_2601, k_2602, k_2603, k_2604, k_2610, k_2618, k_2682, k_2777, k_2844, k_2868, k_2880, k_3245, k_3250, k_9551, k_9999, k_65536, k_100000, k_999999, k_1000000, k_2147483647, lt_T, lt_F, le_T, le_F, eq_T, eq_F, ↓reduceIte, not_true_eq_false, not_false_eq_true, or_true, or_false, true_or, false_or, and_true, true_and, and_false, false_and, bI_f]
theorem mq_layer (w : WF F) (G : MR m 0 F M) {h l k : Int} (ha : -2147483648 ≤ h ∧ h < 2147483648) (hl : -2147483648 ≤ l ∧ l < 2147483648) (hk : -2147483648 ≤ k ∧ k < 2147483648) {φ : Nat} (hφ : 100 < φ) : mQ m M (fX11_layer φ m (iI h) (iI l) (iI k) M) (q_layer F h l k) := by
  refine ⟨M, QM.refl m M, ?_⟩
  have h0 := w.n1
  unfold fX11_layer fX11_gives fX11_refuse
  rw [m_isLayer w G ha hl]
  unfold s_lay
  by_cases hh : (0 ≤ h ∧ h < F 0 1 0) ∧ 0 ≤ l ∧ l < F 3 h 2
  · have nl := w.nl hh.1
    have e1 := m_rockOf G (h := h) (l := l) (by omega) (by omega)
    have e2 := m_thickOf G (h := h) (l := l) (by omega) (by omega)
    have e3 := m_depthOf w G (k := l) hh.1 (by omega) hφ
    rw [decide_eq_true hh]
    by_cases hk' : 0 ≤ k ∧ k ≤ 2
    · rw [show q_layer F h l k = (if k = 0 then F 4 h l else if k = 1 then F 5 h l else s_depth F h l, 0) from if_pos ⟨hh, hk'⟩]
      by_cases k0 : k = 0
      · rw [k0]; simp (disch := omega) only [iI_add, iI_sub, iI_mul, iI_neg, iI_nat, addm1, ixkI, ↓sbind, sbind, ↓bdS, bdS, ↓nm_eq, ↓jn_eq, iI_lt, iI_le, iI_eq, k_0, k_1, k_2, k_3, k_4, k_5, k_6, k_7, k_8, k_9, k_10, k_11, k_12, k_13, k_14, k_15, k_16, k_17, k_18, k_19, k_20, k_21, k_22, k_23, k_24, k_27, k_30, k_32, k_48, k_57, k_59, k_60, k_61, k_62, k_63, k_64, k_72, k_78, k_80, k_82, k_97, k_99, k_100, k_122, k_244, k_255, k_268, k_280, k_300, k_432, k_650, k_900, k_901, k_999, k_1700, k_2600, k_2601, k_2602, k_2603, k_2604, k_2610, k_2618, k_2682, k_2777, k_2844, k_2868, k_2880, k_3245, k_3250, k_9551, k_9999, k_65536, k_100000, k_999999, k_1000000, k_2147483647, lt_T, lt_F, le_T, le_F, eq_T, eq_F, ↓reduceIte, not_true_eq_false, not_false_eq_true, or_true, or_false, true_or, false_or, and_true, true_and, and_false, false_and, bI_t, e1]
      · by_cases k1 : k = 1
        · rw [k1]; simp (disch := omega) only [iI_add, iI_sub, iI_mul, iI_neg, iI_nat, addm1, ixkI, ↓sbind, sbind, ↓bdS, bdS, ↓nm_eq, ↓jn_eq, iI_lt, iI_le, iI_eq, k_0, k_1, k_2, k_3, k_4, k_5, k_6, k_7, k_8, k_9, k_10, k_11, k_12, k_13, k_14, k_15, k_16, k_17, k_18, k_19, k_20, k_21, k_22, k_23, k_24, k_27, k_30, k_32, k_48, k_57, k_59, k_60, k_61, k_62, k_63, k_64, k_72, k_78, k_80, k_82, k_97, k_99, k_100, k_122, k_244, k_255, k_268, k_280, k_300, k_432, k_650, k_900, k_901, k_999, k_1700, k_2600, k_2601, k_2602, k_2603, k_2604, k_2610, k_2618, k_2682, k_2777, k_2844, k_2868, k_2880, k_3245, k_3250, k_9551, k_9999, k_65536, k_100000, k_999999, k_1000000, k_2147483647, lt_T, lt_F, le_T, le_F, eq_T, eq_F, ↓reduceIte, not_true_eq_false, not_false_eq_true, or_true, or_false, true_or, false_or, and_true, true_and, and_false, false_and, bI_t, e2]
        · simp (disch := omega) only [iI_add, iI_sub, iI_mul, iI_neg, iI_nat, addm1, ixkI, ↓sbind, sbind, ↓bdS, bdS, ↓nm_eq, ↓jn_eq, iI_lt, iI_le, iI_eq, k_0, k_1, k_2, k_3, k_4, k_5, k_6, k_7, k_8, k_9, k_10, k_11, k_12, k_13, k_14, k_15, k_16, k_17, k_18, k_19, k_20, k_21, k_22, k_23, k_24, k_27, k_30, k_32, k_48, k_57, k_59, k_60, k_61, k_62, k_63, k_64, k_72, k_78, k_80, k_82, k_97, k_99, k_100, k_122, k_244, k_255, k_268, k_280, k_300, k_432, k_650, k_900, k_901, k_999, k_1700, k_2600, k_2601, k_2602, k_2603, k_2604, k_2610, k_2618, k_2682, k_2777, k_2844, k_2868, k_2880, k_3245, k_3250, k_9551, k_9999, k_65536, k_100000, k_999999, k_1000000, k_2147483647, lt_T, lt_F, le_T, le_F, eq_T, eq_F, ↓reduceIte, not_true_eq_false, not_false_eq_true, or_true, or_false, true_or, false_or, and_true, true_and, and_false, false_and, bI_t, e3]
    · rw [show q_layer F h l k = (-1, 1) from if_neg (fun q => hk' q.2)]
      by_cases k0 : k < 0 <;> simp (disch := omega) only [iI_add, iI_sub, iI_mul, iI_neg, iI_nat, addm1, ixkI, ↓sbind, sbind, ↓bdS, bdS, ↓nm_eq, ↓jn_eq, iI_lt, iI_le, iI_eq, k_0, k_1, k_2, k_3, k_4, k_5, k_6, k_7, k_8, k_9, k_10, k_11, k_12, k_13, k_14, k_15, k_16, k_17, k_18, k_19, k_20, k_21, k_22, k_23, k_24, k_27, k_30, k_32, k_48, k_57, k_59, k_60, k_61, k_62, k_63, k_64, k_72, k_78, k_80, k_82, k_97, k_99, k_100, k_122, k_244, k_255, k_268, k_280, k_300, k_432, k_650, k_900, k_901, k_999, k_1700, k_2600, k_2601, k_2602, k_2603, k_2604, k_2610, k_2618, k_2682, k_2777, k_2844, k_2868, k_2880, k_3245, k_3250, k_9551, k_9999, k_65536, k_100000, k_999999, k_1000000, k_2147483647, lt_T, lt_F, le_T, le_F, eq_T, eq_F, ↓reduceIte, not_true_eq_false, not_false_eq_true, or_true, or_false, true_or, false_or, and_true, true_and, and_false, false_and, bI_t]
  · rw [decide_eq_false hh, show q_layer F h l k = (-1, 1) from if_neg (fun q => hh q.1)]; simp (disch := omega) only [iI_add, iI_sub, iI_mul, iI_neg, iI_nat, addm1, ixkI, ↓sbind, sbind, ↓bdS, bdS, ↓nm_eq, ↓jn_eq, iI_lt, iI_le, iI_eq, k_0, k_1, k_2, k_3, k_4, k_5, k_6, k_7, k_8, k_9, k_10, k_11, k_12, k_13, k_14, k_15, k_16, k_17, k_18, k_19, k_20, k_21, k_22, k_23, k_24, k_27, k_30, k_32, k_48, k_57, k_59, k_60, k_61, k_62, k_63, k_64, k_72, k_78, k_80, k_82, k_97, k_99, k_100, k_122, k_244, k_255, k_268, k_280, k_300, k_432, k_650, k_900, k_901, k_999, k_1700, k_2600, k_2601, k_2602, k_2603, k_2604, k_2610, k_2618, k_2682, k_2777, k_2844, k_2868, k_2880, k_3245, k_3250, k_9551, k_9999, k_65536, k_100000, k_999999, k_1000000, k_2147483647, lt_T, lt_F, le_T, le_F, eq_T, eq_F, ↓reduceIte, not_true_eq_false, not_false_eq_true, or_true, or_false, true_or, false_or, and_true, true_and, and_false, false_and, bI_f]
/-- the layer that has a depth, as the reference looks for it -/
theorem s_lat_eq (w : WF F) {h d : Int} (hh : 0 ≤ h ∧ h < F 0 1 0) : ff (fun l => decide (s_depth F h l ≤ d ∧ d < s_depth F h l + F 5 h l)) (F 3 h 2) 0 = s_lat F h d := by
  have nl := w.nl hh
  have hT : ∀ l, 0 ≤ l → s_top F h (l + 1) = s_top F h l + F 5 h l := fun l l0 => sm_s (fun l => F 5 h l) l0
  have ht := w.thrown (h := h)
  unfold s_lat s_unit
  by_cases hu : 0 ≤ d - s_thrown F h
  · rw [if_pos hu]
    have a := ff_rng (fun l => decide (s_depth F h l ≤ d ∧ d < s_depth F h l + F 5 h l)) (F 3 h 2) 0 (by omega) nl.1
    have b := ff_rng (fun l => decide (d - s_thrown F h < s_top F h (l + 1))) (F 3 h 2) 0 (by omega) nl.1
    have imp : ∀ l, 0 ≤ l → l < F 3 h 2 → (s_depth F h l ≤ d ∧ d < s_depth F h l + F 5 h l) → d - s_thrown F h < s_top F h (l + 1) := fun l l0 l1 q => by
      rw [hT l l0]; unfold s_depth at q; omega
    rcases b with ⟨b1, b2⟩ | ⟨b1, b2, b3, b4⟩
    · rw [b1]
      rcases a with ⟨a1, a2⟩ | ⟨a1, a2, a3, a4⟩
      · exact a1
      · have := imp _ a1 a2 (of_decide_eq_true a3)
        have := of_decide_eq_false (b2 _ a1 a2)
        omega
    · have b3' := of_decide_eq_true b3
      have key : s_depth F h (ff (fun l => decide (d - s_thrown F h < s_top F h (l + 1))) (F 3 h 2) 0) ≤ d ∧ d < s_depth F h (ff (fun l => decide (d - s_thrown F h < s_top F h (l + 1))) (F 3 h 2) 0) + F 5 h (ff (fun l => decide (d - s_thrown F h < s_top F h (l + 1))) (F 3 h 2) 0) := by
        rw [hT _ b1] at b3'
        unfold s_depth
        refine ⟨?_, by omega⟩
        by_cases hz : ff (fun l => decide (d - s_thrown F h < s_top F h (l + 1))) (F 3 h 2) 0 = 0
        · rw [hz]
          have : s_top F h 0 = 0 := rfl
          omega
        · have := of_decide_eq_false (b4 (ff (fun l => decide (d - s_thrown F h < s_top F h (l + 1))) (F 3 h 2) 0 - 1) (by omega) (by omega))
          rw [Int.sub_add_cancel] at this
          omega
      rcases a with ⟨a1, a2⟩ | ⟨a1, a2, a3, a4⟩
      · have := of_decide_eq_false (a2 _ b1 b2)
        exact absurd key this
      · by_cases h1 : ff (fun l => decide (s_depth F h l ≤ d ∧ d < s_depth F h l + F 5 h l)) (F 3 h 2) 0 < ff (fun l => decide (d - s_thrown F h < s_top F h (l + 1))) (F 3 h 2) 0
        · have u1 := imp _ a1 a2 (of_decide_eq_true a3)
          have u2 := of_decide_eq_false (b4 _ a1 h1)
          omega
        · by_cases h2 : ff (fun l => decide (d - s_thrown F h < s_top F h (l + 1))) (F 3 h 2) 0 < ff (fun l => decide (s_depth F h l ≤ d ∧ d < s_depth F h l + F 5 h l)) (F 3 h 2) 0
          · have u2 := of_decide_eq_false (a4 _ b1 h2)
            exact absurd key u2
          · omega
  · rw [if_neg hu]
    rcases ff_rng (fun l => decide (s_depth F h l ≤ d ∧ d < s_depth F h l + F 5 h l)) (F 3 h 2) 0 (by omega) nl.1 with a | ⟨a1, a2, a3, a4⟩
    · exact a.1
    · have := of_decide_eq_true a3
      have := w.top hh (n := ff (fun l => decide (s_depth F h l ≤ d ∧ d < s_depth F h l + F 5 h l)) (F 3 h 2) 0) (by omega)
      unfold s_depth at *
      omega
theorem mq_layerAt (w : WF F) (G : MR m 0 F M) {h d : Int} (ha : -2147483648 ≤ h ∧ h < 2147483648) (hd : -2147483648 ≤ d ∧ d < 2147483648) {φ : Nat} (hφ : 100 < φ) : mQ m M (fX11_layerAt φ m (iI h) (iI d) M) (q_layerAt F h d) := by
  refine ⟨M, QM.refl m M, ?_⟩
  have h0 := w.n1
  unfold fX11_layerAt
  rw [m_isHole w G ha]
  by_cases hh : 0 ≤ h ∧ h < F 0 1 0
  · have nl := w.nl hh
    have el := m_layersOf G (h := h) (by omega)
    by_cases hd0 : 0 ≤ d
    · have key := lup (N := F 3 h 2) (P := fun n i => lX11_layerAt_20 φ m (iI h) (iI d) M n (iI i) = some (iI (ff (fun l => decide (s_depth F h l ≤ d ∧ d < s_depth F h l + F 5 h l)) (F 3 h 2) i), stI M m 2 (iI (if ff (fun l => decide (s_depth F h l ≤ d ∧ d < s_depth F h l + F 5 h l)) (F 3 h 2) i = -1 then 6 else 0))))
        (fun n => by
          rw [lX11_layerAt_20_s, ff_e, el]
          unfold fX11_refuse
          simp (disch := omega) only [iI_add, iI_sub, iI_mul, iI_neg, iI_nat, addm1, ixkI, ↓sbind, sbind, ↓bdS, bdS, ↓nm_eq, ↓jn_eq, iI_lt, iI_le, iI_eq, k_0, k_1, k_2, k_3, k_4, k_5, k_6, k_7, k_8, k_9, k_10, k_11, k_12, k_13, k_14, k_15, k_16, k_17, k_18, k_19, k_20, k_21, k_22, k_23, k_24, k_27, k_30, k_32, k_48, k_57, k_59, k_60, k_61, k_62, k_63, k_64, k_72, k_78, k_80, k_82, k_97, k_99, k_100, k_122, k_244, k_255, k_268, k_280, k_300, k_432, k_650, k_900, k_901, k_999, k_1700, k_2600, k_2601, k_2602, k_2603, k_2604, k_2610, k_2618, k_2682, k_2777, k_2844, k_2868, k_2880, k_3245, k_3250, k_9551, k_9999, k_65536, k_100000, k_999999, k_1000000, k_2147483647, lt_T, lt_F, le_T, le_F, eq_T, eq_F, ↓reduceIte, not_true_eq_false, not_false_eq_true, or_true, or_false, true_or, false_or, and_true, true_and, and_false, false_and])
        (fun n i i0 i1 ih => by
          have ed := m_depthOf w G (k := i) hh (by omega) hφ
          have et := m_thickOf G (h := h) (l := i) (by omega) (by omega)
          have bd := w.depth hh (n := i) (by omega)
          have bt := w.th hh (l := i) ⟨i0, i1⟩
          rw [lX11_layerAt_20_s, el, ed, et]
          unfold fX11_gives
          by_cases c1 : d < s_depth F h i
          · rw [ff_f i1 (decide_eq_false (fun q => by omega)), ← ih]
            simp (disch := omega) only [iI_add, iI_sub, iI_mul, iI_neg, iI_nat, addm1, ixkI, ↓sbind, sbind, ↓bdS, bdS, ↓nm_eq, ↓jn_eq, iI_lt, iI_le, iI_eq, k_0, k_1, k_2, k_3, k_4, k_5, k_6, k_7, k_8, k_9, k_10, k_11, k_12, k_13, k_14, k_15, k_16, k_17, k_18, k_19, k_20, k_21, k_22, k_23, k_24, k_27, k_30, k_32, k_48, k_57, k_59, k_60, k_61, k_62, k_63, k_64, k_72, k_78, k_80, k_82, k_97, k_99, k_100, k_122, k_244, k_255, k_268, k_280, k_300, k_432, k_650, k_900, k_901, k_999, k_1700, k_2600, k_2601, k_2602, k_2603, k_2604, k_2610, k_2618, k_2682, k_2777, k_2844, k_2868, k_2880, k_3245, k_3250, k_9551, k_9999, k_65536, k_100000, k_999999, k_1000000, k_2147483647, lt_T, lt_F, le_T, le_F, eq_T, eq_F, ↓reduceIte, not_true_eq_false, not_false_eq_true, or_true, or_false, true_or, false_or, and_true, true_and, and_false, false_and]
          · by_cases c2 : s_depth F h i + F 5 h i ≤ d
            · rw [ff_f i1 (decide_eq_false (fun q => by omega)), ← ih]
              simp (disch := omega) only [iI_add, iI_sub, iI_mul, iI_neg, iI_nat, addm1, ixkI, ↓sbind, sbind, ↓bdS, bdS, ↓nm_eq, ↓jn_eq, iI_lt, iI_le, iI_eq, k_0, k_1, k_2, k_3, k_4, k_5, k_6, k_7, k_8, k_9, k_10, k_11, k_12, k_13, k_14, k_15, k_16, k_17, k_18, k_19, k_20, k_21, k_22, k_23, k_24, k_27, k_30, k_32, k_48, k_57, k_59, k_60, k_61, k_62, k_63, k_64, k_72, k_78, k_80, k_82, k_97, k_99, k_100, k_122, k_244, k_255, k_268, k_280, k_300, k_432, k_650, k_900, k_901, k_999, k_1700, k_2600, k_2601, k_2602, k_2603, k_2604, k_2610, k_2618, k_2682, k_2777, k_2844, k_2868, k_2880, k_3245, k_3250, k_9551, k_9999, k_65536, k_100000, k_999999, k_1000000, k_2147483647, lt_T, lt_F, le_T, le_F, eq_T, eq_F, ↓reduceIte, not_true_eq_false, not_false_eq_true, or_true, or_false, true_or, false_or, and_true, true_and, and_false, false_and]
            · rw [ff_t i1 (decide_eq_true ⟨by omega, by omega⟩)]
              simp (disch := omega) only [iI_add, iI_sub, iI_mul, iI_neg, iI_nat, addm1, ixkI, ↓sbind, sbind, ↓bdS, bdS, ↓nm_eq, ↓jn_eq, iI_lt, iI_le, iI_eq, k_0, k_1, k_2, k_3, k_4, k_5, k_6, k_7, k_8, k_9, k_10, k_11, k_12, k_13, k_14, k_15, k_16, k_17, k_18, k_19, k_20, k_21, k_22, k_23, k_24, k_27, k_30, k_32, k_48, k_57, k_59, k_60, k_61, k_62, k_63, k_64, k_72, k_78, k_80, k_82, k_97, k_99, k_100, k_122, k_244, k_255, k_268, k_280, k_300, k_432, k_650, k_900, k_901, k_999, k_1700, k_2600, k_2601, k_2602, k_2603, k_2604, k_2610, k_2618, k_2682, k_2777, k_2844, k_2868, k_2880, k_3245, k_3250, k_9551, k_9999, k_65536, k_100000, k_999999, k_1000000, k_2147483647, lt_T, lt_F, le_T, le_F, eq_T, eq_F, ↓reduceIte, not_true_eq_false, not_false_eq_true, or_true, or_false, true_or, false_or, and_true, true_and, and_false, false_and])
        φ 0 (by omega) (by omega) (by omega)
      rw [s_lat_eq w hh] at key
      rw [s_in_t hh, show q_layerAt F h d = (s_lat F h d, if s_lat F h d = -1 then 6 else 0) from if_pos ⟨hh, hd0⟩]
      simp (disch := omega) only [iI_add, iI_sub, iI_mul, iI_neg, iI_nat, addm1, ixkI, ↓sbind, sbind, ↓bdS, bdS, ↓nm_eq, ↓jn_eq, iI_lt, iI_le, iI_eq, k_0, k_1, k_2, k_3, k_4, k_5, k_6, k_7, k_8, k_9, k_10, k_11, k_12, k_13, k_14, k_15, k_16, k_17, k_18, k_19, k_20, k_21, k_22, k_23, k_24, k_27, k_30, k_32, k_48, k_57, k_59, k_60, k_61, k_62, k_63, k_64, k_72, k_78, k_80, k_82, k_97, k_99, k_100, k_122, k_244, k_255, k_268, k_280, k_300, k_432, k_650, k_900, k_901, k_999, k_1700, k_2600, k_2601, k_2602, k_2603, k_2604, k_2610, k_2618, k_2682, k_2777, k_2844, k_2868, k_2880, k_3245, k_3250, k_9551, k_9999, k_65536, k_100000, k_999999, k_1000000, k_2147483647, lt_T, lt_F, le_T, le_F, eq_T, eq_F, ↓reduceIte, not_true_eq_false, not_false_eq_true, or_true, or_false, true_or, false_or, and_true, true_and, and_false, false_and, bI_t]
      exact key
    · unfold fX11_refuse
      rw [s_in_t hh, show q_layerAt F h d = (-1, 1) from if_neg (fun q => hd0 q.2)]
      simp (disch := omega) only [iI_add, iI_sub, iI_mul, iI_neg, iI_nat, addm1, ixkI, ↓sbind, sbind, ↓bdS, bdS, ↓nm_eq, ↓jn_eq, iI_lt, iI_le, iI_eq, k_0, k_1, k_2, k_3, k_4, k_5, k_6, k_7, k_8, k_9, k_10, k_11, k_12, k_13, k_14, k_15, k_16, k_17, k_18, k_19, k_20, k_21, k_22, k_23, k_24, k_27, k_30, k_32, k_48, k_57, k_59, k_60, k_61, k_62, k_63, k_64, k_72, k_78, k_80, k_82, k_97, k_99, k_100, k_122, k_244, k_255, k_268, k_280, k_300, k_432, k_650, k_900, k_901, k_999, k_1700, k_2600, k_2601, k_2602, k_2603, k_2604, k_2610, k_2618, k_2682, k_2777, k_2844, k_2868, k_2880, k_3245, k_3250, k_9551, k_9999, k_65536, k_100000, k_999999, k_1000000, k_2147483647, lt_T, lt_F, le_T, le_F, eq_T, eq_F, ↓reduceIte, not_true_eq_false, not_false_eq_true, or_true, or_false, true_or, false_or, and_true, true_and, and_false, false_and, bI_t]
  · unfold fX11_refuse
    rw [s_in_f hh, show q_layerAt F h d = (-1, 1) from if_neg (fun q => hh q.1)]
    simp (disch := omega) only [iI_add, iI_sub, iI_mul, iI_neg, iI_nat, addm1, ixkI, ↓sbind, sbind, ↓bdS, bdS, ↓nm_eq, ↓jn_eq, iI_lt, iI_le, iI_eq, k_0, k_1, k_2, k_3, k_4, k_5, k_6, k_7, k_8, k_9, k_10, k_11, k_12, k_13, k_14, k_15, k_16, k_17, k_18, k_19, k_20, k_21, k_22, k_23, k_24, k_27, k_30, k_32, k_48, k_57, k_59, k_60, k_61, k_62, k_63, k_64, k_72, k_78, k_80, k_82, k_97, k_99, k_100, k_122, k_244, k_255, k_268, k_280, k_300, k_432, k_650, k_900, k_901, k_999, k_1700, k_2600, k_2601, k_2602, k_2603, k_2604, k_2610, k_2618, k_2682, k_2777, k_2844, k_2868, k_2880, k_3245, k_3250, k_9551, k_9999, k_65536, k_100000, k_999999, k_1000000, k_2147483647, lt_T, lt_F, le_T, le_F, eq_T, eq_F, ↓reduceIte, not_true_eq_false, not_false_eq_true, or_true, or_false, true_or, false_or, and_true, true_and, and_false, false_and, bI_f]
theorem mq_side (w : WF F) (G : MR m 0 F M) {f h : Int} (hf : -2147483648 ≤ f ∧ f < 2147483648) (ha : -2147483648 ≤ h ∧ h < 2147483648) : mQ m M (fX11_side m (iI f) (iI h) M) (q_side F f h) := by
  refine ⟨M, QM.refl m M, ?_⟩
  have h3 := w.n3
  unfold fX11_side fX11_gives fX11_refuse
  rw [m_isHole w G ha]
  by_cases h1 : 0 ≤ f ∧ f < F 0 3 0
  · by_cases h2 : 0 ≤ h ∧ h < F 0 1 0
    · have e := m_isRight w G h1 h2
      rw [s_in_t h2, e]
      cases hs : s_right F f h <;> unfold q_side <;> simp (disch := omega) only [iI_add, iI_sub, iI_mul, iI_neg, iI_nat, addm1, ixkI, ↓sbind, sbind, ↓bdS, bdS, ↓nm_eq, ↓jn_eq, iI_lt, iI_le, iI_eq, k_0, k_1, k_2, k_3, k_4, k_5, k_6, k_7, k_8, k_9, k_10, k_11, k_12, k_13, k_14, k_15, k_16, k_17, k_18, k_19, k_20, k_21, k_22, k_23, k_24, k_27, k_30, k_32, k_48, k_57, k_59, k_60, k_61, k_62, k_63, k_64, k_72, k_78, k_80, k_82, k_97, k_99, k_100, k_122, k_244, k_255, k_268, k_280, k_300, k_432, k_650, k_900, k_901, k_999, k_1700, k_2600, k_2601, k_2602, k_2603, k_2604, k_2610, k_2618, k_2682, k_2777, k_2844, k_2868, k_2880, k_3245, k_3250, k_9551, k_9999, k_65536, k_100000, k_999999, k_1000000, k_2147483647, lt_T, lt_F, le_T, le_F, eq_T, eq_F, ↓reduceIte, not_true_eq_false, not_false_eq_true, or_true, or_false, true_or, false_or, and_true, true_and, and_false, false_and, hs, G.c3, bI_t, bI_f, if_true, if_false, Bool.false_eq_true]
    · rw [s_in_f h2, show q_side F f h = (-1, 1) from if_neg (fun q => h2 q.2)]; simp (disch := omega) only [iI_add, iI_sub, iI_mul, iI_neg, iI_nat, addm1, ixkI, ↓sbind, sbind, ↓bdS, bdS, ↓nm_eq, ↓jn_eq, iI_lt, iI_le, iI_eq, k_0, k_1, k_2, k_3, k_4, k_5, k_6, k_7, k_8, k_9, k_10, k_11, k_12, k_13, k_14, k_15, k_16, k_17, k_18, k_19, k_20, k_21, k_22, k_23, k_24, k_27, k_30, k_32, k_48, k_57, k_59, k_60, k_61, k_62, k_63, k_64, k_72, k_78, k_80, k_82, k_97, k_99, k_100, k_122, k_244, k_255, k_268, k_280, k_300, k_432, k_650, k_900, k_901, k_999, k_1700, k_2600, k_2601, k_2602, k_2603, k_2604, k_2610, k_2618, k_2682, k_2777, k_2844, k_2868, k_2880, k_3245, k_3250, k_9551, k_9999, k_65536, k_100000, k_999999, k_1000000, k_2147483647, lt_T, lt_F, le_T, le_F, eq_T, eq_F, ↓reduceIte, not_true_eq_false, not_false_eq_true, or_true, or_false, true_or, false_or, and_true, true_and, and_false, false_and, G.c3, bI_f]
  · rw [show q_side F f h = (-1, 1) from if_neg (fun q => h1 q.1)]
    by_cases h4 : f < 0
    · simp (disch := omega) only [iI_add, iI_sub, iI_mul, iI_neg, iI_nat, addm1, ixkI, ↓sbind, sbind, ↓bdS, bdS, ↓nm_eq, ↓jn_eq, iI_lt, iI_le, iI_eq, k_0, k_1, k_2, k_3, k_4, k_5, k_6, k_7, k_8, k_9, k_10, k_11, k_12, k_13, k_14, k_15, k_16, k_17, k_18, k_19, k_20, k_21, k_22, k_23, k_24, k_27, k_30, k_32, k_48, k_57, k_59, k_60, k_61, k_62, k_63, k_64, k_72, k_78, k_80, k_82, k_97, k_99, k_100, k_122, k_244, k_255, k_268, k_280, k_300, k_432, k_650, k_900, k_901, k_999, k_1700, k_2600, k_2601, k_2602, k_2603, k_2604, k_2610, k_2618, k_2682, k_2777, k_2844, k_2868, k_2880, k_3245, k_3250, k_9551, k_9999, k_65536, k_100000, k_999999, k_1000000, k_2147483647, lt_T, lt_F, le_T, le_F, eq_T, eq_F, ↓reduceIte, not_true_eq_false, not_false_eq_true, or_true, or_false, true_or, false_or, and_true, true_and, and_false, false_and]
    · simp (disch := omega) only [iI_add, iI_sub, iI_mul, iI_neg, iI_nat, addm1, ixkI, ↓sbind, sbind, ↓bdS, bdS, ↓nm_eq, ↓jn_eq, iI_lt, iI_le, iI_eq, k_0, k_1, k_2, k_3, k_4, k_5, k_6, k_7, k_8, k_9, k_10, k_11, k_12, k_13, k_14, k_15, k_16, k_17, k_18, k_19, k_20, k_21, k_22, k_23, k_24, k_27, k_30, k_32, k_48, k_57, k_59, k_60, k_61, k_62, k_63, k_64, k_72, k_78, k_80, k_82, k_97, k_99, k_100, k_122, k_244, k_255, k_268, k_280, k_300, k_432, k_650, k_900, k_901, k_999, k_1700, k_2600, k_2601, k_2602, k_2603, k_2604, k_2610, k_2618, k_2682, k_2777, k_2844, k_2868, k_2880, k_3245, k_3250, k_9551, k_9999, k_65536, k_100000, k_999999, k_1000000, k_2147483647, lt_T, lt_F, le_T, le_F, eq_T, eq_F, ↓reduceIte, not_true_eq_false, not_false_eq_true, or_true, or_false, true_or, false_or, and_true, true_and, and_false, false_and, G.c3]
theorem mq_across (w : WF F) (G : MR m 0 F M) {t : Int} (ht : -2147483648 ≤ t ∧ t < 2147483648) {φ : Nat} (hφ : 100 < φ) : mQ m M (fX11_across φ m (iI t) M) (q_across F t) := by
  refine ⟨M, QM.refl m M, ?_⟩
  unfold fX11_across fX11_gives fX11_refuse
  rw [m_isTriangle w G ht]
  by_cases h1 : 0 ≤ t ∧ t < F 0 2 0
  · have e := m_isAcross w G h1 hφ
    rw [s_in_t h1, e]
    cases hs : s_split F t <;> unfold q_across <;> simp (disch := omega) only [iI_add, iI_sub, iI_mul, iI_neg, iI_nat, addm1, ixkI, ↓sbind, sbind, ↓bdS, bdS, ↓nm_eq, ↓jn_eq, iI_lt, iI_le, iI_eq, k_0, k_1, k_2, k_3, k_4, k_5, k_6, k_7, k_8, k_9, k_10, k_11, k_12, k_13, k_14, k_15, k_16, k_17, k_18, k_19, k_20, k_21, k_22, k_23, k_24, k_27, k_30, k_32, k_48, k_57, k_59, k_60, k_61, k_62, k_63, k_64, k_72, k_78, k_80, k_82, k_97, k_99, k_100, k_122, k_244, k_255, k_268, k_280, k_300, k_432, k_650, k_900, k_901, k_999, k_1700, k_2600, k_2601, k_2602, k_2603, k_2604, k_2610, k_2618, k_2682, k_2777, k_2844, k_2868, k_2880, k_3245, k_3250, k_9551, k_9999, k_65536, k_100000, k_999999, k_1000000, k_2147483647, lt_T, lt_F, le_T, le_F, eq_T, eq_F, ↓reduceIte, not_true_eq_false, not_false_eq_true, or_true, or_false, true_or, false_or, and_true, true_and, and_false, false_and, hs, bI_t, bI_f, if_true, if_false, Bool.false_eq_true]
  · rw [s_in_f h1, show q_across F t = (-1, 1) from if_neg h1]; simp (disch := omega) only [iI_add, iI_sub, iI_mul, iI_neg, iI_nat, addm1, ixkI, ↓sbind, sbind, ↓bdS, bdS, ↓nm_eq, ↓jn_eq, iI_lt, iI_le, iI_eq, k_0, k_1, k_2, k_3, k_4, k_5, k_6, k_7, k_8, k_9, k_10, k_11, k_12, k_13, k_14, k_15, k_16, k_17, k_18, k_19, k_20, k_21, k_22, k_23, k_24, k_27, k_30, k_32, k_48, k_57, k_59, k_60, k_61, k_62, k_63, k_64, k_72, k_78, k_80, k_82, k_97, k_99, k_100, k_122, k_244, k_255, k_268, k_280, k_300, k_432, k_650, k_900, k_901, k_999, k_1700, k_2600, k_2601, k_2602, k_2603, k_2604, k_2610, k_2618, k_2682, k_2777, k_2844, k_2868, k_2880, k_3245, k_3250, k_9551, k_9999, k_65536, k_100000, k_999999, k_1000000, k_2147483647, lt_T, lt_F, le_T, le_F, eq_T, eq_F, ↓reduceIte, not_true_eq_false, not_false_eq_true, or_true, or_false, true_or, false_or, and_true, true_and, and_false, false_and, bI_f]
/-- the weights, with the way that makes the triangle's own above 0 -/
def s_w (F : Fld) (t k x y : Int) : Int := s_sg (s_turn F t) * s_wt F t k x y
theorem s_w_bd (w : WF F) {t k x y : Int} (ht : 0 ≤ t ∧ t < F 0 2 0) (hk : 0 ≤ k ∧ k < 3) (hx : 0 ≤ x ∧ x ≤ 999) (hy : 0 ≤ y ∧ y ≤ 999) : -1996002 ≤ s_w F t k x y ∧ s_w F t k x y ≤ 1996002 := by
  have h := s_wt_bd w ht hk hx hy
  unfold s_w
  rw [s_sg_mul]
  by_cases hc : 0 ≤ s_turn F t
  · rw [if_pos hc]; omega
  · rw [if_neg hc]; omega
theorem tw_rot (a b c d x y : Int) : tw a b c d x y = tw x y a b c d := by
  unfold tw
  grind
theorem m_weighs13 (w : WF F) {t x y : Int} (ht : 0 ≤ t ∧ t < F 0 2 0) (hx : 0 ≤ x ∧ x ≤ 999) (hy : 0 ≤ y ∧ y ≤ 999) : ∀ (n : Nat) (i : Int), 0 ≤ i → i ≤ 3 → 3 < n + i → ∀ M, MR m 0 F M → (∀ k : Int, 0 ≤ k → k < i → M.2.1 (m + 18) k.toNat = lI (s_w F t k x y)) → ∃ M', lX11_weighs_13 m (iI t) (iI x) (iI y) (lI (s_turn F t)) n (bI (!an (fun k => decide (s_w F t k x y < 0)) i)) (iI i) M = some (bI (!an (fun k => decide (s_w F t k x y < 0)) 3), M') ∧ Fr (Rg (m + 18) (m + 18)) M M' ∧ ∀ k : Int, 0 ≤ k → k < 3 → M'.2.1 (m + 18) k.toNat = lI (s_w F t k x y) := by
  have h1 := w.n1
  have h2 := w.n2
  have hb := w.tr ht
  refine lup (N := 3) (P := fun n i => ∀ M, MR m 0 F M → (∀ k : Int, 0 ≤ k → k < i → M.2.1 (m + 18) k.toNat = lI (s_w F t k x y)) → ∃ M', lX11_weighs_13 m (iI t) (iI x) (iI y) (lI (s_turn F t)) n (bI (!an (fun k => decide (s_w F t k x y < 0)) i)) (iI i) M = some (bI (!an (fun k => decide (s_w F t k x y < 0)) 3), M') ∧ Fr (Rg (m + 18) (m + 18)) M M' ∧ ∀ k : Int, 0 ≤ k → k < 3 → M'.2.1 (m + 18) k.toNat = lI (s_w F t k x y)) ?_ ?_
  · intro n M hG hM
    refine ⟨M, ?_, Fr.refl M, hM⟩
    rw [lX11_weighs_13_s]
    simp (disch := omega) only [iI_add, iI_sub, iI_mul, iI_neg, iI_nat, addm1, ixkI, ↓sbind, sbind, ↓bdS, bdS, ↓nm_eq, ↓jn_eq, iI_lt, iI_le, iI_eq, k_0, k_1, k_2, k_3, k_4, k_5, k_6, k_7, k_8, k_9, k_10, k_11, k_12, k_13, k_14, k_15, k_16, k_17, k_18, k_19, k_20, k_21, k_22, k_23, k_24, k_27, k_30, k_32, k_48, k_57, k_59, k_60, k_61, k_62, k_63, k_64, k_72, k_78, k_80, k_82, k_97, k_99, k_100, k_122, k_244, k_255, k_268, k_280, k_300, k_432, k_650, k_900, k_901, k_999, k_1700, k_2600, k_2601, k_2602, k_2603, k_2604, k_2610, k_2618, k_2682, k_2777, k_2844, k_2868, k_2880, k_3245, k_3250, k_9551, k_9999, k_65536, k_100000, k_999999, k_1000000, k_2147483647, lt_T, lt_F, le_T, le_F, eq_T, eq_F, ↓reduceIte, not_true_eq_false, not_false_eq_true, or_true, or_false, true_or, false_or, and_true, true_and, and_false, false_and, bI_01]
  · intro n i i0 i1 ih M hG hM
    have c1 := w.co ht (k := (i + 1) % 3) (by omega)
    have c2 := w.co ht (k := (i + 2) % 3) (by omega)
    have hw := s_w_bd w ht ⟨i0, i1⟩ hx hy
    have hwt := s_wt_bd w ht ⟨i0, i1⟩ hx hy
    have hF : Fr (Rg (m + 18) (m + 18)) M (stL M (m + 18) i.toNat (lI (s_w F t i x y))) := Fr.stL ⟨by omega, by omega⟩ (Fr.refl M)
    obtain ⟨M', e, f, T⟩ := ih (stL M (m + 18) i.toNat (lI (s_w F t i x y))) (hG.fr hF (fun q => by have := q.1; omega)) (fun k k0 k1 => by
      by_cases hk : k = i
      · rw [hk]; exact rL_at rfl rfl
      · rw [rL_nk (by omega)]; exact hM k k0 (by omega))
    refine ⟨M', ?_, hF.trans f, T⟩
    have el := m_leftOf (M := M) (w.x c1) (w.y c1) (w.x c2) (w.y c2) hx hy
    have er : tw (F 3 (F 6 t ((i + 1) % 3)) 0) (F 3 (F 6 t ((i + 1) % 3)) 1) (F 3 (F 6 t ((i + 2) % 3)) 0) (F 3 (F 6 t ((i + 2) % 3)) 1) x y = s_wt F t i x y := tw_rot _ _ _ _ _ _
    rw [er] at el
    rw [← e, an_s _ i0, lX11_weighs_13_s]
    unfold fX11_holeRow
    have r1 := i_rem3 (a := i + 1) (by omega)
    have r2 := i_rem3 (a := i + 2) (by omega)
    have k1 := m_corner hG (t := t) (k := (i + 1) % 3) (by omega) (by omega)
    have k2 := m_corner hG (t := t) (k := (i + 2) % 3) (by omega) (by omega)
    have ew : s_w F t i x y = if 0 ≤ s_turn F t then s_wt F t i x y else -s_wt F t i x y := s_sg_mul _ _
    have rd : (stL M (m + 18) i.toNat (lI (s_w F t i x y))).2.1 (m + 18) i.toNat = lI (s_w F t i x y) := rL_at rfl rfl
    simp only [k_1, k_2, k_3, iI_add]
    rw [r1, r2]
    simp (disch := omega) only [iI_add, iI_sub, iI_mul, iI_neg, iI_nat, addm1, ixkI, ↓sbind, sbind, ↓bdS, bdS, ↓nm_eq, ↓jn_eq, iI_lt, iI_le, iI_eq, k_0, k_1, k_2, k_3, k_4, k_5, k_6, k_7, k_8, k_9, k_10, k_11, k_12, k_13, k_14, k_15, k_16, k_17, k_18, k_19, k_20, k_21, k_22, k_23, k_24, k_27, k_30, k_32, k_48, k_57, k_59, k_60, k_61, k_62, k_63, k_64, k_72, k_78, k_80, k_82, k_97, k_99, k_100, k_122, k_244, k_255, k_268, k_280, k_300, k_432, k_650, k_900, k_901, k_999, k_1700, k_2600, k_2601, k_2602, k_2603, k_2604, k_2610, k_2618, k_2682, k_2777, k_2844, k_2868, k_2880, k_3245, k_3250, k_9551, k_9999, k_65536, k_100000, k_999999, k_1000000, k_2147483647, lt_T, lt_F, le_T, le_F, eq_T, eq_F, ↓reduceIte, not_true_eq_false, not_false_eq_true, or_true, or_false, true_or, false_or, and_true, true_and, and_false, false_and, k1, k2, hG.x, hG.hw, el, kl_0, lI_le, lI_neg, bI_0]
    by_cases hs : 0 ≤ s_turn F t
    · rw [if_pos hs] at ew ⊢
      rw [← ew]
      by_cases hn : s_w F t i x y < 0
      · rw [decide_eq_true hn]
        simp (disch := omega) only [rd, lI_lt, lt_T, lt_F, le_T, le_F, eq_T, eq_F, ↓reduceIte, not_true_eq_false, not_false_eq_true, or_true, or_false, true_or, false_or, and_true, true_and, and_false, false_and, ite_self, Bool.or_true, Bool.not_true, bI_f]
      · rw [decide_eq_false hn]
        simp (disch := omega) only [rd, lI_lt, lt_T, lt_F, le_T, le_F, eq_T, eq_F, ↓reduceIte, not_true_eq_false, not_false_eq_true, or_true, or_false, true_or, false_or, and_true, true_and, and_false, false_and, Bool.or_false]
        cases an (fun k => decide (s_w F t k x y < 0)) i <;> simp [bI]
    · rw [if_neg hs] at ew ⊢
      rw [← ew]
      by_cases hn : s_w F t i x y < 0
      · rw [decide_eq_true hn]
        simp (disch := omega) only [rd, lI_lt, lt_T, lt_F, le_T, le_F, eq_T, eq_F, ↓reduceIte, not_true_eq_false, not_false_eq_true, or_true, or_false, true_or, false_or, and_true, true_and, and_false, false_and, ite_self, Bool.or_true, Bool.not_true, bI_f]
      · rw [decide_eq_false hn]
        simp (disch := omega) only [rd, lI_lt, lt_T, lt_F, le_T, le_F, eq_T, eq_F, ↓reduceIte, not_true_eq_false, not_false_eq_true, or_true, or_false, true_or, false_or, and_true, true_and, and_false, false_and, Bool.or_false]
        cases an (fun k => decide (s_w F t k x y < 0)) i <;> simp [bI]
theorem an_ff (P : Int → Bool) : (ff P 3 0 == -1) = !an P 3 := by
  have e : an P 3 = (((false || P 0) || P 1) || P 2) := rfl
  have e0 : ff P 3 0 = if P 0 then 0 else if P 1 then 1 else if P 2 then 2 else -1 := rfl
  rw [e, e0]
  cases P 0 <;> cases P 1 <;> cases P 2 <;> rfl
theorem m_weighs (w : WF F) (G : MR m 0 F M) {t x y : Int} (ht : 0 ≤ t ∧ t < F 0 2 0) (hx : 0 ≤ x ∧ x ≤ 999) (hy : 0 ≤ y ∧ y ≤ 999) {φ : Nat} (hφ : 100 < φ) : ∃ M', fX11_weighs φ m (iI t) (iI x) (iI y) M = some (bI (s_inside F t x y), M') ∧ Fr (Rg (m + 18) (m + 18)) M M' ∧ ∀ k : Int, 0 ≤ k → k < 3 → M'.2.1 (m + 18) k.toNat = lI (s_w F t k x y) := by
  obtain ⟨M', e, f, T⟩ := m_weighs13 (m := m) w ht hx hy φ 0 (by omega) (by omega) (by omega) M G (fun k a b => by omega)
  refine ⟨M', ?_, f, T⟩
  unfold fX11_weighs
  rw [m_twiceArea w G ht]
  simp only [sbind, k_0, k_1]
  have ei : s_inside F t x y = !an (fun k => decide (s_w F t k x y < 0)) 3 := an_ff _
  rw [ei]
  exact e
theorem m_triangleOf (w : WF F) {x y : Int} (hx : 0 ≤ x ∧ x ≤ 999) (hy : 0 ≤ y ∧ y ≤ 999) {φ : Nat} (hφ : 100 < φ) (G : MR m 0 F M) : ∃ M', fX11_triangleOf φ m (iI x) (iI y) M = some (iI (s_tri F x y), M') ∧ Fr (Rg (m + 18) (m + 18)) M M' ∧ (s_tri F x y ≠ -1 → ∀ k : Int, 0 ≤ k → k < 3 → M'.2.1 (m + 18) k.toNat = lI (s_w F (s_tri F x y) k x y)) := by
  have h2 := w.n2
  have key := lup (N := F 0 2 0) (P := fun n i => ∀ M, MR m 0 F M → ∃ M', lX11_triangleOf_2 φ m (iI x) (iI y) n (iI i) M = some (iI (ff (fun t => !s_split F t && s_inside F t x y) (F 0 2 0) i), M') ∧ Fr (Rg (m + 18) (m + 18)) M M' ∧ (ff (fun t => !s_split F t && s_inside F t x y) (F 0 2 0) i ≠ -1 → ∀ k : Int, 0 ≤ k → k < 3 → M'.2.1 (m + 18) k.toNat = lI (s_w F (ff (fun t => !s_split F t && s_inside F t x y) (F 0 2 0) i) k x y)))
    (fun n M G => by
      refine ⟨M, ?_, Fr.refl M, fun q => absurd (ff_e _ _) q⟩
      rw [lX11_triangleOf_2_s, ff_e]
      simp (disch := omega) only [iI_add, iI_sub, iI_mul, iI_neg, iI_nat, addm1, ixkI, ↓sbind, sbind, ↓bdS, bdS, ↓nm_eq, ↓jn_eq, iI_lt, iI_le, iI_eq, k_0, k_1, k_2, k_3, k_4, k_5, k_6, k_7, k_8, k_9, k_10, k_11, k_12, k_13, k_14, k_15, k_16, k_17, k_18, k_19, k_20, k_21, k_22, k_23, k_24, k_27, k_30, k_32, k_48, k_57, k_59, k_60, k_61, k_62, k_63, k_64, k_72, k_78, k_80, k_82, k_97, k_99, k_100, k_122, k_244, k_255, k_268, k_280, k_300, k_432, k_650, k_900, k_901, k_999, k_1700, k_2600, k_2601, k_2602, k_2603, k_2604, k_2610, k_2618, k_2682, k_2777, k_2844, k_2868, k_2880, k_3245, k_3250, k_9551, k_9999, k_65536, k_100000, k_999999, k_1000000, k_2147483647, lt_T, lt_F, le_T, le_F, eq_T, eq_F, ↓reduceIte, not_true_eq_false, not_false_eq_true, or_true, or_false, true_or, false_or, and_true, true_and, and_false, false_and, G.c2])
    (fun n i i0 i1 ih M G => by
      have ea := m_isAcross w G ⟨i0, i1⟩ hφ
      cases hs : s_split F i
      · obtain ⟨M1, e1, f1, T1⟩ := m_weighs w G ⟨i0, i1⟩ hx hy hφ
        cases hi : s_inside F i x y
        · obtain ⟨M', e, f, T⟩ := ih M1 (G.fr f1 (fun q => by have := q.1; omega))
          rw [ff_f i1 (by simp [hs, hi])]
          refine ⟨M', ?_, f1.trans f, T⟩
          rw [lX11_triangleOf_2_s, ea, hs, e1, hi, ← e]
          simp (disch := omega) only [iI_add, iI_sub, iI_mul, iI_neg, iI_nat, addm1, ixkI, ↓sbind, sbind, ↓bdS, bdS, ↓nm_eq, ↓jn_eq, iI_lt, iI_le, iI_eq, k_0, k_1, k_2, k_3, k_4, k_5, k_6, k_7, k_8, k_9, k_10, k_11, k_12, k_13, k_14, k_15, k_16, k_17, k_18, k_19, k_20, k_21, k_22, k_23, k_24, k_27, k_30, k_32, k_48, k_57, k_59, k_60, k_61, k_62, k_63, k_64, k_72, k_78, k_80, k_82, k_97, k_99, k_100, k_122, k_244, k_255, k_268, k_280, k_300, k_432, k_650, k_900, k_901, k_999, k_1700, k_2600, k_2601, k_2602, k_2603, k_2604, k_2610, k_2618, k_2682, k_2777, k_2844, k_2868, k_2880, k_3245, k_3250, k_9551, k_9999, k_65536, k_100000, k_999999, k_1000000, k_2147483647, lt_T, lt_F, le_T, le_F, eq_T, eq_F, ↓reduceIte, not_true_eq_false, not_false_eq_true, or_true, or_false, true_or, false_or, and_true, true_and, and_false, false_and, G.c2, bI_f]
        · rw [ff_t i1 (by simp [hs, hi])]
          refine ⟨M1, ?_, f1, fun _ => T1⟩
          rw [lX11_triangleOf_2_s, ea, hs, e1, hi]
          simp (disch := omega) only [iI_add, iI_sub, iI_mul, iI_neg, iI_nat, addm1, ixkI, ↓sbind, sbind, ↓bdS, bdS, ↓nm_eq, ↓jn_eq, iI_lt, iI_le, iI_eq, k_0, k_1, k_2, k_3, k_4, k_5, k_6, k_7, k_8, k_9, k_10, k_11, k_12, k_13, k_14, k_15, k_16, k_17, k_18, k_19, k_20, k_21, k_22, k_23, k_24, k_27, k_30, k_32, k_48, k_57, k_59, k_60, k_61, k_62, k_63, k_64, k_72, k_78, k_80, k_82, k_97, k_99, k_100, k_122, k_244, k_255, k_268, k_280, k_300, k_432, k_650, k_900, k_901, k_999, k_1700, k_2600, k_2601, k_2602, k_2603, k_2604, k_2610, k_2618, k_2682, k_2777, k_2844, k_2868, k_2880, k_3245, k_3250, k_9551, k_9999, k_65536, k_100000, k_999999, k_1000000, k_2147483647, lt_T, lt_F, le_T, le_F, eq_T, eq_F, ↓reduceIte, not_true_eq_false, not_false_eq_true, or_true, or_false, true_or, false_or, and_true, true_and, and_false, false_and, G.c2, bI_f, bI_t]
      · obtain ⟨M', e, f, T⟩ := ih M G
        rw [ff_f i1 (by simp [hs])]
        refine ⟨M', ?_, f, T⟩
        rw [lX11_triangleOf_2_s, ea, hs, ← e]
        simp (disch := omega) only [iI_add, iI_sub, iI_mul, iI_neg, iI_nat, addm1, ixkI, ↓sbind, sbind, ↓bdS, bdS, ↓nm_eq, ↓jn_eq, iI_lt, iI_le, iI_eq, k_0, k_1, k_2, k_3, k_4, k_5, k_6, k_7, k_8, k_9, k_10, k_11, k_12, k_13, k_14, k_15, k_16, k_17, k_18, k_19, k_20, k_21, k_22, k_23, k_24, k_27, k_30, k_32, k_48, k_57, k_59, k_60, k_61, k_62, k_63, k_64, k_72, k_78, k_80, k_82, k_97, k_99, k_100, k_122, k_244, k_255, k_268, k_280, k_300, k_432, k_650, k_900, k_901, k_999, k_1700, k_2600, k_2601, k_2602, k_2603, k_2604, k_2610, k_2618, k_2682, k_2777, k_2844, k_2868, k_2880, k_3245, k_3250, k_9551, k_9999, k_65536, k_100000, k_999999, k_1000000, k_2147483647, lt_T, lt_F, le_T, le_F, eq_T, eq_F, ↓reduceIte, not_true_eq_false, not_false_eq_true, or_true, or_false, true_or, false_or, and_true, true_and, and_false, false_and, G.c2, bI_t])
    φ 0 (by omega) (by omega) (by omega) M G
  unfold fX11_triangleOf
  simp only [k_0]
  exact key
theorem QM.w18 {M1 : Mem} (f : Fr (Rg (m + 18) (m + 18)) M M1) : QM m M M1 := ⟨f.mono fun x q => Or.inr (Or.inr ⟨by have := q.1; omega, by have := q.2; omega⟩), fun j _ _ => by rw [(f m (fun q => by have := q.1; omega)).1], (f m (fun q => by have := q.1; omega)).2.1⟩
theorem mq_triangleAt (w : WF F) (G : MR m 0 F M) {x y : Int} (hx : -2147483648 ≤ x ∧ x < 2147483648) (hy : -2147483648 ≤ y ∧ y < 2147483648) {φ : Nat} (hφ : 100 < φ) : mQ m M (fX11_triangleAt φ m (iI x) (iI y) M) (q_triAt F x y) := by
  have h2 := w.n2
  have hb := s_tri_bd w x y
  unfold fX11_triangleAt
  rw [m_isPoint hx hy]
  unfold s_pt fX11_orNone fX11_gives fX11_refuse
  by_cases h1 : (0 ≤ x ∧ x ≤ 999) ∧ 0 ≤ y ∧ y ≤ 999
  · obtain ⟨M1, e, f, T⟩ := m_triangleOf w h1.1 h1.2 hφ G
    refine ⟨M1, QM.w18 f, ?_⟩
    rw [decide_eq_true h1, e, show q_triAt F x y = (s_tri F x y, if s_tri F x y = -1 then 6 else 0) from if_pos h1]
    by_cases hz : s_tri F x y = -1
    · simp (disch := omega) only [iI_add, iI_sub, iI_mul, iI_neg, iI_nat, addm1, ixkI, ↓sbind, sbind, ↓bdS, bdS, ↓nm_eq, ↓jn_eq, iI_lt, iI_le, iI_eq, k_0, k_1, k_2, k_3, k_4, k_5, k_6, k_7, k_8, k_9, k_10, k_11, k_12, k_13, k_14, k_15, k_16, k_17, k_18, k_19, k_20, k_21, k_22, k_23, k_24, k_27, k_30, k_32, k_48, k_57, k_59, k_60, k_61, k_62, k_63, k_64, k_72, k_78, k_80, k_82, k_97, k_99, k_100, k_122, k_244, k_255, k_268, k_280, k_300, k_432, k_650, k_900, k_901, k_999, k_1700, k_2600, k_2601, k_2602, k_2603, k_2604, k_2610, k_2618, k_2682, k_2777, k_2844, k_2868, k_2880, k_3245, k_3250, k_9551, k_9999, k_65536, k_100000, k_999999, k_1000000, k_2147483647, lt_T, lt_F, le_T, le_F, eq_T, eq_F, ↓reduceIte, not_true_eq_false, not_false_eq_true, or_true, or_false, true_or, false_or, and_true, true_and, and_false, false_and, bI_t, hz]
    · simp (disch := omega) only [iI_add, iI_sub, iI_mul, iI_neg, iI_nat, addm1, ixkI, ↓sbind, sbind, ↓bdS, bdS, ↓nm_eq, ↓jn_eq, iI_lt, iI_le, iI_eq, k_0, k_1, k_2, k_3, k_4, k_5, k_6, k_7, k_8, k_9, k_10, k_11, k_12, k_13, k_14, k_15, k_16, k_17, k_18, k_19, k_20, k_21, k_22, k_23, k_24, k_27, k_30, k_32, k_48, k_57, k_59, k_60, k_61, k_62, k_63, k_64, k_72, k_78, k_80, k_82, k_97, k_99, k_100, k_122, k_244, k_255, k_268, k_280, k_300, k_432, k_650, k_900, k_901, k_999, k_1700, k_2600, k_2601, k_2602, k_2603, k_2604, k_2610, k_2618, k_2682, k_2777, k_2844, k_2868, k_2880, k_3245, k_3250, k_9551, k_9999, k_65536, k_100000, k_999999, k_1000000, k_2147483647, lt_T, lt_F, le_T, le_F, eq_T, eq_F, ↓reduceIte, not_true_eq_false, not_false_eq_true, or_true, or_false, true_or, false_or, and_true, true_and, and_false, false_and, bI_t]
  · refine ⟨M, QM.refl m M, ?_⟩
    rw [decide_eq_false h1, show q_triAt F x y = (-1, 1) from if_neg h1]; simp (disch := omega) only [iI_add, iI_sub, iI_mul, iI_neg, iI_nat, addm1, ixkI, ↓sbind, sbind, ↓bdS, bdS, ↓nm_eq, ↓jn_eq, iI_lt, iI_le, iI_eq, k_0, k_1, k_2, k_3, k_4, k_5, k_6, k_7, k_8, k_9, k_10, k_11, k_12, k_13, k_14, k_15, k_16, k_17, k_18, k_19, k_20, k_21, k_22, k_23, k_24, k_27, k_30, k_32, k_48, k_57, k_59, k_60, k_61, k_62, k_63, k_64, k_72, k_78, k_80, k_82, k_97, k_99, k_100, k_122, k_244, k_255, k_268, k_280, k_300, k_432, k_650, k_900, k_901, k_999, k_1700, k_2600, k_2601, k_2602, k_2603, k_2604, k_2610, k_2618, k_2682, k_2777, k_2844, k_2868, k_2880, k_3245, k_3250, k_9551, k_9999, k_65536, k_100000, k_999999, k_1000000, k_2147483647, lt_T, lt_F, le_T, le_F, eq_T, eq_F, ↓reduceIte, not_true_eq_false, not_false_eq_true, or_true, or_false, true_or, false_or, and_true, true_and, and_false, false_and, bI_f]
end SM
