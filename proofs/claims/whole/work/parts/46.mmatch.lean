/-! the reference works a match out -/
section MM
variable {m : Nat} {F : Fld} {M : Mem}
theorem m_leftCost (w : WF F) (G : MR m 0 F M) {h l : Int} (hh : 0 ≤ h ∧ h < F 0 1 0) (hl : 0 ≤ l ∧ l < F 3 h 2) : fX11_leftCost m (iI h) (iI l) M = some (iI (s_left F h l)) := by
  have h0 := w.n0
  have h1 := w.n1
  have h2 := w.nl hh
  have h3 := w.rk hh hl
  unfold fX11_leftCost s_left
  rw [m_rockOf G (by omega) (by omega), m_thickOf G (by omega) (by omega)]
  simp (disch := omega) only [iI_add, iI_sub, iI_mul, iI_neg, iI_nat, addm1, ixkI, ↓sbind, sbind, ↓bdS, bdS, ↓nm_eq, ↓jn_eq, iI_lt, iI_le, iI_eq, k_0, k_1, k_2, k_3, k_4, k_5, k_6, k_7, k_8, k_9, k_10, k_11, k_12, k_13, k_14, k_15, k_16, k_17, k_18, k_19, k_20, k_21, k_22, k_23, k_24, k_27, k_30, k_32, k_48, k_57, k_59, k_60, k_61, k_62, k_63, k_64, k_72, k_78, k_80, k_82, k_97, k_99, k_100, k_122, k_244, k_255, k_268, k_280, k_300, k_432, k_650, k_900, k_901, k_999, k_1700, k_2600, k_2601, k_2602, k_2603, k_2604, k_2610, k_2618, k_2682, k_2777, k_2844, k_2868, k_2880, k_3245, k_3250, k_9551, k_9999, k_65536, k_100000, k_999999, k_1000000, k_2147483647, G.sk]
theorem m_pairCost (w : WF F) (G : MR m 0 F M) {a b i k : Int} (ha : 0 ≤ a ∧ a < F 0 1 0) (hb : 0 ≤ b ∧ b < F 0 1 0) (hi : 0 ≤ i ∧ i < F 3 a 2) (hk : 0 ≤ k ∧ k < F 3 b 2) : fX11_pairCost m (iI a) (iI i) (iI b) (iI k) M = some (iI (s_pair F a i b k)) := by
  have h0 := w.n0
  have h1 := w.n1
  have h2 := w.nl ha
  have h3 := w.nl hb
  have r1 := w.rk ha hi
  have r2 := w.rk hb hk
  have t1 := w.th ha hi
  have t2 := w.th hb hk
  unfold fX11_pairCost s_pair
  rw [m_rockOf G (by omega) (by omega), m_rockOf G (by omega) (by omega), m_thickOf G (by omega) (by omega), m_thickOf G (by omega) (by omega)]
  simp only [sbind]
  rw [m_unlikeOf G (by omega) (by omega)]
  simp (disch := omega) only [iI_add, iI_sub, iI_mul, iI_neg, iI_nat, addm1, ixkI, ↓sbind, sbind, ↓bdS, bdS, ↓nm_eq, ↓jn_eq, iI_lt, iI_le, iI_eq, k_0, k_1, k_2, k_3, k_4, k_5, k_6, k_7, k_8, k_9, k_10, k_11, k_12, k_13, k_14, k_15, k_16, k_17, k_18, k_19, k_20, k_21, k_22, k_23, k_24, k_27, k_30, k_32, k_48, k_57, k_59, k_60, k_61, k_62, k_63, k_64, k_72, k_78, k_80, k_82, k_97, k_99, k_100, k_122, k_244, k_255, k_268, k_280, k_300, k_432, k_650, k_900, k_901, k_999, k_1700, k_2600, k_2601, k_2602, k_2603, k_2604, k_2610, k_2618, k_2682, k_2777, k_2844, k_2868, k_2880, k_3245, k_3250, k_9551, k_9999, k_65536, k_100000, k_999999, k_1000000, k_2147483647, iI_ite]
  all_goals rfl
theorem m_match25 (w : WF F) {a b i : Int} (ha : 0 ≤ a ∧ a < F 0 1 0) (hb : 0 ≤ b ∧ b < F 0 1 0) (hi : 0 ≤ i ∧ i ≤ F 3 a 2) (K : Mem → Option (Int32 × Mem)) : ∀ (n : Nat) (k : Int), -1 ≤ k → k + 1 < n → k ≤ F 3 b 2 → ∀ M, MR m 0 F M → TB (m + 9) F a b i k M → ∃ M', lX11_matches_25 K m (iI a) (iI b) (iI (F 3 a 2)) (iI (F 3 b 2)) (iI i) n (iI k) M = K M' ∧ Fr (Rg (m + 9) (m + 9)) M M' ∧ TB (m + 9) F a b i (-1) M' := by
  have h1 := w.n1
  have h2 := w.nl ha
  have h3 := w.nl hb
  intro n k hk hn
  refine ldn (P := fun n k => k ≤ F 3 b 2 → ∀ M, MR m 0 F M → TB (m + 9) F a b i k M → ∃ M', lX11_matches_25 K m (iI a) (iI b) (iI (F 3 a 2)) (iI (F 3 b 2)) (iI i) n (iI k) M = K M' ∧ Fr (Rg (m + 9) (m + 9)) M M' ∧ TB (m + 9) F a b i (-1) M') ?_ ?_ n k hk hn
  · intro n _ M hG hT
    refine ⟨M, ?_, Fr.refl M, hT⟩
    rw [lX11_matches_25_s]
    simp (disch := omega) only [iI_add, iI_sub, iI_mul, iI_neg, iI_nat, addm1, ixkI, ↓sbind, sbind, ↓bdS, bdS, ↓nm_eq, ↓jn_eq, iI_lt, iI_le, iI_eq, k_0, k_1, k_2, k_3, k_4, k_5, k_6, k_7, k_8, k_9, k_10, k_11, k_12, k_13, k_14, k_15, k_16, k_17, k_18, k_19, k_20, k_21, k_22, k_23, k_24, k_27, k_30, k_32, k_48, k_57, k_59, k_60, k_61, k_62, k_63, k_64, k_72, k_78, k_80, k_82, k_97, k_99, k_100, k_122, k_244, k_255, k_268, k_280, k_300, k_432, k_650, k_900, k_901, k_999, k_1700, k_2600, k_2601, k_2602, k_2603, k_2604, k_2610, k_2618, k_2682, k_2777, k_2844, k_2868, k_2880, k_3245, k_3250, k_9551, k_9999, k_65536, k_100000, k_999999, k_1000000, k_2147483647, lt_T, lt_F, le_T, le_F, eq_T, eq_F, ↓reduceIte, not_true_eq_false, not_false_eq_true, or_true, or_false, true_or, false_or, and_true, true_and, and_false, false_and]
  · intro n k h0 ih hm M hG hT
    have hF : Fr (Rg (m + 9) (m + 9)) M (stI M (m + 9) (13 * i + k).toNat (iI (cT F a b i k))) := Fr.stI ⟨by omega, by omega⟩ (Fr.refl M)
    obtain ⟨M', e, f, T⟩ := ih (by omega) _ (hG.fr hF (fun q => by have := q.1; omega)) (hT.put h3.2 (by omega) (by omega))
    refine ⟨M', ?_, hF.trans f, T⟩
    rw [← e, lX11_matches_25_s]
    have q1 := cT_bd w ha hb (i := i + 1) (k := k) (by omega) (by omega)
    have q2 := cT_bd w ha hb (i := i) (k := k + 1) (by omega) (by omega)
    have q3 := cT_bd w ha hb (i := i + 1) (k := k + 1) (by omega) (by omega)
    by_cases ci : i < F 3 a 2
    · have b1 := s_left_bd w ha ⟨hi.1, ci⟩
      have e1 := hT.at (i' := i + 1) (k' := k) (e := 13 * i + 13 + k) (by omega) (by omega)
      have l1 := m_leftCost w hG ha ⟨hi.1, ci⟩
      by_cases ck : k < F 3 b 2
      · have b2 := s_left_bd w hb ⟨h0, ck⟩
        have b3 := s_pair_bd w ha hb ⟨hi.1, ci⟩ ⟨h0, ck⟩
        have e2 := hT.at (i' := i) (k' := k + 1) (e := 13 * i + k + 1) (by omega) (by omega)
        have e3 := hT.at (i' := i + 1) (k' := k + 1) (e := 13 * i + 13 + k + 1) (by omega) (by omega)
        have l2 := m_leftCost w hG hb ⟨h0, ck⟩
        have l3 := m_pairCost w hG ha hb ⟨hi.1, ci⟩ ⟨h0, ck⟩
        rw [cT_nm ci ck]
        have u1 := s_mn_le (s_left F a i + cT F a b (i + 1) k) (s_pair F a i b k + cT F a b (i + 1) (k + 1))
        have u2 : 0 ≤ s_mn (s_left F a i + cT F a b (i + 1) k) (s_pair F a i b k + cT F a b (i + 1) (k + 1)) := s_mn_ge (by omega) (by omega)
        simp (disch := omega) only [iI_add, iI_sub, iI_mul, iI_neg, iI_nat, addm1, ixkI, ↓sbind, sbind, ↓bdS, bdS, ↓nm_eq, ↓jn_eq, iI_lt, iI_le, iI_eq, k_0, k_1, k_2, k_3, k_4, k_5, k_6, k_7, k_8, k_9, k_10, k_11, k_12, k_13, k_14, k_15, k_16, k_17, k_18, k_19, k_20, k_21, k_22, k_23, k_24, k_27, k_30, k_32, k_48, k_57, k_59, k_60, k_61, k_62, k_63, k_64, k_72, k_78, k_80, k_82, k_97, k_99, k_100, k_122, k_244, k_255, k_268, k_280, k_300, k_432, k_650, k_900, k_901, k_999, k_1700, k_2600, k_2601, k_2602, k_2603, k_2604, k_2610, k_2618, k_2682, k_2777, k_2844, k_2868, k_2880, k_3245, k_3250, k_9551, k_9999, k_65536, k_100000, k_999999, k_1000000, k_2147483647, lt_T, lt_F, le_T, le_F, eq_T, eq_F, ↓reduceIte, not_true_eq_false, not_false_eq_true, or_true, or_false, true_or, false_or, and_true, true_and, and_false, false_and, l1, l2, l3, e1, e2, e3, iI_ite, s_mn_ite, Int.add_comm (cT F a b _ _)]
      · rw [cT_n ci ck]
        simp (disch := omega) only [iI_add, iI_sub, iI_mul, iI_neg, iI_nat, addm1, ixkI, ↓sbind, sbind, ↓bdS, bdS, ↓nm_eq, ↓jn_eq, iI_lt, iI_le, iI_eq, k_0, k_1, k_2, k_3, k_4, k_5, k_6, k_7, k_8, k_9, k_10, k_11, k_12, k_13, k_14, k_15, k_16, k_17, k_18, k_19, k_20, k_21, k_22, k_23, k_24, k_27, k_30, k_32, k_48, k_57, k_59, k_60, k_61, k_62, k_63, k_64, k_72, k_78, k_80, k_82, k_97, k_99, k_100, k_122, k_244, k_255, k_268, k_280, k_300, k_432, k_650, k_900, k_901, k_999, k_1700, k_2600, k_2601, k_2602, k_2603, k_2604, k_2610, k_2618, k_2682, k_2777, k_2844, k_2868, k_2880, k_3245, k_3250, k_9551, k_9999, k_65536, k_100000, k_999999, k_1000000, k_2147483647, lt_T, lt_F, le_T, le_F, eq_T, eq_F, ↓reduceIte, not_true_eq_false, not_false_eq_true, or_true, or_false, true_or, false_or, and_true, true_and, and_false, false_and, l1, e1, iI_ite, Int.add_comm (cT F a b _ _)]
        all_goals rfl
    · by_cases ck : k < F 3 b 2
      · have b2 := s_left_bd w hb ⟨h0, ck⟩
        have e2 := hT.at (i' := i) (k' := k + 1) (e := 13 * i + k + 1) (by omega) (by omega)
        have l2 := m_leftCost w hG hb ⟨h0, ck⟩
        rw [cT_m ci ck]
        simp (disch := omega) only [iI_add, iI_sub, iI_mul, iI_neg, iI_nat, addm1, ixkI, ↓sbind, sbind, ↓bdS, bdS, ↓nm_eq, ↓jn_eq, iI_lt, iI_le, iI_eq, k_0, k_1, k_2, k_3, k_4, k_5, k_6, k_7, k_8, k_9, k_10, k_11, k_12, k_13, k_14, k_15, k_16, k_17, k_18, k_19, k_20, k_21, k_22, k_23, k_24, k_27, k_30, k_32, k_48, k_57, k_59, k_60, k_61, k_62, k_63, k_64, k_72, k_78, k_80, k_82, k_97, k_99, k_100, k_122, k_244, k_255, k_268, k_280, k_300, k_432, k_650, k_900, k_901, k_999, k_1700, k_2600, k_2601, k_2602, k_2603, k_2604, k_2610, k_2618, k_2682, k_2777, k_2844, k_2868, k_2880, k_3245, k_3250, k_9551, k_9999, k_65536, k_100000, k_999999, k_1000000, k_2147483647, lt_T, lt_F, le_T, le_F, eq_T, eq_F, ↓reduceIte, not_true_eq_false, not_false_eq_true, or_true, or_false, true_or, false_or, and_true, true_and, and_false, false_and, l2, e2, iI_ite, Int.add_comm (cT F a b _ _)]
        all_goals rfl
      · rw [cT_z ci ck]
        simp (disch := omega) only [iI_add, iI_sub, iI_mul, iI_neg, iI_nat, addm1, ixkI, ↓sbind, sbind, ↓bdS, bdS, ↓nm_eq, ↓jn_eq, iI_lt, iI_le, iI_eq, k_0, k_1, k_2, k_3, k_4, k_5, k_6, k_7, k_8, k_9, k_10, k_11, k_12, k_13, k_14, k_15, k_16, k_17, k_18, k_19, k_20, k_21, k_22, k_23, k_24, k_27, k_30, k_32, k_48, k_57, k_59, k_60, k_61, k_62, k_63, k_64, k_72, k_78, k_80, k_82, k_97, k_99, k_100, k_122, k_244, k_255, k_268, k_280, k_300, k_432, k_650, k_900, k_901, k_999, k_1700, k_2600, k_2601, k_2602, k_2603, k_2604, k_2610, k_2618, k_2682, k_2777, k_2844, k_2868, k_2880, k_3245, k_3250, k_9551, k_9999, k_65536, k_100000, k_999999, k_1000000, k_2147483647, lt_T, lt_F, le_T, le_F, eq_T, eq_F, ↓reduceIte, not_true_eq_false, not_false_eq_true, or_true, or_false, true_or, false_or, and_true, true_and, and_false, false_and]
        all_goals rfl
theorem m_match16 (w : WF F) {a b : Int} (ha : 0 ≤ a ∧ a < F 0 1 0) (hb : 0 ≤ b ∧ b < F 0 1 0) {φ : Nat} (hφ : 100 < φ) (K : Mem → Option (Int32 × Mem)) : ∀ (n : Nat) (i : Int), -1 ≤ i → i + 1 < n → i ≤ F 3 a 2 → ∀ M, MR m 0 F M → TB (m + 9) F a b (i + 1) (-1) M → ∃ M', lX11_matches_16 K φ m (iI a) (iI b) (iI (F 3 a 2)) (iI (F 3 b 2)) n (iI i) M = K M' ∧ Fr (Rg (m + 9) (m + 9)) M M' ∧ TB (m + 9) F a b 0 (-1) M' := by
  have h2 := w.nl ha
  have h3 := w.nl hb
  intro n i hi hn
  refine ldn (P := fun n i => i ≤ F 3 a 2 → ∀ M, MR m 0 F M → TB (m + 9) F a b (i + 1) (-1) M → ∃ M', lX11_matches_16 K φ m (iI a) (iI b) (iI (F 3 a 2)) (iI (F 3 b 2)) n (iI i) M = K M' ∧ Fr (Rg (m + 9) (m + 9)) M M' ∧ TB (m + 9) F a b 0 (-1) M') ?_ ?_ n i hi hn
  · intro n _ M hG hT
    refine ⟨M, ?_, Fr.refl M, hT⟩
    rw [lX11_matches_16_s]
    simp (disch := omega) only [iI_add, iI_sub, iI_mul, iI_neg, iI_nat, addm1, ixkI, ↓sbind, sbind, ↓bdS, bdS, ↓nm_eq, ↓jn_eq, iI_lt, iI_le, iI_eq, k_0, k_1, k_2, k_3, k_4, k_5, k_6, k_7, k_8, k_9, k_10, k_11, k_12, k_13, k_14, k_15, k_16, k_17, k_18, k_19, k_20, k_21, k_22, k_23, k_24, k_27, k_30, k_32, k_48, k_57, k_59, k_60, k_61, k_62, k_63, k_64, k_72, k_78, k_80, k_82, k_97, k_99, k_100, k_122, k_244, k_255, k_268, k_280, k_300, k_432, k_650, k_900, k_901, k_999, k_1700, k_2600, k_2601, k_2602, k_2603, k_2604, k_2610, k_2618, k_2682, k_2777, k_2844, k_2868, k_2880, k_3245, k_3250, k_9551, k_9999, k_65536, k_100000, k_999999, k_1000000, k_2147483647, lt_T, lt_F, le_T, le_F, eq_T, eq_F, ↓reduceIte, not_true_eq_false, not_false_eq_true, or_true, or_false, true_or, false_or, and_true, true_and, and_false, false_and]
  · intro n i h0 ih hm M hG hT
    obtain ⟨M1, e1, f1, T1⟩ := m_match25 w ha hb ⟨h0, hm⟩ (fun M5 => lX11_matches_16 K φ m (iI a) (iI b) (iI (F 3 a 2)) (iI (F 3 b 2)) n (iI (i - 1)) M5) φ (F 3 b 2) (by omega) (by omega) (by omega) M hG (fun i' k' a1 a2 a3 a4 a5 => hT i' k' a1 a2 a3 a4 (by omega))
    obtain ⟨M', e, f, T⟩ := ih (by omega) M1 (hG.fr f1 (fun q => by have := q.1; omega)) (fun i' k' a1 a2 a3 a4 a5 => T1 i' k' a1 a2 a3 a4 (by omega))
    refine ⟨M', ?_, f1.trans f, T⟩
    rw [lX11_matches_16_s, ← e, ← e1]
    simp (disch := omega) only [iI_add, iI_sub, iI_mul, iI_neg, iI_nat, addm1, ixkI, ↓sbind, sbind, ↓bdS, bdS, ↓nm_eq, ↓jn_eq, iI_lt, iI_le, iI_eq, k_0, k_1, k_2, k_3, k_4, k_5, k_6, k_7, k_8, k_9, k_10, k_11, k_12, k_13, k_14, k_15, k_16, k_17, k_18, k_19, k_20, k_21, k_22, k_23, k_24, k_27, k_30, k_32, k_48, k_57, k_59, k_60, k_61, k_62, k_63, k_64, k_72, k_78, k_80, k_82, k_97, k_99, k_100, k_122, k_244, k_255, k_268, k_280, k_300, k_432, k_650, k_900, k_901, k_999, k_1700, k_2600, k_2601, k_2602, k_2603, k_2604, k_2610, k_2618, k_2682, k_2777, k_2844, k_2868, k_2880, k_3245, k_3250, k_9551, k_9999, k_65536, k_100000, k_999999, k_1000000, k_2147483647, lt_T, lt_F, le_T, le_F, eq_T, eq_F, ↓reduceIte, not_true_eq_false, not_false_eq_true, or_true, or_false, true_or, false_or, and_true, true_and, and_false, false_and]
    all_goals rfl
theorem m_match200 (w : WF F) {a b : Int} (K : Mem → Option (Int32 × Mem)) : ∀ (n : Nat) (x : Int), 0 ≤ x → x ≤ 12 → 12 < n + x → ∀ M, (∀ y : Int, 0 ≤ y → y < x → M.1 (m + 10) y.toNat = iI (-1)) → ∃ M', lX11_matches_200 K m (iI a) (iI b) (iI (F 3 a 2)) (iI (F 3 b 2)) n (iI x) M = K M' ∧ Fr (Rg (m + 10) (m + 10)) M M' ∧ ∀ y : Int, 0 ≤ y → y < 12 → M'.1 (m + 10) y.toNat = iI (-1) := by
  intro n x h0 h1 hn
  refine lup (N := 12) (P := fun n x => ∀ M, (∀ y : Int, 0 ≤ y → y < x → M.1 (m + 10) y.toNat = iI (-1)) → ∃ M', lX11_matches_200 K m (iI a) (iI b) (iI (F 3 a 2)) (iI (F 3 b 2)) n (iI x) M = K M' ∧ Fr (Rg (m + 10) (m + 10)) M M' ∧ ∀ y : Int, 0 ≤ y → y < 12 → M'.1 (m + 10) y.toNat = iI (-1)) ?_ ?_ n x h0 h1 hn
  · intro n M hM
    refine ⟨M, ?_, Fr.refl M, hM⟩
    rw [lX11_matches_200_s]
    simp (disch := omega) only [iI_add, iI_sub, iI_mul, iI_neg, iI_nat, addm1, ixkI, ↓sbind, sbind, ↓bdS, bdS, ↓nm_eq, ↓jn_eq, iI_lt, iI_le, iI_eq, k_0, k_1, k_2, k_3, k_4, k_5, k_6, k_7, k_8, k_9, k_10, k_11, k_12, k_13, k_14, k_15, k_16, k_17, k_18, k_19, k_20, k_21, k_22, k_23, k_24, k_27, k_30, k_32, k_48, k_57, k_59, k_60, k_61, k_62, k_63, k_64, k_72, k_78, k_80, k_82, k_97, k_99, k_100, k_122, k_244, k_255, k_268, k_280, k_300, k_432, k_650, k_900, k_901, k_999, k_1700, k_2600, k_2601, k_2602, k_2603, k_2604, k_2610, k_2618, k_2682, k_2777, k_2844, k_2868, k_2880, k_3245, k_3250, k_9551, k_9999, k_65536, k_100000, k_999999, k_1000000, k_2147483647, lt_T, lt_F, le_T, le_F, eq_T, eq_F, ↓reduceIte, not_true_eq_false, not_false_eq_true, or_true, or_false, true_or, false_or, and_true, true_and, and_false, false_and]
  · intro n x x0 x1 ih M hM
    have hF : Fr (Rg (m + 10) (m + 10)) M (stI M (m + 10) x.toNat (iI (-1))) := Fr.stI ⟨by omega, by omega⟩ (Fr.refl M)
    obtain ⟨M', e, f, T⟩ := ih (stI M (m + 10) x.toNat (iI (-1))) (fun y y0 y1 => by
      by_cases hy : y = x
      · rw [hy]; exact rI_eq _ _ _ _
      · rw [rI_nk (by omega)]; exact hM y y0 (by omega))
    refine ⟨M', ?_, hF.trans f, T⟩
    rw [lX11_matches_200_s, ← e]
    simp (disch := omega) only [iI_add, iI_sub, iI_mul, iI_neg, iI_nat, addm1, ixkI, ↓sbind, sbind, ↓bdS, bdS, ↓nm_eq, ↓jn_eq, iI_lt, iI_le, iI_eq, k_0, k_1, k_2, k_3, k_4, k_5, k_6, k_7, k_8, k_9, k_10, k_11, k_12, k_13, k_14, k_15, k_16, k_17, k_18, k_19, k_20, k_21, k_22, k_23, k_24, k_27, k_30, k_32, k_48, k_57, k_59, k_60, k_61, k_62, k_63, k_64, k_72, k_78, k_80, k_82, k_97, k_99, k_100, k_122, k_244, k_255, k_268, k_280, k_300, k_432, k_650, k_900, k_901, k_999, k_1700, k_2600, k_2601, k_2602, k_2603, k_2604, k_2610, k_2618, k_2682, k_2777, k_2844, k_2868, k_2880, k_3245, k_3250, k_9551, k_9999, k_65536, k_100000, k_999999, k_1000000, k_2147483647, lt_T, lt_F, le_T, le_F, eq_T, eq_F, ↓reduceIte, not_true_eq_false, not_false_eq_true, or_true, or_false, true_or, false_or, and_true, true_and, and_false, false_and]
theorem m_trace (w : WF F) {a b : Int} (ha : 0 ≤ a ∧ a < F 0 1 0) (hb : 0 ≤ b ∧ b < F 0 1 0) : ∀ (n : Nat) (i k : Int) (M : Mem), 0 ≤ i → i ≤ F 3 a 2 → 0 ≤ k → k ≤ F 3 b 2 → (F 3 a 2 - i) + (F 3 b 2 - k) < n → MR m 0 F M → TB (m + 9) F a b 0 (-1) M → (∀ x, 0 ≤ x → x < 12 → M.1 (m + 10) x.toNat = iI (if x < i then s_mt F a b x else -1)) → (∀ x, i ≤ x → s_mt F a b x = mt F a b i k x) → ∃ M', lX11_matches_227 m (iI a) (iI b) (iI (F 3 a 2)) (iI (F 3 b 2)) n (iI i) (iI k) M = some (iI (cT F a b 0 0), M') ∧ Fr (Rg (m + 10) (m + 10)) M M' ∧ ∀ x, 0 ≤ x → x < 12 → M'.1 (m + 10) x.toNat = iI (s_mt F a b x) := by
  have h2 := w.nl ha
  have h3 := w.nl hb
  intro n
  induction n with
  | zero => intro i k M a1 a2 a3 a4 hn; omega
  | succ n ih =>
    intro i k M i0 i1 k0 k1 hn hG hT hm hs
    have q0 := cT_bd w ha hb i0 k0
    have e0 := hT.at (i' := i) (k' := k) (e := 13 * i + k) (by omega) (by omega)
    by_cases hi : i < F 3 a 2
    · have b1 := s_left_bd w ha ⟨i0, hi⟩
      have q1 := cT_bd w ha hb (i := i + 1) (k := k) (by omega) (by omega)
      have e1 := hT.at (i' := i + 1) (k' := k) (e := 13 * i + 13 + k) (by omega) (by omega)
      have l1 := m_leftCost w hG ha ⟨i0, hi⟩
      by_cases hP : k < F 3 b 2 ∧ cT F a b i k = s_pair F a i b k + cT F a b (i + 1) (k + 1)
      · have b3 := s_pair_bd w ha hb ⟨i0, hi⟩ ⟨k0, hP.1⟩
        have q3 := cT_bd w ha hb (i := i + 1) (k := k + 1) (by omega) (by omega)
        have e3 := hT.at (i' := i + 1) (k' := k + 1) (e := 13 * i + 13 + k + 1) (by omega) (by omega)
        have l3 := m_pairCost w hG ha hb ⟨i0, hi⟩ ⟨k0, hP.1⟩
        have hmi : s_mt F a b i = k := by rw [hs i (Int.le_refl i), mt_p hi hP, if_pos rfl]
        have hF : Fr (Rg (m + 10) (m + 10)) M (stI M (m + 10) i.toNat (iI k)) := Fr.stI ⟨by omega, by omega⟩ (Fr.refl M)
        obtain ⟨M', e, f, c⟩ := ih (i + 1) (k + 1) _ (by omega) (by omega) (by omega) (by omega) (by omega) (hG.fr hF (fun q => by have := q.1; omega))
          (fun i' k' a1 a2 a3 a4 a5 => by rw [rI_ng (by omega)]; exact hT i' k' a1 a2 a3 a4 a5)
          (fun x x0 x1 => by
            by_cases hx : x = i
            · rw [hx, rI_eq, if_pos (by omega), hmi]
            · rw [rI_nk (by omega), hm x x0 x1]
              by_cases hxi : x < i
              · rw [if_pos hxi, if_pos (by omega)]
              · rw [if_neg hxi, if_neg (by omega)])
          (fun x hx => by rw [hs x (by omega), mt_p hi hP, if_neg (by omega)])
        refine ⟨M', ?_, hF.trans f, c⟩
        rw [lX11_matches_227_s, ← e]
        have n3 : cT F a b i k = cT F a b (i + 1) (k + 1) + s_pair F a i b k := by omega
        simp (disch := omega) only [iI_add, iI_sub, iI_mul, iI_neg, iI_nat, addm1, ixkI, ↓sbind, sbind, ↓bdS, bdS, ↓nm_eq, ↓jn_eq, iI_lt, iI_le, iI_eq, k_0, k_1, k_2, k_3, k_4, k_5, k_6, k_7, k_8, k_9, k_10, k_11, k_12, k_13, k_14, k_15, k_16, k_17, k_18, k_19, k_20, k_21, k_22, k_23, k_24, k_27, k_30, k_32, k_48, k_57, k_59, k_60, k_61, k_62, k_63, k_64, k_72, k_78, k_80, k_82, k_97, k_99, k_100, k_122, k_244, k_255, k_268, k_280, k_300, k_432, k_650, k_900, k_901, k_999, k_1700, k_2600, k_2601, k_2602, k_2603, k_2604, k_2610, k_2618, k_2682, k_2777, k_2844, k_2868, k_2880, k_3245, k_3250, k_9551, k_9999, k_65536, k_100000, k_999999, k_1000000, k_2147483647, lt_T, lt_F, le_T, le_F, eq_T, eq_F, ↓reduceIte, not_true_eq_false, not_false_eq_true, or_true, or_false, true_or, false_or, and_true, true_and, and_false, false_and, l3, e0, e3]
      · by_cases hL : F 3 b 2 ≤ k ∨ cT F a b i k = s_left F a i + cT F a b (i + 1) k
        · have hmi : s_mt F a b i = -1 := by rw [hs i (Int.le_refl i), mt_l hi hP hL, if_pos rfl]
          obtain ⟨M', e, f, c⟩ := ih (i + 1) k M (by omega) (by omega) (by omega) (by omega) (by omega) hG hT
            (fun x x0 x1 => by
              rw [hm x x0 x1]
              by_cases hx : x = i
              · rw [hx, if_neg (by omega), if_pos (by omega), hmi]
              · by_cases hxi : x < i
                · rw [if_pos hxi, if_pos (by omega)]
                · rw [if_neg hxi, if_neg (by omega)])
            (fun x hx => by rw [hs x (by omega), mt_l hi hP hL, if_neg (by omega)])
          refine ⟨M', ?_, f, c⟩
          rw [lX11_matches_227_s, ← e]
          by_cases hk : k < F 3 b 2
          · have b3 := s_pair_bd w ha hb ⟨i0, hi⟩ ⟨k0, hk⟩
            have q3 := cT_bd w ha hb (i := i + 1) (k := k + 1) (by omega) (by omega)
            have e3 := hT.at (i' := i + 1) (k' := k + 1) (e := 13 * i + 13 + k + 1) (by omega) (by omega)
            have l3 := m_pairCost w hG ha hb ⟨i0, hi⟩ ⟨k0, hk⟩
            have n3 : ¬ cT F a b i k = cT F a b (i + 1) (k + 1) + s_pair F a i b k := fun q => hP ⟨hk, by omega⟩
            have n1 : cT F a b i k = cT F a b (i + 1) k + s_left F a i := by omega
            simp (disch := omega) only [iI_add, iI_sub, iI_mul, iI_neg, iI_nat, addm1, ixkI, ↓sbind, sbind, ↓bdS, bdS, ↓nm_eq, ↓jn_eq, iI_lt, iI_le, iI_eq, k_0, k_1, k_2, k_3, k_4, k_5, k_6, k_7, k_8, k_9, k_10, k_11, k_12, k_13, k_14, k_15, k_16, k_17, k_18, k_19, k_20, k_21, k_22, k_23, k_24, k_27, k_30, k_32, k_48, k_57, k_59, k_60, k_61, k_62, k_63, k_64, k_72, k_78, k_80, k_82, k_97, k_99, k_100, k_122, k_244, k_255, k_268, k_280, k_300, k_432, k_650, k_900, k_901, k_999, k_1700, k_2600, k_2601, k_2602, k_2603, k_2604, k_2610, k_2618, k_2682, k_2777, k_2844, k_2868, k_2880, k_3245, k_3250, k_9551, k_9999, k_65536, k_100000, k_999999, k_1000000, k_2147483647, lt_T, lt_F, le_T, le_F, eq_T, eq_F, ↓reduceIte, not_true_eq_false, not_false_eq_true, or_true, or_false, true_or, false_or, and_true, true_and, and_false, false_and, l1, l3, e0, e1, e3]
          · have n1 : cT F a b i k = cT F a b (i + 1) k + s_left F a i := by
              rw [cT_n hi hk, Int.add_comm]
            simp (disch := omega) only [iI_add, iI_sub, iI_mul, iI_neg, iI_nat, addm1, ixkI, ↓sbind, sbind, ↓bdS, bdS, ↓nm_eq, ↓jn_eq, iI_lt, iI_le, iI_eq, k_0, k_1, k_2, k_3, k_4, k_5, k_6, k_7, k_8, k_9, k_10, k_11, k_12, k_13, k_14, k_15, k_16, k_17, k_18, k_19, k_20, k_21, k_22, k_23, k_24, k_27, k_30, k_32, k_48, k_57, k_59, k_60, k_61, k_62, k_63, k_64, k_72, k_78, k_80, k_82, k_97, k_99, k_100, k_122, k_244, k_255, k_268, k_280, k_300, k_432, k_650, k_900, k_901, k_999, k_1700, k_2600, k_2601, k_2602, k_2603, k_2604, k_2610, k_2618, k_2682, k_2777, k_2844, k_2868, k_2880, k_3245, k_3250, k_9551, k_9999, k_65536, k_100000, k_999999, k_1000000, k_2147483647, lt_T, lt_F, le_T, le_F, eq_T, eq_F, ↓reduceIte, not_true_eq_false, not_false_eq_true, or_true, or_false, true_or, false_or, and_true, true_and, and_false, false_and, l1, e0, e1]
        · obtain ⟨M', e, f, c⟩ := ih i (k + 1) M (by omega) (by omega) (by omega) (by omega) (by omega) hG hT hm
            (fun x hx => by rw [hs x (by omega), mt_r hi hP hL])
          refine ⟨M', ?_, f, c⟩
          rw [lX11_matches_227_s, ← e]
          have hk : k < F 3 b 2 := by omega
          have b3 := s_pair_bd w ha hb ⟨i0, hi⟩ ⟨k0, hk⟩
          have q3 := cT_bd w ha hb (i := i + 1) (k := k + 1) (by omega) (by omega)
          have e3 := hT.at (i' := i + 1) (k' := k + 1) (e := 13 * i + 13 + k + 1) (by omega) (by omega)
          have l3 := m_pairCost w hG ha hb ⟨i0, hi⟩ ⟨k0, hk⟩
          have n3 : ¬ cT F a b i k = cT F a b (i + 1) (k + 1) + s_pair F a i b k := fun q => hP ⟨hk, by omega⟩
          have n1 : ¬ cT F a b i k = cT F a b (i + 1) k + s_left F a i := fun q => hL (Or.inr (by omega))
          simp (disch := omega) only [iI_add, iI_sub, iI_mul, iI_neg, iI_nat, addm1, ixkI, ↓sbind, sbind, ↓bdS, bdS, ↓nm_eq, ↓jn_eq, iI_lt, iI_le, iI_eq, k_0, k_1, k_2, k_3, k_4, k_5, k_6, k_7, k_8, k_9, k_10, k_11, k_12, k_13, k_14, k_15, k_16, k_17, k_18, k_19, k_20, k_21, k_22, k_23, k_24, k_27, k_30, k_32, k_48, k_57, k_59, k_60, k_61, k_62, k_63, k_64, k_72, k_78, k_80, k_82, k_97, k_99, k_100, k_122, k_244, k_255, k_268, k_280, k_300, k_432, k_650, k_900, k_901, k_999, k_1700, k_2600, k_2601, k_2602, k_2603, k_2604, k_2610, k_2618, k_2682, k_2777, k_2844, k_2868, k_2880, k_3245, k_3250, k_9551, k_9999, k_65536, k_100000, k_999999, k_1000000, k_2147483647, lt_T, lt_F, le_T, le_F, eq_T, eq_F, ↓reduceIte, not_true_eq_false, not_false_eq_true, or_true, or_false, true_or, false_or, and_true, true_and, and_false, false_and, l1, l3, e0, e1, e3]
    · obtain rfl : i = F 3 a 2 := by omega
      by_cases hk : k < F 3 b 2
      · obtain ⟨M', e, f, c⟩ := ih (F 3 a 2) (k + 1) M (by omega) (by omega) (by omega) (by omega) (by omega) hG hT hm
          (fun x hx => by rw [s_mt_out F a b hx, mt_out hx])
        refine ⟨M', ?_, f, c⟩
        rw [lX11_matches_227_s, ← e]
        simp (disch := omega) only [iI_add, iI_sub, iI_mul, iI_neg, iI_nat, addm1, ixkI, ↓sbind, sbind, ↓bdS, bdS, ↓nm_eq, ↓jn_eq, iI_lt, iI_le, iI_eq, k_0, k_1, k_2, k_3, k_4, k_5, k_6, k_7, k_8, k_9, k_10, k_11, k_12, k_13, k_14, k_15, k_16, k_17, k_18, k_19, k_20, k_21, k_22, k_23, k_24, k_27, k_30, k_32, k_48, k_57, k_59, k_60, k_61, k_62, k_63, k_64, k_72, k_78, k_80, k_82, k_97, k_99, k_100, k_122, k_244, k_255, k_268, k_280, k_300, k_432, k_650, k_900, k_901, k_999, k_1700, k_2600, k_2601, k_2602, k_2603, k_2604, k_2610, k_2618, k_2682, k_2777, k_2844, k_2868, k_2880, k_3245, k_3250, k_9551, k_9999, k_65536, k_100000, k_999999, k_1000000, k_2147483647, lt_T, lt_F, le_T, le_F, eq_T, eq_F, ↓reduceIte, not_true_eq_false, not_false_eq_true, or_true, or_false, true_or, false_or, and_true, true_and, and_false, false_and, e0]
      · have e2 := hT.at (i' := 0) (k' := 0) (e := 0) (by omega) (by omega)
        refine ⟨M, ?_, Fr.refl M, fun x x0 x1 => ?_⟩
        · rw [lX11_matches_227_s]
          simp (disch := omega) only [iI_add, iI_sub, iI_mul, iI_neg, iI_nat, addm1, ixkI, ↓sbind, sbind, ↓bdS, bdS, ↓nm_eq, ↓jn_eq, iI_lt, iI_le, iI_eq, k_0, k_1, k_2, k_3, k_4, k_5, k_6, k_7, k_8, k_9, k_10, k_11, k_12, k_13, k_14, k_15, k_16, k_17, k_18, k_19, k_20, k_21, k_22, k_23, k_24, k_27, k_30, k_32, k_48, k_57, k_59, k_60, k_61, k_62, k_63, k_64, k_72, k_78, k_80, k_82, k_97, k_99, k_100, k_122, k_244, k_255, k_268, k_280, k_300, k_432, k_650, k_900, k_901, k_999, k_1700, k_2600, k_2601, k_2602, k_2603, k_2604, k_2610, k_2618, k_2682, k_2777, k_2844, k_2868, k_2880, k_3245, k_3250, k_9551, k_9999, k_65536, k_100000, k_999999, k_1000000, k_2147483647, lt_T, lt_F, le_T, le_F, eq_T, eq_F, ↓reduceIte, not_true_eq_false, not_false_eq_true, or_true, or_false, true_or, false_or, and_true, true_and, and_false, false_and, e2]
        · rw [hm x x0 x1]
          by_cases hx : x < F 3 a 2
          · rw [if_pos hx]
          · rw [if_neg hx, s_mt_out F a b (by omega)]
theorem m_matches (w : WF F) {a b : Int} (ha : 0 ≤ a ∧ a < F 0 1 0) (hb : 0 ≤ b ∧ b < F 0 1 0) {φ : Nat} (hφ : 100 < φ) (G : MR m 0 F M) : ∃ M', fX11_matches φ m (iI a) (iI b) M = some (iI (cT F a b 0 0), M') ∧ Fr (Rg (m + 9) (m + 10)) M M' ∧ ∀ x, 0 ≤ x → x < 12 → M'.1 (m + 10) x.toNat = iI (s_mt F a b x) := by
  have h1 := w.n1
  have h2 := w.nl ha
  have h3 := w.nl hb
  obtain ⟨M1, e1, f1, T1⟩ := m_match16 w ha hb hφ (fun M20 => lX11_matches_200 (fun M22 => lX11_matches_227 m (iI a) (iI b) (iI (F 3 a 2)) (iI (F 3 b 2)) φ (iI 0) (iI 0) M22) m (iI a) (iI b) (iI (F 3 a 2)) (iI (F 3 b 2)) φ (iI 0) M20) φ (F 3 a 2) (by omega) (by omega) (by omega) M G (fun i' k' a1 a2 a3 a4 a5 => by omega)
  have G1 := G.fr f1 (fun q => by have := q.1; omega)
  obtain ⟨M2, e2, f2, T2⟩ := m_match200 (m := m) (a := a) (b := b) w (fun M22 => lX11_matches_227 m (iI a) (iI b) (iI (F 3 a 2)) (iI (F 3 b 2)) φ (iI 0) (iI 0) M22) φ 0 (by omega) (by omega) (by omega) M1 (fun y y0 y1 => by omega)
  obtain ⟨M3, e3, f3, T3⟩ := m_trace w ha hb φ 0 0 M2 (by omega) (by omega) (by omega) (by omega) (by omega) (G1.fr f2 (fun q => by have := q.1; omega)) (fun i' k' a1 a2 a3 a4 a5 => by rw [(f2 (m + 9) (fun q => by have := q.1; omega)).1]; exact T1 i' k' a1 a2 a3 a4 (by omega)) (fun x x0 x1 => by rw [T2 x x0 x1, if_neg (by omega)]) (fun x _ => rfl)
  refine ⟨M3, ?_, (f1.mono (fun x q => ⟨q.1, by have := q.2; omega⟩)).trans ((f2.mono (fun x q => ⟨by have := q.1; omega, q.2⟩)).trans (f3.mono (fun x q => ⟨by have := q.1; omega, q.2⟩))), T3⟩
  rw [← e3, ← e2, ← e1]
  unfold fX11_matches
  rw [m_layersOf G (by omega), m_layersOf G (by omega)]
  simp only [sbind, k_0]
end MM
