/-! the class works a match out -/
def TB (g : Nat) (F : Fld) (a b : Int) (i k : Int) (M : Mem) : Prop := ∀ i' k', 0 ≤ i' → i' ≤ F 3 a 2 → 0 ≤ k' → k' ≤ F 3 b 2 → (i < i' ∨ (i' = i ∧ k < k')) → M.1 g (i' * 13 + k').toNat = iI (cT F a b i' k')
theorem TB.at {g : Nat} {F : Fld} {a b i k : Int} {M : Mem} (hT : TB g F a b i k M) {i' k' e : Int} (h : (0 ≤ i' ∧ i' ≤ F 3 a 2) ∧ (0 ≤ k' ∧ k' ≤ F 3 b 2) ∧ (i < i' ∨ (i' = i ∧ k < k'))) (he : e = i' * 13 + k') : M.1 g e.toNat = iI (cT F a b i' k') := by
  rw [he]
  exact hT i' k' h.1.1 h.1.2 h.2.1.1 h.2.1.2 h.2.2
theorem TB.put {g : Nat} {F : Fld} {a b i k : Int} {M : Mem} (hn : F 3 b 2 ≤ 12) (h0 : 0 ≤ i ∧ 0 ≤ k ∧ k ≤ 12) (hT : TB g F a b i k M) {e : Int} (he : e = i * 13 + k) : TB g F a b i (k - 1) (stI M g e.toNat (iI (cT F a b i k))) := by
  intro i' k' h1 h2 h3 h4 h5
  by_cases hc : i' = i ∧ k' = k
  · rw [hc.1, hc.2, ← he]
    exact rI_eq _ _ _ _
  · rw [rI_nk (by omega)]
    exact hT i' k' h1 h2 h3 h4 (by omega)
section CM
variable {g t : Nat} {F : Fld} {M : Mem}
theorem c_leftOutCost (w : WF F) (G : GR g F M) {h l : Int} (hh : 0 ≤ h ∧ h < F 0 1 0) (hl : 0 ≤ l ∧ l < F 3 h 2) : fX5_leftOutCost g (iI (h * 12 + l)) M = some (iI (s_left F h l)) := by
  have h0 := w.n0
  have h1 := w.n1
  have h2 := w.nl hh
  have h3 := w.rk hh hl
  unfold fX5_leftOutCost s_left
  simp (disch := omega) only [iI_add, iI_sub, iI_mul, iI_neg, iI_nat, addm1, ixkI, ↓sbind, sbind, ↓bdS, bdS, ↓nm_eq, ↓jn_eq, iI_lt, iI_le, iI_eq, k_0, k_1, k_2, k_3, k_4, k_5, k_6, k_7, k_8, k_9, k_10, k_11, k_12, k_13, k_14, k_15, k_16, k_17, k_18, k_19, k_20, k_21, k_22, k_23, k_24, k_27, k_30, k_32, k_48, k_57, k_59, k_60, k_61, k_62, k_63, k_64, k_72, k_78, k_80, k_82, k_97, k_99, k_100, k_122, k_244, k_255, k_268, k_280, k_300, k_432, k_650, k_900, k_901, k_999, k_1700, k_2600, k_2601, k_2602, k_2603, k_2604, k_2610, k_2618, k_2682, k_2777, k_2844, k_2868, k_2880, k_3245, k_3250, k_9551, k_9999, k_65536, k_100000, k_999999, k_1000000, k_2147483647, G.rk, G.th, G.sk]
theorem c_pairCost (w : WF F) (G : GR g F M) {a b i k : Int} (ha : 0 ≤ a ∧ a < F 0 1 0) (hb : 0 ≤ b ∧ b < F 0 1 0) (hi : 0 ≤ i ∧ i < F 3 a 2) (hk : 0 ≤ k ∧ k < F 3 b 2) : fX5_pairCost g (iI (a * 12 + i)) (iI (b * 12 + k)) M = some (iI (s_pair F a i b k)) := by
  have h0 := w.n0
  have h1 := w.n1
  have h2 := w.nl ha
  have h3 := w.nl hb
  have r1 := w.rk ha hi
  have r2 := w.rk hb hk
  have t1 := w.th ha hi
  have t2 := w.th hb hk
  unfold fX5_pairCost s_pair
  simp (disch := omega) only [iI_add, iI_sub, iI_mul, iI_neg, iI_nat, addm1, ixkI, ↓sbind, sbind, ↓bdS, bdS, ↓nm_eq, ↓jn_eq, iI_lt, iI_le, iI_eq, k_0, k_1, k_2, k_3, k_4, k_5, k_6, k_7, k_8, k_9, k_10, k_11, k_12, k_13, k_14, k_15, k_16, k_17, k_18, k_19, k_20, k_21, k_22, k_23, k_24, k_27, k_30, k_32, k_48, k_57, k_59, k_60, k_61, k_62, k_63, k_64, k_72, k_78, k_80, k_82, k_97, k_99, k_100, k_122, k_244, k_255, k_268, k_280, k_300, k_432, k_650, k_900, k_901, k_999, k_1700, k_2600, k_2601, k_2602, k_2603, k_2604, k_2610, k_2618, k_2682, k_2777, k_2844, k_2868, k_2880, k_3245, k_3250, k_9551, k_9999, k_65536, k_100000, k_999999, k_1000000, k_2147483647, G.rk, G.th, c_costOfTwo w G, iI_ite]
  rw [s_un_eq w r1]
  all_goals rfl
set_option maxRecDepth 20000 in
theorem c_leastFrom (w : WF F) (G : GR g F M) {a b i k : Int} (ha : 0 ≤ a ∧ a < F 0 1 0) (hb : 0 ≤ b ∧ b < F 0 1 0) (hi : 0 ≤ i ∧ i ≤ F 3 a 2) (hk : 0 ≤ k ∧ k ≤ F 3 b 2) (hT : TB (t + 1) F a b i k M) : fX5_leastFrom t g (iI a) (iI i) (iI b) (iI k) M = some (iI (cT F a b i k)) := by
  have h1 := w.n1
  have h2 := w.nl ha
  have h3 := w.nl hb
  have q1 := cT_bd w ha hb (i := i + 1) (k := k) (by omega) (by omega)
  have q2 := cT_bd w ha hb (i := i) (k := k + 1) (by omega) (by omega)
  have q3 := cT_bd w ha hb (i := i + 1) (k := k + 1) (by omega) (by omega)
  unfold fX5_leastFrom
  by_cases ci : i < F 3 a 2
  · have b1 := s_left_bd w ha ⟨hi.1, ci⟩
    have e1 := hT.at (i' := i + 1) (k' := k) (e := i * 13 + k + 13) (by omega) (by omega)
    have l1 := c_leftOutCost w G ha ⟨hi.1, ci⟩
    by_cases ck : k < F 3 b 2
    · have b2 := s_left_bd w hb ⟨hk.1, ck⟩
      have b3 := s_pair_bd w ha hb ⟨hi.1, ci⟩ ⟨hk.1, ck⟩
      have e2 := hT.at (i' := i) (k' := k + 1) (e := i * 13 + k + 1) (by omega) (by omega)
      have e3 := hT.at (i' := i + 1) (k' := k + 1) (e := i * 13 + k + 13 + 1) (by omega) (by omega)
      have l2 := c_leftOutCost w G hb ⟨hk.1, ck⟩
      have l3 := c_pairCost w G ha hb ⟨hi.1, ci⟩ ⟨hk.1, ck⟩
      rw [cT_nm ci ck]
      have u1 := s_mn_le (s_left F a i + cT F a b (i + 1) k) (s_pair F a i b k + cT F a b (i + 1) (k + 1))
      have u2 : 0 ≤ s_mn (s_left F a i + cT F a b (i + 1) k) (s_pair F a i b k + cT F a b (i + 1) (k + 1)) := s_mn_ge (by omega) (by omega)
      simp (disch := omega) only [iI_add, iI_sub, iI_mul, iI_neg, iI_nat, addm1, ixkI, ↓sbind, sbind, ↓bdS, bdS, ↓nm_eq, ↓jn_eq, iI_lt, iI_le, iI_eq, k_0, k_1, k_2, k_3, k_4, k_5, k_6, k_7, k_8, k_9, k_10, k_11, k_12, k_13, k_14, k_15, k_16, k_17, k_18, k_19, k_20, k_21, k_22, k_23, k_24, k_27, k_30, k_32, k_48, k_57, k_59, k_60, k_61, k_62, k_63, k_64, k_72, k_78, k_80, k_82, k_97, k_99, k_100, k_122, k_244, k_255, k_268, k_280, k_300, k_432, k_650, k_900, k_901, k_999, k_1700, k_2600, k_2601, k_2602, k_2603, k_2604, k_2610, k_2618, k_2682, k_2777, k_2844, k_2868, k_2880, k_3245, k_3250, k_9551, k_9999, k_65536, k_100000, k_999999, k_1000000, k_2147483647, lt_T, lt_F, le_T, le_F, eq_T, eq_F, ↓reduceIte, not_true_eq_false, not_false_eq_true, or_true, or_false, true_or, false_or, and_true, true_and, and_false, false_and, G.nl, c_slot, l1, l2, l3, e1, e2, e3, iI_ite, s_mn_ite]
    · rw [cT_n ci ck]
      simp (disch := omega) only [iI_add, iI_sub, iI_mul, iI_neg, iI_nat, addm1, ixkI, ↓sbind, sbind, ↓bdS, bdS, ↓nm_eq, ↓jn_eq, iI_lt, iI_le, iI_eq, k_0, k_1, k_2, k_3, k_4, k_5, k_6, k_7, k_8, k_9, k_10, k_11, k_12, k_13, k_14, k_15, k_16, k_17, k_18, k_19, k_20, k_21, k_22, k_23, k_24, k_27, k_30, k_32, k_48, k_57, k_59, k_60, k_61, k_62, k_63, k_64, k_72, k_78, k_80, k_82, k_97, k_99, k_100, k_122, k_244, k_255, k_268, k_280, k_300, k_432, k_650, k_900, k_901, k_999, k_1700, k_2600, k_2601, k_2602, k_2603, k_2604, k_2610, k_2618, k_2682, k_2777, k_2844, k_2868, k_2880, k_3245, k_3250, k_9551, k_9999, k_65536, k_100000, k_999999, k_1000000, k_2147483647, lt_T, lt_F, le_T, le_F, eq_T, eq_F, ↓reduceIte, not_true_eq_false, not_false_eq_true, or_true, or_false, true_or, false_or, and_true, true_and, and_false, false_and, G.nl, c_slot, l1, e1, iI_ite]
  · by_cases ck : k < F 3 b 2
    · have b2 := s_left_bd w hb ⟨hk.1, ck⟩
      have e2 := hT.at (i' := i) (k' := k + 1) (e := i * 13 + k + 1) (by omega) (by omega)
      have l2 := c_leftOutCost w G hb ⟨hk.1, ck⟩
      rw [cT_m ci ck]
      simp (disch := omega) only [iI_add, iI_sub, iI_mul, iI_neg, iI_nat, addm1, ixkI, ↓sbind, sbind, ↓bdS, bdS, ↓nm_eq, ↓jn_eq, iI_lt, iI_le, iI_eq, k_0, k_1, k_2, k_3, k_4, k_5, k_6, k_7, k_8, k_9, k_10, k_11, k_12, k_13, k_14, k_15, k_16, k_17, k_18, k_19, k_20, k_21, k_22, k_23, k_24, k_27, k_30, k_32, k_48, k_57, k_59, k_60, k_61, k_62, k_63, k_64, k_72, k_78, k_80, k_82, k_97, k_99, k_100, k_122, k_244, k_255, k_268, k_280, k_300, k_432, k_650, k_900, k_901, k_999, k_1700, k_2600, k_2601, k_2602, k_2603, k_2604, k_2610, k_2618, k_2682, k_2777, k_2844, k_2868, k_2880, k_3245, k_3250, k_9551, k_9999, k_65536, k_100000, k_999999, k_1000000, k_2147483647, lt_T, lt_F, le_T, le_F, eq_T, eq_F, ↓reduceIte, not_true_eq_false, not_false_eq_true, or_true, or_false, true_or, false_or, and_true, true_and, and_false, false_and, G.nl, c_slot, l2, e2, iI_ite]
    · rw [cT_z ci ck]
      simp (disch := omega) only [iI_add, iI_sub, iI_mul, iI_neg, iI_nat, addm1, ixkI, ↓sbind, sbind, ↓bdS, bdS, ↓nm_eq, ↓jn_eq, iI_lt, iI_le, iI_eq, k_0, k_1, k_2, k_3, k_4, k_5, k_6, k_7, k_8, k_9, k_10, k_11, k_12, k_13, k_14, k_15, k_16, k_17, k_18, k_19, k_20, k_21, k_22, k_23, k_24, k_27, k_30, k_32, k_48, k_57, k_59, k_60, k_61, k_62, k_63, k_64, k_72, k_78, k_80, k_82, k_97, k_99, k_100, k_122, k_244, k_255, k_268, k_280, k_300, k_432, k_650, k_900, k_901, k_999, k_1700, k_2600, k_2601, k_2602, k_2603, k_2604, k_2610, k_2618, k_2682, k_2777, k_2844, k_2868, k_2880, k_3245, k_3250, k_9551, k_9999, k_65536, k_100000, k_999999, k_1000000, k_2147483647, lt_T, lt_F, le_T, le_F, eq_T, eq_F, ↓reduceIte, not_true_eq_false, not_false_eq_true, or_true, or_false, true_or, false_or, and_true, true_and, and_false, false_and, G.nl, c_slot]
theorem c_work21 (w : WF F) (hd : t + 3 ≤ g ∨ g + 13 < t) {a b i : Int} (ha : 0 ≤ a ∧ a < F 0 1 0) (hb : 0 ≤ b ∧ b < F 0 1 0) (hi : 0 ≤ i ∧ i ≤ F 3 a 2) (K : Mem → Option (Int32 × Mem)) : ∀ (n : Nat) (k : Int), -1 ≤ k → k + 1 < n → k ≤ F 3 b 2 → ∀ M, GR g F M → TB (t + 1) F a b i k M → ∃ M', lX5_workOut_21 K t g (iI a) (iI b) (iI i) n (iI k) M = K M' ∧ Fr (Rg (t + 1) (t + 1)) M M' ∧ TB (t + 1) F a b i (-1) M' := by
  have h2 := w.nl ha
  have h3 := w.nl hb
  intro n k hk hn
  refine ldn (P := fun n k => k ≤ F 3 b 2 → ∀ M, GR g F M → TB (t + 1) F a b i k M → ∃ M', lX5_workOut_21 K t g (iI a) (iI b) (iI i) n (iI k) M = K M' ∧ Fr (Rg (t + 1) (t + 1)) M M' ∧ TB (t + 1) F a b i (-1) M') ?_ ?_ n k hk hn
  · intro n _ M hG hT
    refine ⟨M, ?_, Fr.refl M, hT⟩
    rw [lX5_workOut_21_s]
    simp (disch := omega) only [iI_add, iI_sub, iI_mul, iI_neg, iI_nat, addm1, ixkI, ↓sbind, sbind, ↓bdS, bdS, ↓nm_eq, ↓jn_eq, iI_lt, iI_le, iI_eq, k_0, k_1, k_2, k_3, k_4, k_5, k_6, k_7, k_8, k_9, k_10, k_11, k_12, k_13, k_14, k_15, k_16, k_17, k_18, k_19, k_20, k_21, k_22, k_23, k_24, k_27, k_30, k_32, k_48, k_57, k_59, k_60, k_61, k_62, k_63, k_64, k_72, k_78, k_80, k_82, k_97, k_99, k_100, k_122, k_244, k_255, k_268, k_280, k_300, k_432, k_650, k_900, k_901, k_999, k_1700, k_2600, k_2601, k_2602, k_2603, k_2604, k_2610, k_2618, k_2682, k_2777, k_2844, k_2868, k_2880, k_3245, k_3250, k_9551, k_9999, k_65536, k_100000, k_999999, k_1000000, k_2147483647, lt_T, lt_F, le_T, le_F, eq_T, eq_F, ↓reduceIte, not_true_eq_false, not_false_eq_true, or_true, or_false, true_or, false_or, and_true, true_and, and_false, false_and]
  · intro n k h0 ih hm M hG hT
    have hF : Fr (Rg (t + 1) (t + 1)) M (stI M (t + 1) (i * 13 + k).toNat (iI (cT F a b i k))) := Fr.stI ⟨by omega, by omega⟩ (Fr.refl M)
    obtain ⟨M', e, f, T⟩ := ih (by omega) _ (hG.fr hF (fun x a b q => by have := q.1; have := q.2; omega)) (hT.put h3.2 (by omega) rfl)
    refine ⟨M', ?_, hF.trans f, T⟩
    rw [lX5_workOut_21_s, c_leastFrom w hG ha hb hi ⟨h0, hm⟩ hT]
    simp (disch := omega) only [iI_add, iI_sub, iI_mul, iI_neg, iI_nat, addm1, ixkI, ↓sbind, sbind, ↓bdS, bdS, ↓nm_eq, ↓jn_eq, iI_lt, iI_le, iI_eq, k_0, k_1, k_2, k_3, k_4, k_5, k_6, k_7, k_8, k_9, k_10, k_11, k_12, k_13, k_14, k_15, k_16, k_17, k_18, k_19, k_20, k_21, k_22, k_23, k_24, k_27, k_30, k_32, k_48, k_57, k_59, k_60, k_61, k_62, k_63, k_64, k_72, k_78, k_80, k_82, k_97, k_99, k_100, k_122, k_244, k_255, k_268, k_280, k_300, k_432, k_650, k_900, k_901, k_999, k_1700, k_2600, k_2601, k_2602, k_2603, k_2604, k_2610, k_2618, k_2682, k_2777, k_2844, k_2868, k_2880, k_3245, k_3250, k_9551, k_9999, k_65536, k_100000, k_999999, k_1000000, k_2147483647, lt_T, lt_F, le_T, le_F, eq_T, eq_F, ↓reduceIte, not_true_eq_false, not_false_eq_true, or_true, or_false, true_or, false_or, and_true, true_and, and_false, false_and]
    exact e
theorem c_work8 (w : WF F) (hd : t + 3 ≤ g ∨ g + 13 < t) {a b : Int} (ha : 0 ≤ a ∧ a < F 0 1 0) (hb : 0 ≤ b ∧ b < F 0 1 0) {φ : Nat} (hφ : 100 < φ) (K : Mem → Option (Int32 × Mem)) : ∀ (n : Nat) (i : Int), -1 ≤ i → i + 1 < n → i ≤ F 3 a 2 → ∀ M, GR g F M → TB (t + 1) F a b (i + 1) (-1) M → ∃ M', lX5_workOut_8 K φ t g (iI a) (iI b) n (iI i) M = K M' ∧ Fr (Rg (t + 1) (t + 1)) M M' ∧ TB (t + 1) F a b 0 (-1) M' := by
  have h1 := w.n1
  have h2 := w.nl ha
  have h3 := w.nl hb
  intro n i hi hn
  refine ldn (P := fun n i => i ≤ F 3 a 2 → ∀ M, GR g F M → TB (t + 1) F a b (i + 1) (-1) M → ∃ M', lX5_workOut_8 K φ t g (iI a) (iI b) n (iI i) M = K M' ∧ Fr (Rg (t + 1) (t + 1)) M M' ∧ TB (t + 1) F a b 0 (-1) M') ?_ ?_ n i hi hn
  · intro n _ M hG hT
    refine ⟨M, ?_, Fr.refl M, hT⟩
    rw [lX5_workOut_8_s]
    simp (disch := omega) only [iI_add, iI_sub, iI_mul, iI_neg, iI_nat, addm1, ixkI, ↓sbind, sbind, ↓bdS, bdS, ↓nm_eq, ↓jn_eq, iI_lt, iI_le, iI_eq, k_0, k_1, k_2, k_3, k_4, k_5, k_6, k_7, k_8, k_9, k_10, k_11, k_12, k_13, k_14, k_15, k_16, k_17, k_18, k_19, k_20, k_21, k_22, k_23, k_24, k_27, k_30, k_32, k_48, k_57, k_59, k_60, k_61, k_62, k_63, k_64, k_72, k_78, k_80, k_82, k_97, k_99, k_100, k_122, k_244, k_255, k_268, k_280, k_300, k_432, k_650, k_900, k_901, k_999, k_1700, k_2600, k_2601, k_2602, k_2603, k_2604, k_2610, k_2618, k_2682, k_2777, k_2844, k_2868, k_2880, k_3245, k_3250, k_9551, k_9999, k_65536, k_100000, k_999999, k_1000000, k_2147483647, lt_T, lt_F, le_T, le_F, eq_T, eq_F, ↓reduceIte, not_true_eq_false, not_false_eq_true, or_true, or_false, true_or, false_or, and_true, true_and, and_false, false_and]
  · intro n i h0 ih hm M hG hT
    obtain ⟨M1, e1, f1, T1⟩ := c_work21 w hd ha hb ⟨h0, hm⟩ (fun M5 => lX5_workOut_8 K φ t g (iI a) (iI b) n (iI (i - 1)) M5) φ (F 3 b 2) (by omega) (by omega) (by omega) M hG (fun i' k' a1 a2 a3 a4 a5 => hT i' k' a1 a2 a3 a4 (by omega))
    obtain ⟨M', e, f, T⟩ := ih (by omega) M1 (hG.fr f1 (fun x a b q => by have := q.1; have := q.2; omega)) (fun i' k' a1 a2 a3 a4 a5 => T1 i' k' a1 a2 a3 a4 (by omega))
    refine ⟨M', ?_, f1.trans f, T⟩
    rw [lX5_workOut_8_s]
    simp (disch := omega) only [iI_add, iI_sub, iI_mul, iI_neg, iI_nat, addm1, ixkI, ↓sbind, sbind, ↓bdS, bdS, ↓nm_eq, ↓jn_eq, iI_lt, iI_le, iI_eq, k_0, k_1, k_2, k_3, k_4, k_5, k_6, k_7, k_8, k_9, k_10, k_11, k_12, k_13, k_14, k_15, k_16, k_17, k_18, k_19, k_20, k_21, k_22, k_23, k_24, k_27, k_30, k_32, k_48, k_57, k_59, k_60, k_61, k_62, k_63, k_64, k_72, k_78, k_80, k_82, k_97, k_99, k_100, k_122, k_244, k_255, k_268, k_280, k_300, k_432, k_650, k_900, k_901, k_999, k_1700, k_2600, k_2601, k_2602, k_2603, k_2604, k_2610, k_2618, k_2682, k_2777, k_2844, k_2868, k_2880, k_3245, k_3250, k_9551, k_9999, k_65536, k_100000, k_999999, k_1000000, k_2147483647, lt_T, lt_F, le_T, le_F, eq_T, eq_F, ↓reduceIte, not_true_eq_false, not_false_eq_true, or_true, or_false, true_or, false_or, and_true, true_and, and_false, false_and, hG.nl]
    rw [← e, ← e1]
    all_goals rfl
/-- the trace -/
theorem c_trace (w : WF F) (hd : t + 3 ≤ g ∨ g + 13 < t) {a b : Int} (ha : 0 ≤ a ∧ a < F 0 1 0) (hb : 0 ≤ b ∧ b < F 0 1 0) : ∀ (n : Nat) (i k u : Int) (M : Mem), 0 ≤ i → i ≤ F 3 a 2 → 0 ≤ k → k ≤ F 3 b 2 → 0 ≤ u → u ≤ i + k → (F 3 a 2 - i) + (F 3 b 2 - k) < n → GR g F M → TB (t + 1) F a b 0 (-1) M → M.1 t 2 = iI (F 3 a 2) → M.1 t 3 = iI (sm (fun x => if s_mt F a b x = -1 then 0 else 1) i) → (∀ x, 0 ≤ x → x < i → M.1 (t + 2) x.toNat = iI (s_mt F a b x)) → (∀ x, i ≤ x → s_mt F a b x = mt F a b i k x) → ∃ M', lX5_trace_24 t g (iI a) (iI b) n (iI i) (iI k) (iI u) M = some ((), M') ∧ Fr (Rg t (t + 2)) M M' ∧ M'.1 (t + 1) = M.1 (t + 1) ∧ M'.1 t 2 = iI (F 3 a 2) ∧ M'.1 t 3 = iI (s_pn F a b) ∧ ∀ x, 0 ≤ x → x < F 3 a 2 → M'.1 (t + 2) x.toNat = iI (s_mt F a b x) := by
  have h1 := w.n1
  have h2 := w.nl ha
  have h3 := w.nl hb
  intro n
  induction n with
  | zero => intro i k u M a1 a2 a3 a4 a5 a6 hn; omega
  | succ n ih =>
    intro i k u M i0 i1 k0 k1 u0 u1 hn hG hT hc hp hm hs
    have q0 := cT_bd w ha hb i0 k0
    have e0 := hT.at (i' := i) (k' := k) (e := i * 13 + k) (by omega) (by omega)
    by_cases hi : i < F 3 a 2
    · have b1 := s_left_bd w ha ⟨i0, hi⟩
      have q1 := cT_bd w ha hb (i := i + 1) (k := k) (by omega) (by omega)
      have e1 := hT.at (i' := i + 1) (k' := k) (e := i * 13 + k + 13) (by omega) (by omega)
      have l1 := c_leftOutCost w hG ha ⟨i0, hi⟩
      have sB := sm_bd (f := fun x => if s_mt F a b x = -1 then 0 else 1) (N := 12) (B := 1) (fun x _ _ => by by_cases hx : s_mt F a b x = -1 <;> simp [hx]) i i0 (by omega)
      by_cases hP : k < F 3 b 2 ∧ cT F a b i k = s_pair F a i b k + cT F a b (i + 1) (k + 1)
      · have b3 := s_pair_bd w ha hb ⟨i0, hi⟩ ⟨k0, hP.1⟩
        have q3 := cT_bd w ha hb (i := i + 1) (k := k + 1) (by omega) (by omega)
        have e3 := hT.at (i' := i + 1) (k' := k + 1) (e := i * 13 + k + 13 + 1) (by omega) (by omega)
        have l3 := c_pairCost w hG ha hb ⟨i0, hi⟩ ⟨k0, hP.1⟩
        have hmi : s_mt F a b i = k := by rw [hs i (Int.le_refl i), mt_p hi hP, if_pos rfl]
        have hF : Fr (Rg t (t + 2)) M (stI (stI M (t + 2) i.toNat (iI k)) t 3 (iI (sm (fun x => if s_mt F a b x = -1 then 0 else 1) (i + 1)))) := Fr.stI ⟨by omega, by omega⟩ (Fr.stI ⟨by omega, by omega⟩ (Fr.refl M))
        obtain ⟨M', e, f, c1, c2, c3, c4⟩ := ih (i + 1) (k + 1) (u + 1) _ (by omega) (by omega) (by omega) (by omega) (by omega) (by omega) (by omega) (hG.fr hF (fun x a b q => by have := q.1; have := q.2; omega))
          (fun i' k' a1 a2 a3 a4 a5 => by rw [rI_ng (by omega), rI_ng (by omega)]; exact hT i' k' a1 a2 a3 a4 a5)
          (by rw [rI_nk (by omega), rI_ng (by omega)]; exact hc) (rI_eq _ _ _ _)
          (fun x x0 x1 => by
            rw [rI_ng (by omega)]
            by_cases hx : x = i
            · rw [hx, rI_eq, hmi]
            · rw [rI_nk (by omega)]; exact hm x x0 (by omega))
          (fun x hx => by rw [hs x (by omega), mt_p hi hP, if_neg (by omega)])
        refine ⟨M', ?_, hF.trans f, ?_, c2, c3, c4⟩
        · rw [lX5_trace_24_s]
          simp (disch := omega) only [iI_add, iI_sub, iI_mul, iI_neg, iI_nat, addm1, ixkI, ↓sbind, sbind, ↓bdS, bdS, ↓nm_eq, ↓jn_eq, iI_lt, iI_le, iI_eq, k_0, k_1, k_2, k_3, k_4, k_5, k_6, k_7, k_8, k_9, k_10, k_11, k_12, k_13, k_14, k_15, k_16, k_17, k_18, k_19, k_20, k_21, k_22, k_23, k_24, k_27, k_30, k_32, k_48, k_57, k_59, k_60, k_61, k_62, k_63, k_64, k_72, k_78, k_80, k_82, k_97, k_99, k_100, k_122, k_244, k_255, k_268, k_280, k_300, k_432, k_650, k_900, k_901, k_999, k_1700, k_2600, k_2601, k_2602, k_2603, k_2604, k_2610, k_2618, k_2682, k_2777, k_2844, k_2868, k_2880, k_3245, k_3250, k_9551, k_9999, k_65536, k_100000, k_999999, k_1000000, k_2147483647, lt_T, lt_F, le_T, le_F, eq_T, eq_F, ↓reduceIte, not_true_eq_false, not_false_eq_true, or_true, or_false, true_or, false_or, and_true, true_and, and_false, false_and, hc, hG.nl, c_slot, l3, e0, e3]
          simp (disch := omega) only [iI_add, iI_sub, iI_mul, iI_neg, iI_nat, addm1, ixkI, ↓sbind, sbind, ↓bdS, bdS, ↓nm_eq, ↓jn_eq, iI_lt, iI_le, iI_eq, k_0, k_1, k_2, k_3, k_4, k_5, k_6, k_7, k_8, k_9, k_10, k_11, k_12, k_13, k_14, k_15, k_16, k_17, k_18, k_19, k_20, k_21, k_22, k_23, k_24, k_27, k_30, k_32, k_48, k_57, k_59, k_60, k_61, k_62, k_63, k_64, k_72, k_78, k_80, k_82, k_97, k_99, k_100, k_122, k_244, k_255, k_268, k_280, k_300, k_432, k_650, k_900, k_901, k_999, k_1700, k_2600, k_2601, k_2602, k_2603, k_2604, k_2610, k_2618, k_2682, k_2777, k_2844, k_2868, k_2880, k_3245, k_3250, k_9551, k_9999, k_65536, k_100000, k_999999, k_1000000, k_2147483647, lt_T, lt_F, le_T, le_F, eq_T, eq_F, ↓reduceIte, not_true_eq_false, not_false_eq_true, or_true, or_false, true_or, false_or, and_true, true_and, and_false, false_and, rI_ng, hp]
          rw [← e, sm_s _ i0, hmi, if_neg (by omega)]
        · rw [c1]
          funext z
          rw [rI_ng (by omega), rI_ng (by omega)]
      · by_cases hL : F 3 b 2 ≤ k ∨ cT F a b i k = s_left F a i + cT F a b (i + 1) k
        · have hmi : s_mt F a b i = -1 := by rw [hs i (Int.le_refl i), mt_l hi hP hL, if_pos rfl]
          have hF : Fr (Rg t (t + 2)) M (stI M (t + 2) i.toNat (iI (-1))) := Fr.stI ⟨by omega, by omega⟩ (Fr.refl M)
          obtain ⟨M', e, f, c1, c2, c3, c4⟩ := ih (i + 1) k (u + 1) _ (by omega) (by omega) (by omega) (by omega) (by omega) (by omega) (by omega) (hG.fr hF (fun x a b q => by have := q.1; have := q.2; omega))
            (fun i' k' a1 a2 a3 a4 a5 => by rw [rI_ng (by omega)]; exact hT i' k' a1 a2 a3 a4 a5)
            (by rw [rI_ng (by omega)]; exact hc) (by rw [rI_ng (by omega), hp, sm_s _ i0, hmi, if_pos rfl, Int.add_zero])
            (fun x x0 x1 => by
              by_cases hx : x = i
              · rw [hx, rI_eq, hmi]
              · rw [rI_nk (by omega)]; exact hm x x0 (by omega))
            (fun x hx => by rw [hs x (by omega), mt_l hi hP hL, if_neg (by omega)])
          refine ⟨M', ?_, hF.trans f, ?_, c2, c3, c4⟩
          · rw [lX5_trace_24_s]
            by_cases hk : k < F 3 b 2
            · have b3 := s_pair_bd w ha hb ⟨i0, hi⟩ ⟨k0, hk⟩
              have q3 := cT_bd w ha hb (i := i + 1) (k := k + 1) (by omega) (by omega)
              have e3 := hT.at (i' := i + 1) (k' := k + 1) (e := i * 13 + k + 13 + 1) (by omega) (by omega)
              have l3 := c_pairCost w hG ha hb ⟨i0, hi⟩ ⟨k0, hk⟩
              have n3 : ¬ cT F a b i k = s_pair F a i b k + cT F a b (i + 1) (k + 1) := fun q => hP ⟨hk, q⟩
              have n1 : cT F a b i k = s_left F a i + cT F a b (i + 1) k := by omega
              simp (disch := omega) only [iI_add, iI_sub, iI_mul, iI_neg, iI_nat, addm1, ixkI, ↓sbind, sbind, ↓bdS, bdS, ↓nm_eq, ↓jn_eq, iI_lt, iI_le, iI_eq, k_0, k_1, k_2, k_3, k_4, k_5, k_6, k_7, k_8, k_9, k_10, k_11, k_12, k_13, k_14, k_15, k_16, k_17, k_18, k_19, k_20, k_21, k_22, k_23, k_24, k_27, k_30, k_32, k_48, k_57, k_59, k_60, k_61, k_62, k_63, k_64, k_72, k_78, k_80, k_82, k_97, k_99, k_100, k_122, k_244, k_255, k_268, k_280, k_300, k_432, k_650, k_900, k_901, k_999, k_1700, k_2600, k_2601, k_2602, k_2603, k_2604, k_2610, k_2618, k_2682, k_2777, k_2844, k_2868, k_2880, k_3245, k_3250, k_9551, k_9999, k_65536, k_100000, k_999999, k_1000000, k_2147483647, lt_T, lt_F, le_T, le_F, eq_T, eq_F, ↓reduceIte, not_true_eq_false, not_false_eq_true, or_true, or_false, true_or, false_or, and_true, true_and, and_false, false_and, hc, hG.nl, c_slot, l1, l3, e0, e1, e3]
              exact e
            · simp (disch := omega) only [iI_add, iI_sub, iI_mul, iI_neg, iI_nat, addm1, ixkI, ↓sbind, sbind, ↓bdS, bdS, ↓nm_eq, ↓jn_eq, iI_lt, iI_le, iI_eq, k_0, k_1, k_2, k_3, k_4, k_5, k_6, k_7, k_8, k_9, k_10, k_11, k_12, k_13, k_14, k_15, k_16, k_17, k_18, k_19, k_20, k_21, k_22, k_23, k_24, k_27, k_30, k_32, k_48, k_57, k_59, k_60, k_61, k_62, k_63, k_64, k_72, k_78, k_80, k_82, k_97, k_99, k_100, k_122, k_244, k_255, k_268, k_280, k_300, k_432, k_650, k_900, k_901, k_999, k_1700, k_2600, k_2601, k_2602, k_2603, k_2604, k_2610, k_2618, k_2682, k_2777, k_2844, k_2868, k_2880, k_3245, k_3250, k_9551, k_9999, k_65536, k_100000, k_999999, k_1000000, k_2147483647, lt_T, lt_F, le_T, le_F, eq_T, eq_F, ↓reduceIte, not_true_eq_false, not_false_eq_true, or_true, or_false, true_or, false_or, and_true, true_and, and_false, false_and, hc, hG.nl, c_slot]
              exact e
          · rw [c1]
            funext z
            rw [rI_ng (by omega)]
        · obtain ⟨M', e, f, c1, c2, c3, c4⟩ := ih i (k + 1) (u + 1) M (by omega) (by omega) (by omega) (by omega) (by omega) (by omega) (by omega) hG hT hc hp hm
            (fun x hx => by rw [hs x (by omega), mt_r hi hP hL])
          refine ⟨M', ?_, f, c1, c2, c3, c4⟩
          rw [lX5_trace_24_s]
          have hk : k < F 3 b 2 := by omega
          have b3 := s_pair_bd w ha hb ⟨i0, hi⟩ ⟨k0, hk⟩
          have q3 := cT_bd w ha hb (i := i + 1) (k := k + 1) (by omega) (by omega)
          have e3 := hT.at (i' := i + 1) (k' := k + 1) (e := i * 13 + k + 13 + 1) (by omega) (by omega)
          have l3 := c_pairCost w hG ha hb ⟨i0, hi⟩ ⟨k0, hk⟩
          have n3 : ¬ cT F a b i k = s_pair F a i b k + cT F a b (i + 1) (k + 1) := fun q => hP ⟨hk, q⟩
          have n1 : ¬ cT F a b i k = s_left F a i + cT F a b (i + 1) k := fun q => hL (Or.inr q)
          simp (disch := omega) only [iI_add, iI_sub, iI_mul, iI_neg, iI_nat, addm1, ixkI, ↓sbind, sbind, ↓bdS, bdS, ↓nm_eq, ↓jn_eq, iI_lt, iI_le, iI_eq, k_0, k_1, k_2, k_3, k_4, k_5, k_6, k_7, k_8, k_9, k_10, k_11, k_12, k_13, k_14, k_15, k_16, k_17, k_18, k_19, k_20, k_21, k_22, k_23, k_24, k_27, k_30, k_32, k_48, k_57, k_59, k_60, k_61, k_62, k_63, k_64, k_72, k_78, k_80, k_82, k_97, k_99, k_100, k_122, k_244, k_255, k_268, k_280, k_300, k_432, k_650, k_900, k_901, k_999, k_1700, k_2600, k_2601, k_2602, k_2603, k_2604, k_2610, k_2618, k_2682, k_2777, k_2844, k_2868, k_2880, k_3245, k_3250, k_9551, k_9999, k_65536, k_100000, k_999999, k_1000000, k_2147483647, lt_T, lt_F, le_T, le_F, eq_T, eq_F, ↓reduceIte, not_true_eq_false, not_false_eq_true, or_true, or_false, true_or, false_or, and_true, true_and, and_false, false_and, hc, hG.nl, c_slot, l1, l3, e0, e1, e3]
          exact e
    · obtain rfl : i = F 3 a 2 := by omega
      refine ⟨M, ?_, Fr.refl M, rfl, hc, ?_, hm⟩
      · rw [lX5_trace_24_s]
        by_cases hu : 24 ≤ u
        · simp (disch := omega) only [iI_add, iI_sub, iI_mul, iI_neg, iI_nat, addm1, ixkI, ↓sbind, sbind, ↓bdS, bdS, ↓nm_eq, ↓jn_eq, iI_lt, iI_le, iI_eq, k_0, k_1, k_2, k_3, k_4, k_5, k_6, k_7, k_8, k_9, k_10, k_11, k_12, k_13, k_14, k_15, k_16, k_17, k_18, k_19, k_20, k_21, k_22, k_23, k_24, k_27, k_30, k_32, k_48, k_57, k_59, k_60, k_61, k_62, k_63, k_64, k_72, k_78, k_80, k_82, k_97, k_99, k_100, k_122, k_244, k_255, k_268, k_280, k_300, k_432, k_650, k_900, k_901, k_999, k_1700, k_2600, k_2601, k_2602, k_2603, k_2604, k_2610, k_2618, k_2682, k_2777, k_2844, k_2868, k_2880, k_3245, k_3250, k_9551, k_9999, k_65536, k_100000, k_999999, k_1000000, k_2147483647, lt_T, lt_F, le_T, le_F, eq_T, eq_F, ↓reduceIte, not_true_eq_false, not_false_eq_true, or_true, or_false, true_or, false_or, and_true, true_and, and_false, false_and]
        · simp (disch := omega) only [iI_add, iI_sub, iI_mul, iI_neg, iI_nat, addm1, ixkI, ↓sbind, sbind, ↓bdS, bdS, ↓nm_eq, ↓jn_eq, iI_lt, iI_le, iI_eq, k_0, k_1, k_2, k_3, k_4, k_5, k_6, k_7, k_8, k_9, k_10, k_11, k_12, k_13, k_14, k_15, k_16, k_17, k_18, k_19, k_20, k_21, k_22, k_23, k_24, k_27, k_30, k_32, k_48, k_57, k_59, k_60, k_61, k_62, k_63, k_64, k_72, k_78, k_80, k_82, k_97, k_99, k_100, k_122, k_244, k_255, k_268, k_280, k_300, k_432, k_650, k_900, k_901, k_999, k_1700, k_2600, k_2601, k_2602, k_2603, k_2604, k_2610, k_2618, k_2682, k_2777, k_2844, k_2868, k_2880, k_3245, k_3250, k_9551, k_9999, k_65536, k_100000, k_999999, k_1000000, k_2147483647, lt_T, lt_F, le_T, le_F, eq_T, eq_F, ↓reduceIte, not_true_eq_false, not_false_eq_true, or_true, or_false, true_or, false_or, and_true, true_and, and_false, false_and, hc]
      · rw [hp, s_pn_n F b h2]
theorem c_workOut (w : WF F) (hd : t + 3 ≤ g ∨ g + 13 < t) {a b : Int} (ha : 0 ≤ a ∧ a < F 0 1 0) (hb : 0 ≤ b ∧ b < F 0 1 0) {φ : Nat} (hφ : 100 < φ) (G : GR g F M) : ∃ M', fX5_workOut φ t g (iI a) (iI b) M = some (iI (cT F a b 0 0), M') ∧ Fr (Rg t (t + 2)) M M' ∧ M'.1 t 2 = iI (F 3 a 2) ∧ M'.1 t 3 = iI (s_pn F a b) ∧ ∀ x, 0 ≤ x → x < F 3 a 2 → M'.1 (t + 2) x.toNat = iI (s_mt F a b x) := by
  have h1 := w.n1
  have h2 := w.nl ha
  have h3 := w.nl hb
  obtain ⟨M1, e1, f1, T1⟩ := c_work8 w hd ha hb hφ (fun M6 => bd (fX5_trace φ t g (iI a) (iI b) M6) fun _ M8 => ixk (iI 0) 169 (some ((M8.1 (t + 1) (iI 0).toNatClampNeg), M8))) φ (F 3 a 2) (by omega) (by omega) (by omega) M G (fun i' k' a1 a2 a3 a4 a5 => by omega)
  have G1 := G.fr f1 (fun x a b q => by have := q.1; have := q.2; omega)
  have hF : Fr (Rg t (t + 2)) M1 (stI (stI M1 t 2 (iI (F 3 a 2))) t 3 (iI 0)) := Fr.stI ⟨by omega, by omega⟩ (Fr.stI ⟨by omega, by omega⟩ (Fr.refl M1))
  obtain ⟨M', e, f, c1, c2, c3, c4⟩ := c_trace (t := t) w hd ha hb φ 0 0 0 _ (by omega) (by omega) (by omega) (by omega) (by omega) (by omega) (by omega) (G1.fr hF (fun x a b q => by have := q.1; have := q.2; omega)) (fun i' k' a1 a2 a3 a4 a5 => by rw [rI_ng (by omega), rI_ng (by omega)]; exact T1 i' k' a1 a2 a3 a4 (by omega)) (by rw [rI_nk (by omega)]; exact rI_eq _ _ _ _) (rI_eq _ _ _ _) (fun x x0 x1 => by omega) (fun x _ => rfl)
  refine ⟨M', ?_, (f1.mono (fun x q => ⟨by have := q.1; omega, by have := q.2; omega⟩)).trans (hF.trans f), c2, c3, c4⟩
  unfold fX5_workOut
  simp (disch := omega) only [iI_add, iI_sub, iI_mul, iI_neg, iI_nat, addm1, ixkI, ↓sbind, sbind, ↓bdS, bdS, ↓nm_eq, ↓jn_eq, iI_lt, iI_le, iI_eq, k_0, k_1, k_2, k_3, k_4, k_5, k_6, k_7, k_8, k_9, k_10, k_11, k_12, k_13, k_14, k_15, k_16, k_17, k_18, k_19, k_20, k_21, k_22, k_23, k_24, k_27, k_30, k_32, k_48, k_57, k_59, k_60, k_61, k_62, k_63, k_64, k_72, k_78, k_80, k_82, k_97, k_99, k_100, k_122, k_244, k_255, k_268, k_280, k_300, k_432, k_650, k_900, k_901, k_999, k_1700, k_2600, k_2601, k_2602, k_2603, k_2604, k_2610, k_2618, k_2682, k_2777, k_2844, k_2868, k_2880, k_3245, k_3250, k_9551, k_9999, k_65536, k_100000, k_999999, k_1000000, k_2147483647, G.nl]
  refine e1.trans ?_
  unfold fX5_trace
  simp (disch := omega) only [iI_add, iI_sub, iI_mul, iI_neg, iI_nat, addm1, ixkI, ↓sbind, sbind, ↓bdS, bdS, ↓nm_eq, ↓jn_eq, iI_lt, iI_le, iI_eq, k_0, k_1, k_2, k_3, k_4, k_5, k_6, k_7, k_8, k_9, k_10, k_11, k_12, k_13, k_14, k_15, k_16, k_17, k_18, k_19, k_20, k_21, k_22, k_23, k_24, k_27, k_30, k_32, k_48, k_57, k_59, k_60, k_61, k_62, k_63, k_64, k_72, k_78, k_80, k_82, k_97, k_99, k_100, k_122, k_244, k_255, k_268, k_280, k_300, k_432, k_650, k_900, k_901, k_999, k_1700, k_2600, k_2601, k_2602, k_2603, k_2604, k_2610, k_2618, k_2682, k_2777, k_2844, k_2868, k_2880, k_3245, k_3250, k_9551, k_9999, k_65536, k_100000, k_999999, k_1000000, k_2147483647, G1.nl]
  rw [e]
  simp (disch := omega) only [iI_add, iI_sub, iI_mul, iI_neg, iI_nat, addm1, ixkI, ↓sbind, sbind, ↓bdS, bdS, ↓nm_eq, ↓jn_eq, iI_lt, iI_le, iI_eq, k_0, k_1, k_2, k_3, k_4, k_5, k_6, k_7, k_8, k_9, k_10, k_11, k_12, k_13, k_14, k_15, k_16, k_17, k_18, k_19, k_20, k_21, k_22, k_23, k_24, k_27, k_30, k_32, k_48, k_57, k_59, k_60, k_61, k_62, k_63, k_64, k_72, k_78, k_80, k_82, k_97, k_99, k_100, k_122, k_244, k_255, k_268, k_280, k_300, k_432, k_650, k_900, k_901, k_999, k_1700, k_2600, k_2601, k_2602, k_2603, k_2604, k_2610, k_2618, k_2682, k_2777, k_2844, k_2868, k_2880, k_3245, k_3250, k_9551, k_9999, k_65536, k_100000, k_999999, k_1000000, k_2147483647]
  rw [c1, rI_ng (by omega), rI_ng (by omega)]
  have e2 := T1.at (i' := 0) (k' := 0) (e := 0) (by omega) (by omega)
  rw [e2]
end CM
