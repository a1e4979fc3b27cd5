/-! questions to the beds, of the reference -/
section MQ
variable {t : Nat} {F : Fld} {M : Mem}
theorem BM.fr {S : Nat → Prop} {M' : Mem} (hF : Fr S M M') (h0 : M'.1 t 30 = M.1 t 30) (h1 : M'.1 t 32 = M.1 t 32) (hS : ∀ x, x = t + 12 ∨ x = t + 13 ∨ x = t + 15 → ¬ S x) (B : BM t F M) : BM t F M' := by
  unfold BM at B ⊢
  rw [h0, h1, (hF (t + 12) (hS _ (by omega))).1, (hF (t + 13) (hS _ (by omega))).1, (hF (t + 15) (hS _ (by omega))).1]
  exact B
theorem m_firstOf (w : WF F) (G : MR t 0 F M) (B : BM t F M) {x h : Int} (hx : 0 ≤ x ∧ x < bN F) (hh : 0 ≤ h ∧ h < F 0 1 0) {φ : Nat} (hφ : 100 < φ) : fX11_firstOf φ t (iI x) (iI h) M = some (iI (s_fst F x h)) := by
  have h1 := w.n1
  have hn := bN_rng w
  have nl := w.nl hh
  have el := m_layersOf G (h := h) (by omega)
  have key := lup (N := F 3 h 2) (P := fun n i => lX11_firstOf_2 t (iI x) (iI h) M n (iI i) = some (iI (ff (fun l => bA F h l == x) (F 3 h 2) i)))
    (fun n => by
      rw [lX11_firstOf_2_s, ff_e, el]
      simp (disch := omega) only [iI_add, iI_sub, iI_mul, iI_neg, iI_nat, addm1, ixkI, ↓sbind, sbind, ↓bdS, bdS, ↓nm_eq, ↓jn_eq, iI_lt, iI_le, iI_eq, k_0, k_1, k_2, k_3, k_4, k_5, k_6, k_7, k_8, k_9, k_10, k_11, k_12, k_13, k_14, k_15, k_16, k_17, k_18, k_19, k_20, k_21, k_22, k_23, k_24, k_27, k_30, k_32, k_48, k_57, k_59, k_60, k_61, k_62, k_63, k_64, k_72, k_78, k_80, k_82, k_97, k_99, k_100, k_122, k_244, k_255, k_268, k_280, k_300, k_432, k_650, k_900, k_901, k_999, k_1700, k_2600, k_2601, k_2602, k_2603, k_2604, k_2610, k_2618, k_2682, k_2777, k_2844, k_2868, k_2880, k_3245, k_3250, k_9551, k_9999, k_65536, k_100000, k_999999, k_1000000, k_2147483647, lt_T, lt_F, le_T, le_F, eq_T, eq_F, ↓reduceIte, not_true_eq_false, not_false_eq_true, or_true, or_false, true_or, false_or, and_true, true_and, and_false, false_and])
    (fun n i i0 i1 ih => by
      have ez := B.2.2.2 h i hh.1 (by omega) i0 (by omega)
      rw [show fv2 F h i = bA F h i from if_pos ⟨hh.2, i1⟩] at ez
      have zb := bA_rng w (h := h) (l := i) ⟨hh, i0, i1⟩
      rw [lX11_firstOf_2_s, el, ff_s _ i1]
      simp (disch := omega) only [iI_add, iI_sub, iI_mul, iI_neg, iI_nat, addm1, ixkI, ↓sbind, sbind, ↓bdS, bdS, ↓nm_eq, ↓jn_eq, iI_lt, iI_le, iI_eq, k_0, k_1, k_2, k_3, k_4, k_5, k_6, k_7, k_8, k_9, k_10, k_11, k_12, k_13, k_14, k_15, k_16, k_17, k_18, k_19, k_20, k_21, k_22, k_23, k_24, k_27, k_30, k_32, k_48, k_57, k_59, k_60, k_61, k_62, k_63, k_64, k_72, k_78, k_80, k_82, k_97, k_99, k_100, k_122, k_244, k_255, k_268, k_280, k_300, k_432, k_650, k_900, k_901, k_999, k_1700, k_2600, k_2601, k_2602, k_2603, k_2604, k_2610, k_2618, k_2682, k_2777, k_2844, k_2868, k_2880, k_3245, k_3250, k_9551, k_9999, k_65536, k_100000, k_999999, k_1000000, k_2147483647, lt_T, lt_F, le_T, le_F, eq_T, eq_F, ↓reduceIte, not_true_eq_false, not_false_eq_true, or_true, or_false, true_or, false_or, and_true, true_and, and_false, false_and, ez, ih]
      by_cases hc : bA F h i = x
      · rw [if_pos hc, if_pos (by simpa using hc)]
      · rw [if_neg hc, if_neg (by simpa using hc)])
    φ 0 (by omega) (by omega) (by omega)
  unfold fX11_firstOf
  simp only [k_0]
  exact key
theorem m_isAbove (w : WF F) (G : MR t 0 F M) (B : BM t F M) {a b : Int} (ha : 0 ≤ a ∧ a < bN F) (hb : 0 ≤ b ∧ b < bN F) {φ : Nat} (hφ : 100 < φ) : fX11_isAbove φ t (iI a) (iI b) M = some (bI (s_hig F a b)) := by
  have h1 := w.n1
  have key := lup (N := F 0 1 0) (P := fun n i => lX11_isAbove_2 φ t (iI a) (iI b) M n (iI i) = some (bI (ff (fun h => decide (s_fst F a h ≠ -1 ∧ s_fst F b h ≠ -1 ∧ s_fst F a h < s_fst F b h)) (F 0 1 0) i != -1)))
    (fun n => by
      rw [lX11_isAbove_2_s, ff_e]
      simp (disch := omega) only [iI_add, iI_sub, iI_mul, iI_neg, iI_nat, addm1, ixkI, ↓sbind, sbind, ↓bdS, bdS, ↓nm_eq, ↓jn_eq, iI_lt, iI_le, iI_eq, k_0, k_1, k_2, k_3, k_4, k_5, k_6, k_7, k_8, k_9, k_10, k_11, k_12, k_13, k_14, k_15, k_16, k_17, k_18, k_19, k_20, k_21, k_22, k_23, k_24, k_27, k_30, k_32, k_48, k_57, k_59, k_60, k_61, k_62, k_63, k_64, k_72, k_78, k_80, k_82, k_97, k_99, k_100, k_122, k_244, k_255, k_268, k_280, k_300, k_432, k_650, k_900, k_901, k_999, k_1700, k_2600, k_2601, k_2602, k_2603, k_2604, k_2610, k_2618, k_2682, k_2777, k_2844, k_2868, k_2880, k_3245, k_3250, k_9551, k_9999, k_65536, k_100000, k_999999, k_1000000, k_2147483647, lt_T, lt_F, le_T, le_F, eq_T, eq_F, ↓reduceIte, not_true_eq_false, not_false_eq_true, or_true, or_false, true_or, false_or, and_true, true_and, and_false, false_and, G.c1]
      rfl)
    (fun n i i0 i1 ih => by
      have z1 := s_fst_bd w (x := a) ⟨i0, i1⟩
      have z2 := s_fst_bd w (x := b) ⟨i0, i1⟩
      rw [lX11_isAbove_2_s, m_firstOf w G B ha ⟨i0, i1⟩ hφ, m_firstOf w G B hb ⟨i0, i1⟩ hφ]
      by_cases hc : s_fst F a i ≠ -1 ∧ s_fst F b i ≠ -1 ∧ s_fst F a i < s_fst F b i
      · rw [ff_t i1 (decide_eq_true hc), ne_m1 i0]
        simp (disch := omega) only [iI_add, iI_sub, iI_mul, iI_neg, iI_nat, addm1, ixkI, ↓sbind, sbind, ↓bdS, bdS, ↓nm_eq, ↓jn_eq, iI_lt, iI_le, iI_eq, k_0, k_1, k_2, k_3, k_4, k_5, k_6, k_7, k_8, k_9, k_10, k_11, k_12, k_13, k_14, k_15, k_16, k_17, k_18, k_19, k_20, k_21, k_22, k_23, k_24, k_27, k_30, k_32, k_48, k_57, k_59, k_60, k_61, k_62, k_63, k_64, k_72, k_78, k_80, k_82, k_97, k_99, k_100, k_122, k_244, k_255, k_268, k_280, k_300, k_432, k_650, k_900, k_901, k_999, k_1700, k_2600, k_2601, k_2602, k_2603, k_2604, k_2610, k_2618, k_2682, k_2777, k_2844, k_2868, k_2880, k_3245, k_3250, k_9551, k_9999, k_65536, k_100000, k_999999, k_1000000, k_2147483647, lt_T, lt_F, le_T, le_F, eq_T, eq_F, ↓reduceIte, not_true_eq_false, not_false_eq_true, or_true, or_false, true_or, false_or, and_true, true_and, and_false, false_and, G.c1]
        rfl
      · rw [ff_f i1 (decide_eq_false hc), ← ih]
        by_cases hd : s_fst F a i = -1
        · simp (disch := omega) only [iI_add, iI_sub, iI_mul, iI_neg, iI_nat, addm1, ixkI, ↓sbind, sbind, ↓bdS, bdS, ↓nm_eq, ↓jn_eq, iI_lt, iI_le, iI_eq, k_0, k_1, k_2, k_3, k_4, k_5, k_6, k_7, k_8, k_9, k_10, k_11, k_12, k_13, k_14, k_15, k_16, k_17, k_18, k_19, k_20, k_21, k_22, k_23, k_24, k_27, k_30, k_32, k_48, k_57, k_59, k_60, k_61, k_62, k_63, k_64, k_72, k_78, k_80, k_82, k_97, k_99, k_100, k_122, k_244, k_255, k_268, k_280, k_300, k_432, k_650, k_900, k_901, k_999, k_1700, k_2600, k_2601, k_2602, k_2603, k_2604, k_2610, k_2618, k_2682, k_2777, k_2844, k_2868, k_2880, k_3245, k_3250, k_9551, k_9999, k_65536, k_100000, k_999999, k_1000000, k_2147483647, lt_T, lt_F, le_T, le_F, eq_T, eq_F, ↓reduceIte, not_true_eq_false, not_false_eq_true, or_true, or_false, true_or, false_or, and_true, true_and, and_false, false_and, G.c1]
        · by_cases he : s_fst F b i = -1
          · simp (disch := omega) only [iI_add, iI_sub, iI_mul, iI_neg, iI_nat, addm1, ixkI, ↓sbind, sbind, ↓bdS, bdS, ↓nm_eq, ↓jn_eq, iI_lt, iI_le, iI_eq, k_0, k_1, k_2, k_3, k_4, k_5, k_6, k_7, k_8, k_9, k_10, k_11, k_12, k_13, k_14, k_15, k_16, k_17, k_18, k_19, k_20, k_21, k_22, k_23, k_24, k_27, k_30, k_32, k_48, k_57, k_59, k_60, k_61, k_62, k_63, k_64, k_72, k_78, k_80, k_82, k_97, k_99, k_100, k_122, k_244, k_255, k_268, k_280, k_300, k_432, k_650, k_900, k_901, k_999, k_1700, k_2600, k_2601, k_2602, k_2603, k_2604, k_2610, k_2618, k_2682, k_2777, k_2844, k_2868, k_2880, k_3245, k_3250, k_9551, k_9999, k_65536, k_100000, k_999999, k_1000000, k_2147483647, lt_T, lt_F, le_T, le_F, eq_T, eq_F, ↓reduceIte, not_true_eq_false, not_false_eq_true, or_true, or_false, true_or, false_or, and_true, true_and, and_false, false_and, G.c1]
          · simp (disch := omega) only [iI_add, iI_sub, iI_mul, iI_neg, iI_nat, addm1, ixkI, ↓sbind, sbind, ↓bdS, bdS, ↓nm_eq, ↓jn_eq, iI_lt, iI_le, iI_eq, k_0, k_1, k_2, k_3, k_4, k_5, k_6, k_7, k_8, k_9, k_10, k_11, k_12, k_13, k_14, k_15, k_16, k_17, k_18, k_19, k_20, k_21, k_22, k_23, k_24, k_27, k_30, k_32, k_48, k_57, k_59, k_60, k_61, k_62, k_63, k_64, k_72, k_78, k_80, k_82, k_97, k_99, k_100, k_122, k_244, k_255, k_268, k_280, k_300, k_432, k_650, k_900, k_901, k_999, k_1700, k_2600, k_2601, k_2602, k_2603, k_2604, k_2610, k_2618, k_2682, k_2777, k_2844, k_2868, k_2880, k_3245, k_3250, k_9551, k_9999, k_65536, k_100000, k_999999, k_1000000, k_2147483647, lt_T, lt_F, le_T, le_F, eq_T, eq_F, ↓reduceIte, not_true_eq_false, not_false_eq_true, or_true, or_false, true_or, false_or, and_true, true_and, and_false, false_and, G.c1])
    φ 0 (by omega) (by omega) (by omega)
  unfold fX11_isAbove
  simp only [k_0]
  exact key
theorem m_holesWith (w : WF F) (G : MR t 0 F M) (B : BM t F M) {x : Int} (hx : 0 ≤ x ∧ x < bN F) {φ : Nat} (hφ : 100 < φ) : fX11_holesWith φ t (iI x) M = some (s_set F x) := by
  have h1 := w.n1
  have key := lup (N := F 0 1 0) (P := fun n i => ∀ v, lX11_holesWith_4 φ t (iI x) M n v (iI i) = some (fo (fun h v => sB v h (s_fst F x h != -1)) (F 0 1 0) i v))
    (fun n v => by
      rw [lX11_holesWith_4_s, fo_e _ (Int.le_refl _)]
      simp (disch := omega) only [iI_add, iI_sub, iI_mul, iI_neg, iI_nat, addm1, ixkI, ↓sbind, sbind, ↓bdS, bdS, ↓nm_eq, ↓jn_eq, iI_lt, iI_le, iI_eq, k_0, k_1, k_2, k_3, k_4, k_5, k_6, k_7, k_8, k_9, k_10, k_11, k_12, k_13, k_14, k_15, k_16, k_17, k_18, k_19, k_20, k_21, k_22, k_23, k_24, k_27, k_30, k_32, k_48, k_57, k_59, k_60, k_61, k_62, k_63, k_64, k_72, k_78, k_80, k_82, k_97, k_99, k_100, k_122, k_244, k_255, k_268, k_280, k_300, k_432, k_650, k_900, k_901, k_999, k_1700, k_2600, k_2601, k_2602, k_2603, k_2604, k_2610, k_2618, k_2682, k_2777, k_2844, k_2868, k_2880, k_3245, k_3250, k_9551, k_9999, k_65536, k_100000, k_999999, k_1000000, k_2147483647, lt_T, lt_F, le_T, le_F, eq_T, eq_F, ↓reduceIte, not_true_eq_false, not_false_eq_true, or_true, or_false, true_or, false_or, and_true, true_and, and_false, false_and, G.c1])
    (fun n i i0 i1 ih v => by
      have z1 := s_fst_bd w (x := x) ⟨i0, i1⟩
      rw [lX11_holesWith_4_s, m_firstOf w G B hx ⟨i0, i1⟩ hφ, fo_s _ i1, ← ih]
      unfold sB
      by_cases hc : s_fst F x i = -1
      · rw [show (s_fst F x i != -1) = false from by simp [hc]]
        simp (disch := omega) only [iI_add, iI_sub, iI_mul, iI_neg, iI_nat, addm1, ixkI, ↓sbind, sbind, ↓bdS, bdS, ↓nm_eq, ↓jn_eq, iI_lt, iI_le, iI_eq, k_0, k_1, k_2, k_3, k_4, k_5, k_6, k_7, k_8, k_9, k_10, k_11, k_12, k_13, k_14, k_15, k_16, k_17, k_18, k_19, k_20, k_21, k_22, k_23, k_24, k_27, k_30, k_32, k_48, k_57, k_59, k_60, k_61, k_62, k_63, k_64, k_72, k_78, k_80, k_82, k_97, k_99, k_100, k_122, k_244, k_255, k_268, k_280, k_300, k_432, k_650, k_900, k_901, k_999, k_1700, k_2600, k_2601, k_2602, k_2603, k_2604, k_2610, k_2618, k_2682, k_2777, k_2844, k_2868, k_2880, k_3245, k_3250, k_9551, k_9999, k_65536, k_100000, k_999999, k_1000000, k_2147483647, lt_T, lt_F, le_T, le_F, eq_T, eq_F, ↓reduceIte, not_true_eq_false, not_false_eq_true, or_true, or_false, true_or, false_or, and_true, true_and, and_false, false_and, G.c1]
        rw [show v ||| iI 0 = v from by rw [← k_0]; exact Int32.or_zero]
        rfl
      · rw [show (s_fst F x i != -1) = true from by simp [hc]]
        simp (disch := omega) only [iI_add, iI_sub, iI_mul, iI_neg, iI_nat, addm1, ixkI, ↓sbind, sbind, ↓bdS, bdS, ↓nm_eq, ↓jn_eq, iI_lt, iI_le, iI_eq, k_0, k_1, k_2, k_3, k_4, k_5, k_6, k_7, k_8, k_9, k_10, k_11, k_12, k_13, k_14, k_15, k_16, k_17, k_18, k_19, k_20, k_21, k_22, k_23, k_24, k_27, k_30, k_32, k_48, k_57, k_59, k_60, k_61, k_62, k_63, k_64, k_72, k_78, k_80, k_82, k_97, k_99, k_100, k_122, k_244, k_255, k_268, k_280, k_300, k_432, k_650, k_900, k_901, k_999, k_1700, k_2600, k_2601, k_2602, k_2603, k_2604, k_2610, k_2618, k_2682, k_2777, k_2844, k_2868, k_2880, k_3245, k_3250, k_9551, k_9999, k_65536, k_100000, k_999999, k_1000000, k_2147483647, lt_T, lt_F, le_T, le_F, eq_T, eq_F, ↓reduceIte, not_true_eq_false, not_false_eq_true, or_true, or_false, true_or, false_or, and_true, true_and, and_false, false_and, G.c1])
    φ 0 (by omega) (by omega) (by omega) (iI 0)
  unfold fX11_holesWith
  simp only [k_0]
  exact key
theorem m_setBits (w : WF F) {x : Int} {φ : Nat} (hφ : 100 < φ) : fX11_bits φ (s_set F x) M = some (iI (s_cnt F x)) := by
  obtain ⟨n, rfl⟩ : ∃ n, φ = n + 7 := ⟨φ - 7, by omega⟩
  unfold fX11_bits
  rw [k_0, s_set6 w, m_bits, ← s_cnt6]
theorem m_thickIn (w : WF F) (G : MR t 0 F M) (B : BM t F M) {x h : Int} (hx : 0 ≤ x ∧ x < bN F) (hh : 0 ≤ h ∧ h < F 0 1 0) {φ : Nat} (hφ : 100 < φ) : fX11_thickIn φ t (iI x) (iI h) M = some (iI (s_thk F x h)) := by
  have h1 := w.n1
  have hn := bN_rng w
  have nl := w.nl hh
  have el := m_layersOf G (h := h) (by omega)
  have key := lup (N := F 3 h 2) (P := fun n i => lX11_thickIn_5 t (iI x) (iI h) M n (iI (sm (fun l => if bA F h l = x then F 5 h l else 0) i)) (iI i) = some (iI (sm (fun l => if bA F h l = x then F 5 h l else 0) (F 3 h 2))))
    (fun n => by
      rw [lX11_thickIn_5_s, el]
      simp (disch := omega) only [iI_add, iI_sub, iI_mul, iI_neg, iI_nat, addm1, ixkI, ↓sbind, sbind, ↓bdS, bdS, ↓nm_eq, ↓jn_eq, iI_lt, iI_le, iI_eq, k_0, k_1, k_2, k_3, k_4, k_5, k_6, k_7, k_8, k_9, k_10, k_11, k_12, k_13, k_14, k_15, k_16, k_17, k_18, k_19, k_20, k_21, k_22, k_23, k_24, k_27, k_30, k_32, k_48, k_57, k_59, k_60, k_61, k_62, k_63, k_64, k_72, k_78, k_80, k_82, k_97, k_99, k_100, k_122, k_244, k_255, k_268, k_280, k_300, k_432, k_650, k_900, k_901, k_999, k_1700, k_2600, k_2601, k_2602, k_2603, k_2604, k_2610, k_2618, k_2682, k_2777, k_2844, k_2868, k_2880, k_3245, k_3250, k_9551, k_9999, k_65536, k_100000, k_999999, k_1000000, k_2147483647, lt_T, lt_F, le_T, le_F, eq_T, eq_F, ↓reduceIte, not_true_eq_false, not_false_eq_true, or_true, or_false, true_or, false_or, and_true, true_and, and_false, false_and])
    (fun n i i0 i1 ih => by
      have ez := B.2.2.2 h i hh.1 (by omega) i0 (by omega)
      rw [show fv2 F h i = bA F h i from if_pos ⟨hh.2, i1⟩] at ez
      have zb := bA_rng w (h := h) (l := i) ⟨hh, i0, i1⟩
      have et := m_thickOf G (h := h) (l := i) (by omega) (by omega)
      rw [lX11_thickIn_5_s, el, ← ih, sm_s _ i0]
      by_cases hc : bA F h i = x
      · rw [show (if bA F h i = x then F 5 h i else 0) = F 5 h i from if_pos hc]
        simp (disch := omega) only [iI_add, iI_sub, iI_mul, iI_neg, iI_nat, addm1, ixkI, ↓sbind, sbind, ↓bdS, bdS, ↓nm_eq, ↓jn_eq, iI_lt, iI_le, iI_eq, k_0, k_1, k_2, k_3, k_4, k_5, k_6, k_7, k_8, k_9, k_10, k_11, k_12, k_13, k_14, k_15, k_16, k_17, k_18, k_19, k_20, k_21, k_22, k_23, k_24, k_27, k_30, k_32, k_48, k_57, k_59, k_60, k_61, k_62, k_63, k_64, k_72, k_78, k_80, k_82, k_97, k_99, k_100, k_122, k_244, k_255, k_268, k_280, k_300, k_432, k_650, k_900, k_901, k_999, k_1700, k_2600, k_2601, k_2602, k_2603, k_2604, k_2610, k_2618, k_2682, k_2777, k_2844, k_2868, k_2880, k_3245, k_3250, k_9551, k_9999, k_65536, k_100000, k_999999, k_1000000, k_2147483647, lt_T, lt_F, le_T, le_F, eq_T, eq_F, ↓reduceIte, not_true_eq_false, not_false_eq_true, or_true, or_false, true_or, false_or, and_true, true_and, and_false, false_and, ez, et]
      · rw [show (if bA F h i = x then F 5 h i else 0) = 0 from if_neg hc]
        simp (disch := omega) only [iI_add, iI_sub, iI_mul, iI_neg, iI_nat, addm1, ixkI, ↓sbind, sbind, ↓bdS, bdS, ↓nm_eq, ↓jn_eq, iI_lt, iI_le, iI_eq, k_0, k_1, k_2, k_3, k_4, k_5, k_6, k_7, k_8, k_9, k_10, k_11, k_12, k_13, k_14, k_15, k_16, k_17, k_18, k_19, k_20, k_21, k_22, k_23, k_24, k_27, k_30, k_32, k_48, k_57, k_59, k_60, k_61, k_62, k_63, k_64, k_72, k_78, k_80, k_82, k_97, k_99, k_100, k_122, k_244, k_255, k_268, k_280, k_300, k_432, k_650, k_900, k_901, k_999, k_1700, k_2600, k_2601, k_2602, k_2603, k_2604, k_2610, k_2618, k_2682, k_2777, k_2844, k_2868, k_2880, k_3245, k_3250, k_9551, k_9999, k_65536, k_100000, k_999999, k_1000000, k_2147483647, lt_T, lt_F, le_T, le_F, eq_T, eq_F, ↓reduceIte, not_true_eq_false, not_false_eq_true, or_true, or_false, true_or, false_or, and_true, true_and, and_false, false_and, ez, et])
    φ 0 (by omega) (by omega) (by omega)
  have es : sm (fun l => if bA F h l = x then F 5 h l else 0) (F 3 h 2) = s_thk F x h := by
    unfold s_thk
    rcases s_fst_rng w (x := x) hh with r | ⟨r1, r2, r3⟩
    · rw [if_pos r, ← sm_0 (fun l => if bA F h l = x then F 5 h l else 0)]
      refine sm_tail (Int.le_refl 0) nl.1 fun l l0 l1 => if_neg fun q => ?_
      have := s_fst_eq w (h := h) (l := l) ⟨hh, l0, l1⟩
      rw [q, r] at this
      omega
    · rw [if_neg (by omega)]
      have e1 := sm_upd (f := fun _ => 0) (f' := fun l => if l = s_fst F x h then F 5 h l else 0) (z := s_fst F x h) (fun l hl => if_neg hl) (F 3 h 2) ⟨r1, r2⟩
      have e2 : sm (fun _ => (0 : Int)) (F 3 h 2) = 0 := by
        have := sm_tail (f := fun _ => (0 : Int)) (N := 0) (K := F 3 h 2) (Int.le_refl 0) nl.1 (fun _ _ _ => rfl)
        rw [this]
        rfl
      have e3 := sm_cg (f := fun l => if bA F h l = x then F 5 h l else 0) (g := fun l => if l = s_fst F x h then F 5 h l else 0) (N := F 3 h 2) (fun l l0 l1 => by
        by_cases hc : bA F h l = x
        · have := s_fst_eq w (h := h) (l := l) ⟨hh, l0, l1⟩
          rw [hc] at this
          show (if bA F h l = x then F 5 h l else 0) = if l = s_fst F x h then F 5 h l else 0
          rw [if_pos hc, if_pos this.symm]
        · show (if bA F h l = x then F 5 h l else 0) = if l = s_fst F x h then F 5 h l else 0
          rw [if_neg hc, if_neg (fun q => hc (by rw [q]; exact r3))]) (F 3 h 2) nl.1 (Int.le_refl _)
      rw [e3, e1, e2]
      show 0 + ((if s_fst F x h = s_fst F x h then F 5 h (s_fst F x h) else 0) - 0) = _
      rw [if_pos rfl]
      omega
  rw [es] at key
  unfold fX11_thickIn
  simp only [k_0]
  exact key
theorem m_isBed (w : WF F) (B : BM t F M) {a : Int} (ha : -2147483648 ≤ a ∧ a < 2147483648) : fX11_isBed t (iI a) M = some (bI (s_in a (bN F))) := by
  have h0 := bN_rng w
  have h7 := B.2.1
  unfold fX11_isBed
  simp (disch := omega) only [iI_add, iI_sub, iI_mul, iI_neg, iI_nat, addm1, ixkI, ↓sbind, sbind, ↓bdS, bdS, ↓nm_eq, ↓jn_eq, iI_lt, iI_le, iI_eq, k_0, k_1, k_2, k_3, k_4, k_5, k_6, k_7, k_8, k_9, k_10, k_11, k_12, k_13, k_14, k_15, k_16, k_17, k_18, k_19, k_20, k_21, k_22, k_23, k_24, k_27, k_30, k_32, k_48, k_57, k_59, k_60, k_61, k_62, k_63, k_64, k_72, k_78, k_80, k_82, k_97, k_99, k_100, k_122, k_244, k_255, k_268, k_280, k_300, k_432, k_650, k_900, k_901, k_999, k_1700, k_2600, k_2601, k_2602, k_2603, k_2604, k_2610, k_2618, k_2682, k_2777, k_2844, k_2868, k_2880, k_3245, k_3250, k_9551, k_9999, k_65536, k_100000, k_999999, k_1000000, k_2147483647, h7]
  by_cases h1 : a < 0
  · rw [if_pos h1, s_in_f (by omega)]; rfl
  · rw [if_neg h1]
    by_cases h2 : bN F ≤ a
    · rw [if_pos h2, s_in_f (by omega)]; rfl
    · rw [if_neg h2, s_in_t (by omega)]; rfl
/-! its order -/
theorem m_ord69 (w : WF F) (G : MR t 0 F M) (B : BM t F M) {out : Int → Bool} (ho : ∀ b : Int, 0 ≤ b → b < bN F → M.1 (t + 16) b.toNat = bI (out b)) {b : Int} (hb : 0 ≤ b ∧ b < bN F) {φ : Nat} (hφ : 100 < φ) (x1 x2 : Int32) (K : Int32 → Option (Int32 × Mem)) : ∀ (n : Nat) (i : Int), 0 ≤ i → i ≤ bN F → bN F < n + i → lX11_orders_69 K φ t x1 x2 (iI b) M n (iI 1) (iI i) = K (bI (ff (fun o => !out o && s_hig F o b) (bN F) i == -1)) := by
  have hn := bN_rng w
  have h7 := B.2.1
  have stop : ∀ n i, 0 ≤ i → i ≤ bN F → lX11_orders_69 K φ t x1 x2 (iI b) M (n + 1) (iI 0) (iI i) = K (iI 0) := fun n i i0 i1 => by
    rw [lX11_orders_69_s]
    by_cases hc : bN F ≤ i
    · simp (disch := omega) only [iI_add, iI_sub, iI_mul, iI_neg, iI_nat, addm1, ixkI, ↓sbind, sbind, ↓bdS, bdS, ↓nm_eq, ↓jn_eq, iI_lt, iI_le, iI_eq, k_0, k_1, k_2, k_3, k_4, k_5, k_6, k_7, k_8, k_9, k_10, k_11, k_12, k_13, k_14, k_15, k_16, k_17, k_18, k_19, k_20, k_21, k_22, k_23, k_24, k_27, k_30, k_32, k_48, k_57, k_59, k_60, k_61, k_62, k_63, k_64, k_72, k_78, k_80, k_82, k_97, k_99, k_100, k_122, k_244, k_255, k_268, k_280, k_300, k_432, k_650, k_900, k_901, k_999, k_1700, k_2600, k_2601, k_2602, k_2603, k_2604, k_2610, k_2618, k_2682, k_2777, k_2844, k_2868, k_2880, k_3245, k_3250, k_9551, k_9999, k_65536, k_100000, k_999999, k_1000000, k_2147483647, lt_T, lt_F, le_T, le_F, eq_T, eq_F, ↓reduceIte, not_true_eq_false, not_false_eq_true, or_true, or_false, true_or, false_or, and_true, true_and, and_false, false_and, h7]
    · simp (disch := omega) only [iI_add, iI_sub, iI_mul, iI_neg, iI_nat, addm1, ixkI, ↓sbind, sbind, ↓bdS, bdS, ↓nm_eq, ↓jn_eq, iI_lt, iI_le, iI_eq, k_0, k_1, k_2, k_3, k_4, k_5, k_6, k_7, k_8, k_9, k_10, k_11, k_12, k_13, k_14, k_15, k_16, k_17, k_18, k_19, k_20, k_21, k_22, k_23, k_24, k_27, k_30, k_32, k_48, k_57, k_59, k_60, k_61, k_62, k_63, k_64, k_72, k_78, k_80, k_82, k_97, k_99, k_100, k_122, k_244, k_255, k_268, k_280, k_300, k_432, k_650, k_900, k_901, k_999, k_1700, k_2600, k_2601, k_2602, k_2603, k_2604, k_2610, k_2618, k_2682, k_2777, k_2844, k_2868, k_2880, k_3245, k_3250, k_9551, k_9999, k_65536, k_100000, k_999999, k_1000000, k_2147483647, lt_T, lt_F, le_T, le_F, eq_T, eq_F, ↓reduceIte, not_true_eq_false, not_false_eq_true, or_true, or_false, true_or, false_or, and_true, true_and, and_false, false_and, h7]
  intro n
  induction n with
  | zero => intro i h0 h1 h2; omega
  | succ n ih =>
    intro i i0 i1 hn1
    by_cases hlt : i < bN F
    · have e := ho i i0 hlt
      have ih' := ih (i + 1) (by omega) (by omega) (by omega)
      obtain ⟨n', rfl⟩ : ∃ n', n = n' + 1 := ⟨n - 1, by omega⟩
      have st := stop n' (i + 1) (by omega) (by omega)
      have nm1 : (i == -1) = false := by simp <;> omega
      rw [lX11_orders_69_s, m_isAbove w G B ⟨i0, hlt⟩ hb hφ, ff_s _ hlt]
      by_cases hib : i = b
      · subst hib
        rw [s_hig_ii w]
        simp (disch := omega) only [iI_add, iI_sub, iI_mul, iI_neg, iI_nat, addm1, ixkI, ↓sbind, sbind, ↓bdS, bdS, ↓nm_eq, ↓jn_eq, iI_lt, iI_le, iI_eq, k_0, k_1, k_2, k_3, k_4, k_5, k_6, k_7, k_8, k_9, k_10, k_11, k_12, k_13, k_14, k_15, k_16, k_17, k_18, k_19, k_20, k_21, k_22, k_23, k_24, k_27, k_30, k_32, k_48, k_57, k_59, k_60, k_61, k_62, k_63, k_64, k_72, k_78, k_80, k_82, k_97, k_99, k_100, k_122, k_244, k_255, k_268, k_280, k_300, k_432, k_650, k_900, k_901, k_999, k_1700, k_2600, k_2601, k_2602, k_2603, k_2604, k_2610, k_2618, k_2682, k_2777, k_2844, k_2868, k_2880, k_3245, k_3250, k_9551, k_9999, k_65536, k_100000, k_999999, k_1000000, k_2147483647, lt_T, lt_F, le_T, le_F, eq_T, eq_F, ↓reduceIte, not_true_eq_false, not_false_eq_true, or_true, or_false, true_or, false_or, and_true, true_and, and_false, false_and, h7, ih']
        simp
      · simp (disch := omega) only [iI_add, iI_sub, iI_mul, iI_neg, iI_nat, addm1, ixkI, ↓sbind, sbind, ↓bdS, bdS, ↓nm_eq, ↓jn_eq, iI_lt, iI_le, iI_eq, k_0, k_1, k_2, k_3, k_4, k_5, k_6, k_7, k_8, k_9, k_10, k_11, k_12, k_13, k_14, k_15, k_16, k_17, k_18, k_19, k_20, k_21, k_22, k_23, k_24, k_27, k_30, k_32, k_48, k_57, k_59, k_60, k_61, k_62, k_63, k_64, k_72, k_78, k_80, k_82, k_97, k_99, k_100, k_122, k_244, k_255, k_268, k_280, k_300, k_432, k_650, k_900, k_901, k_999, k_1700, k_2600, k_2601, k_2602, k_2603, k_2604, k_2610, k_2618, k_2682, k_2777, k_2844, k_2868, k_2880, k_3245, k_3250, k_9551, k_9999, k_65536, k_100000, k_999999, k_1000000, k_2147483647, lt_T, lt_F, le_T, le_F, eq_T, eq_F, ↓reduceIte, not_true_eq_false, not_false_eq_true, or_true, or_false, true_or, false_or, and_true, true_and, and_false, false_and, h7, e, bI_0, ih', st]
        cases out i <;> cases s_hig F i b <;> simp [nm1, bI]
    · rw [lX11_orders_69_s, ff_e' _ (by omega)]
      simp (disch := omega) only [iI_add, iI_sub, iI_mul, iI_neg, iI_nat, addm1, ixkI, ↓sbind, sbind, ↓bdS, bdS, ↓nm_eq, ↓jn_eq, iI_lt, iI_le, iI_eq, k_0, k_1, k_2, k_3, k_4, k_5, k_6, k_7, k_8, k_9, k_10, k_11, k_12, k_13, k_14, k_15, k_16, k_17, k_18, k_19, k_20, k_21, k_22, k_23, k_24, k_27, k_30, k_32, k_48, k_57, k_59, k_60, k_61, k_62, k_63, k_64, k_72, k_78, k_80, k_82, k_97, k_99, k_100, k_122, k_244, k_255, k_268, k_280, k_300, k_432, k_650, k_900, k_901, k_999, k_1700, k_2600, k_2601, k_2602, k_2603, k_2604, k_2610, k_2618, k_2682, k_2777, k_2844, k_2868, k_2880, k_3245, k_3250, k_9551, k_9999, k_65536, k_100000, k_999999, k_1000000, k_2147483647, lt_T, lt_F, le_T, le_F, eq_T, eq_F, ↓reduceIte, not_true_eq_false, not_false_eq_true, or_true, or_false, true_or, false_or, and_true, true_and, and_false, false_and, h7]
      rfl
theorem m_ord37 (w : WF F) (G : MR t 0 F M) (B : BM t F M) {out : Int → Bool} (ho : ∀ b : Int, 0 ≤ b → b < bN F → M.1 (t + 16) b.toNat = bI (out b)) {φ : Nat} (hφ : 100 < φ) (x1 : Int32) (K : Int32 → Option (Int32 × Mem)) : ∀ (n : Nat) (i : Int), 0 ≤ i → i ≤ bN F → bN F < n + i → lX11_orders_37 K φ t x1 M n (iI (-1)) (iI i) = K (iI (ff (fun b => !out b && s_free F out b) (bN F) i)) := by
  have hn := bN_rng w
  have h7 := B.2.1
  have stop : ∀ n v i, 0 ≤ i → i ≤ bN F → 0 ≤ v → v < bN F → lX11_orders_37 K φ t x1 M (n + 1) (iI v) (iI i) = K (iI v) := fun n v i i0 i1 v0 v1 => by
    rw [lX11_orders_37_s]
    by_cases hc : bN F ≤ i
    · simp (disch := omega) only [iI_add, iI_sub, iI_mul, iI_neg, iI_nat, addm1, ixkI, ↓sbind, sbind, ↓bdS, bdS, ↓nm_eq, ↓jn_eq, iI_lt, iI_le, iI_eq, k_0, k_1, k_2, k_3, k_4, k_5, k_6, k_7, k_8, k_9, k_10, k_11, k_12, k_13, k_14, k_15, k_16, k_17, k_18, k_19, k_20, k_21, k_22, k_23, k_24, k_27, k_30, k_32, k_48, k_57, k_59, k_60, k_61, k_62, k_63, k_64, k_72, k_78, k_80, k_82, k_97, k_99, k_100, k_122, k_244, k_255, k_268, k_280, k_300, k_432, k_650, k_900, k_901, k_999, k_1700, k_2600, k_2601, k_2602, k_2603, k_2604, k_2610, k_2618, k_2682, k_2777, k_2844, k_2868, k_2880, k_3245, k_3250, k_9551, k_9999, k_65536, k_100000, k_999999, k_1000000, k_2147483647, lt_T, lt_F, le_T, le_F, eq_T, eq_F, ↓reduceIte, not_true_eq_false, not_false_eq_true, or_true, or_false, true_or, false_or, and_true, true_and, and_false, false_and, h7]
    · simp (disch := omega) only [iI_add, iI_sub, iI_mul, iI_neg, iI_nat, addm1, ixkI, ↓sbind, sbind, ↓bdS, bdS, ↓nm_eq, ↓jn_eq, iI_lt, iI_le, iI_eq, k_0, k_1, k_2, k_3, k_4, k_5, k_6, k_7, k_8, k_9, k_10, k_11, k_12, k_13, k_14, k_15, k_16, k_17, k_18, k_19, k_20, k_21, k_22, k_23, k_24, k_27, k_30, k_32, k_48, k_57, k_59, k_60, k_61, k_62, k_63, k_64, k_72, k_78, k_80, k_82, k_97, k_99, k_100, k_122, k_244, k_255, k_268, k_280, k_300, k_432, k_650, k_900, k_901, k_999, k_1700, k_2600, k_2601, k_2602, k_2603, k_2604, k_2610, k_2618, k_2682, k_2777, k_2844, k_2868, k_2880, k_3245, k_3250, k_9551, k_9999, k_65536, k_100000, k_999999, k_1000000, k_2147483647, lt_T, lt_F, le_T, le_F, eq_T, eq_F, ↓reduceIte, not_true_eq_false, not_false_eq_true, or_true, or_false, true_or, false_or, and_true, true_and, and_false, false_and, h7]
  intro n
  induction n with
  | zero => intro i h0 h1 h2; omega
  | succ n ih =>
    intro i i0 i1 hn1
    by_cases hlt : i < bN F
    · have e := ho i i0 hlt
      have ih' := ih (i + 1) (by omega) (by omega) (by omega)
      obtain ⟨n', rfl⟩ : ∃ n', n = n' + 1 := ⟨n - 1, by omega⟩
      have st := stop n' i (i + 1) (by omega) (by omega) i0 hlt
      rw [lX11_orders_37_s, ff_s _ hlt]
      cases hout : out i
      · rw [hout] at e
        have e69 := fun K => m_ord69 w G B ho ⟨i0, hlt⟩ hφ x1 (iI (-1)) K φ 0 (by omega) (by omega) (by omega)
        simp (disch := omega) only [iI_add, iI_sub, iI_mul, iI_neg, iI_nat, addm1, ixkI, ↓sbind, sbind, ↓bdS, bdS, ↓nm_eq, ↓jn_eq, iI_lt, iI_le, iI_eq, k_0, k_1, k_2, k_3, k_4, k_5, k_6, k_7, k_8, k_9, k_10, k_11, k_12, k_13, k_14, k_15, k_16, k_17, k_18, k_19, k_20, k_21, k_22, k_23, k_24, k_27, k_30, k_32, k_48, k_57, k_59, k_60, k_61, k_62, k_63, k_64, k_72, k_78, k_80, k_82, k_97, k_99, k_100, k_122, k_244, k_255, k_268, k_280, k_300, k_432, k_650, k_900, k_901, k_999, k_1700, k_2600, k_2601, k_2602, k_2603, k_2604, k_2610, k_2618, k_2682, k_2777, k_2844, k_2868, k_2880, k_3245, k_3250, k_9551, k_9999, k_65536, k_100000, k_999999, k_1000000, k_2147483647, lt_T, lt_F, le_T, le_F, eq_T, eq_F, ↓reduceIte, not_true_eq_false, not_false_eq_true, or_true, or_false, true_or, false_or, and_true, true_and, and_false, false_and, h7, e, bI_f, e69, bI_0]
        show (if s_free F out i = false then _ else _) = _
        cases s_free F out i
        · simp [ih']
        · simp [st]
      · rw [hout] at e
        obtain ⟨m, rfl⟩ : ∃ m, φ = m + 1 := ⟨φ - 1, by omega⟩
        simp (disch := omega) only [iI_add, iI_sub, iI_mul, iI_neg, iI_nat, addm1, ixkI, ↓sbind, sbind, ↓bdS, bdS, ↓nm_eq, ↓jn_eq, iI_lt, iI_le, iI_eq, k_0, k_1, k_2, k_3, k_4, k_5, k_6, k_7, k_8, k_9, k_10, k_11, k_12, k_13, k_14, k_15, k_16, k_17, k_18, k_19, k_20, k_21, k_22, k_23, k_24, k_27, k_30, k_32, k_48, k_57, k_59, k_60, k_61, k_62, k_63, k_64, k_72, k_78, k_80, k_82, k_97, k_99, k_100, k_122, k_244, k_255, k_268, k_280, k_300, k_432, k_650, k_900, k_901, k_999, k_1700, k_2600, k_2601, k_2602, k_2603, k_2604, k_2610, k_2618, k_2682, k_2777, k_2844, k_2868, k_2880, k_3245, k_3250, k_9551, k_9999, k_65536, k_100000, k_999999, k_1000000, k_2147483647, lt_T, lt_F, le_T, le_F, eq_T, eq_F, ↓reduceIte, not_true_eq_false, not_false_eq_true, or_true, or_false, true_or, false_or, and_true, true_and, and_false, false_and, h7, e, bI_t]
        rw [lX11_orders_69_s]
        have hz : ¬ bN F ≤ 0 := by omega
        simp (disch := omega) only [iI_add, iI_sub, iI_mul, iI_neg, iI_nat, addm1, ixkI, ↓sbind, sbind, ↓bdS, bdS, ↓nm_eq, ↓jn_eq, iI_lt, iI_le, iI_eq, k_0, k_1, k_2, k_3, k_4, k_5, k_6, k_7, k_8, k_9, k_10, k_11, k_12, k_13, k_14, k_15, k_16, k_17, k_18, k_19, k_20, k_21, k_22, k_23, k_24, k_27, k_30, k_32, k_48, k_57, k_59, k_60, k_61, k_62, k_63, k_64, k_72, k_78, k_80, k_82, k_97, k_99, k_100, k_122, k_244, k_255, k_268, k_280, k_300, k_432, k_650, k_900, k_901, k_999, k_1700, k_2600, k_2601, k_2602, k_2603, k_2604, k_2610, k_2618, k_2682, k_2777, k_2844, k_2868, k_2880, k_3245, k_3250, k_9551, k_9999, k_65536, k_100000, k_999999, k_1000000, k_2147483647, lt_T, lt_F, le_T, le_F, eq_T, eq_F, ↓reduceIte, not_true_eq_false, not_false_eq_true, or_true, or_false, true_or, false_or, and_true, true_and, and_false, false_and, h7, ih']
        simp
    · rw [lX11_orders_37_s, ff_e' _ (by omega)]
      simp (disch := omega) only [iI_add, iI_sub, iI_mul, iI_neg, iI_nat, addm1, ixkI, ↓sbind, sbind, ↓bdS, bdS, ↓nm_eq, ↓jn_eq, iI_lt, iI_le, iI_eq, k_0, k_1, k_2, k_3, k_4, k_5, k_6, k_7, k_8, k_9, k_10, k_11, k_12, k_13, k_14, k_15, k_16, k_17, k_18, k_19, k_20, k_21, k_22, k_23, k_24, k_27, k_30, k_32, k_48, k_57, k_59, k_60, k_61, k_62, k_63, k_64, k_72, k_78, k_80, k_82, k_97, k_99, k_100, k_122, k_244, k_255, k_268, k_280, k_300, k_432, k_650, k_900, k_901, k_999, k_1700, k_2600, k_2601, k_2602, k_2603, k_2604, k_2610, k_2618, k_2682, k_2777, k_2844, k_2868, k_2880, k_3245, k_3250, k_9551, k_9999, k_65536, k_100000, k_999999, k_1000000, k_2147483647, lt_T, lt_F, le_T, le_F, eq_T, eq_F, ↓reduceIte, not_true_eq_false, not_false_eq_true, or_true, or_false, true_or, false_or, and_true, true_and, and_false, false_and, h7]
theorem m_ord2 (w : WF F) (K : Mem → Option (Int32 × Mem)) : ∀ (n : Nat) (x : Int), 0 ≤ x → x ≤ bN F → bN F < n + x → ∀ M, M.1 t 32 = iI (bN F) → (∀ y : Int, 0 ≤ y → y < x → M.1 (t + 16) y.toNat = iI 0) → ∃ M', lX11_orders_2 K t n (iI x) M = K M' ∧ Fr (Rg (t + 16) (t + 16)) M M' ∧ ∀ y : Int, 0 ≤ y → y < bN F → M'.1 (t + 16) y.toNat = iI 0 := by
  have hn := bN_rng w
  refine lup (N := bN F) (P := fun n x => ∀ M, M.1 t 32 = iI (bN F) → (∀ y : Int, 0 ≤ y → y < x → M.1 (t + 16) y.toNat = iI 0) → ∃ M', lX11_orders_2 K t n (iI x) M = K M' ∧ Fr (Rg (t + 16) (t + 16)) M M' ∧ ∀ y : Int, 0 ≤ y → y < bN F → M'.1 (t + 16) y.toNat = iI 0) ?_ ?_
  · intro n M h7 hM
    refine ⟨M, ?_, Fr.refl M, hM⟩
    rw [lX11_orders_2_s]
    simp (disch := omega) only [iI_add, iI_sub, iI_mul, iI_neg, iI_nat, addm1, ixkI, ↓sbind, sbind, ↓bdS, bdS, ↓nm_eq, ↓jn_eq, iI_lt, iI_le, iI_eq, k_0, k_1, k_2, k_3, k_4, k_5, k_6, k_7, k_8, k_9, k_10, k_11, k_12, k_13, k_14, k_15, k_16, k_17, k_18, k_19, k_20, k_21, k_22, k_23, k_24, k_27, k_30, k_32, k_48, k_57, k_59, k_60, k_61, k_62, k_63, k_64, k_72, k_78, k_80, k_82, k_97, k_99, k_100, k_122, k_244, k_255, k_268, k_280, k_300, k_432, k_650, k_900, k_901, k_999, k_1700, k_2600, k_2601, k_2602, k_2603, k_2604, k_2610, k_2618, k_2682, k_2777, k_2844, k_2868, k_2880, k_3245, k_3250, k_9551, k_9999, k_65536, k_100000, k_999999, k_1000000, k_2147483647, lt_T, lt_F, le_T, le_F, eq_T, eq_F, ↓reduceIte, not_true_eq_false, not_false_eq_true, or_true, or_false, true_or, false_or, and_true, true_and, and_false, false_and, h7]
  · intro n x x0 x1 ih M h7 hM
    have hF : Fr (Rg (t + 16) (t + 16)) M (stI M (t + 16) x.toNat (iI 0)) := Fr.stI ⟨by omega, by omega⟩ (Fr.refl M)
    obtain ⟨M', e, f, T⟩ := ih (stI M (t + 16) x.toNat (iI 0)) (by rw [rI_ng (by omega)]; exact h7) (fun y y0 y1 => by
      by_cases hy : y = x
      · rw [hy]; exact rI_eq _ _ _ _
      · rw [rI_nk (by omega)]; exact hM y y0 (by omega))
    refine ⟨M', ?_, hF.trans f, T⟩
    rw [lX11_orders_2_s, ← e]
    simp (disch := omega) only [iI_add, iI_sub, iI_mul, iI_neg, iI_nat, addm1, ixkI, ↓sbind, sbind, ↓bdS, bdS, ↓nm_eq, ↓jn_eq, iI_lt, iI_le, iI_eq, k_0, k_1, k_2, k_3, k_4, k_5, k_6, k_7, k_8, k_9, k_10, k_11, k_12, k_13, k_14, k_15, k_16, k_17, k_18, k_19, k_20, k_21, k_22, k_23, k_24, k_27, k_30, k_32, k_48, k_57, k_59, k_60, k_61, k_62, k_63, k_64, k_72, k_78, k_80, k_82, k_97, k_99, k_100, k_122, k_244, k_255, k_268, k_280, k_300, k_432, k_650, k_900, k_901, k_999, k_1700, k_2600, k_2601, k_2602, k_2603, k_2604, k_2610, k_2618, k_2682, k_2777, k_2844, k_2868, k_2880, k_3245, k_3250, k_9551, k_9999, k_65536, k_100000, k_999999, k_1000000, k_2147483647, lt_T, lt_F, le_T, le_F, eq_T, eq_F, ↓reduceIte, not_true_eq_false, not_false_eq_true, or_true, or_false, true_or, false_or, and_true, true_and, and_false, false_and, h7, vn_0]
theorem m_ord25 (w : WF F) {φ : Nat} (hφ : 100 < φ) : ∀ (n k : Nat) (M : Mem), (k : Int) ≤ bN F → bN F < n + k → MR t 0 F M → BM t F M → (∀ b : Int, 0 ≤ b → b < bN F → M.1 (t + 16) b.toNat = bI (oO F k b)) → (∀ j : Nat, j < k → M.1 (t + 17) j = iI (oP F j)) → ∃ M', lX11_orders_25 φ t n (iI (k : Nat)) M = some (bI (ff (fun k => oP F k.toNat == -1) (bN F) k == -1), M') ∧ Fr (Rg (t + 16) (t + 17)) M M' ∧ ((ff (fun k => oP F k.toNat == -1) (bN F) k == -1) = true → ∀ j : Nat, (j : Int) < bN F → M'.1 (t + 17) j = iI (oP F j)) := by
  have hn := bN_rng w
  intro n
  induction n with
  | zero => intro k M hk hn; omega
  | succ n ih =>
    intro k M hk hn hG hB ho hp
    have h7 := hB.2.1
    by_cases hlt : (k : Int) < bN F
    · have e37 := fun K => m_ord37 w hG hB ho hφ (iI (k : Nat)) K φ 0 (by omega) (by omega) (by omega)
      have hff : ff (fun b => !oO F k b && s_free F (oO F k) b) (bN F) 0 = oP F k := rfl
      rw [hff] at e37
      have hbd : -1 ≤ oP F k ∧ oP F k < bN F := s_ff_bd w (oO F k)
      by_cases hc : oP F k = -1
      · have ef : ff (fun k => oP F k.toNat == -1) (bN F) k = k := ff_t hlt (by show (oP F ((k : Nat) : Int).toNat == -1) = true; rw [Int.toNat_natCast, hc]; rfl)
        have ek : (((k : Nat) : Int) == -1) = false := by simp <;> omega
        refine ⟨M, ?_, Fr.refl M, fun q => ?_⟩
        · rw [lX11_orders_25_s, ef, ek]
          simp (disch := omega) only [k_0, k_1, iI_neg, h7, iI_le, lt_T, lt_F, le_T, le_F, eq_T, eq_F, ↓reduceIte, not_true_eq_false, not_false_eq_true, or_true, or_false, true_or, false_or, and_true, true_and, and_false, false_and, e37, iI_eq]
          rfl
        · rw [ef, ek] at q
          cases q
      · have ef : ff (fun k => oP F k.toNat == -1) (bN F) k = ff (fun k => oP F k.toNat == -1) (bN F) ((k + 1 : Nat) : Int) := ff_f hlt (by show (oP F ((k : Nat) : Int).toNat == -1) = false; rw [Int.toNat_natCast]; simpa using hc)
        have hF : Fr (Rg (t + 16) (t + 17)) M (stI (stI M (t + 16) (oP F k).toNat (iI 1)) (t + 17) k (iI (oP F k))) := Fr.stI ⟨by omega, by omega⟩ (Fr.stI ⟨by omega, by omega⟩ (Fr.refl M))
        obtain ⟨M', e, f, T⟩ := ih (k + 1) (stI (stI M (t + 16) (oP F k).toNat (iI 1)) (t + 17) k (iI (oP F k))) (by omega) (by omega) (hG.fr hF (fun q => by have := q.1; omega)) (hB.fr hF (by rw [rI_ng (by omega), rI_ng (by omega)]) (by rw [rI_ng (by omega), rI_ng (by omega)]) (fun x a q => by have := q.1; have := q.2; omega)) (fun b b0 b1 => by
          rw [oO_s, rI_ng (by omega)]
          by_cases hb : b = oP F k
          · rw [hb, rI_eq]
            simp [bI]
          · have hb' : (b == oP F k) = false := by simpa using hb
            rw [rI_nk (by omega), ho b b0 b1, hb', Bool.or_false]) (fun j hj => by
          by_cases hjk : j = k
          · rw [hjk, rI_eq]
          · rw [rI_nk hjk, rI_ng (by omega)]; exact hp j (by omega))
        rw [ef]
        refine ⟨M', ?_, hF.trans f, T⟩
        rw [lX11_orders_25_s, ← e]
        simp (disch := omega) only [k_0, k_1, iI_neg, h7, iI_le, lt_T, lt_F, le_T, le_F, eq_T, eq_F, ↓reduceIte, not_true_eq_false, not_false_eq_true, or_true, or_false, true_or, false_or, and_true, true_and, and_false, false_and, e37, iI_eq, ixkI, nm_eq, vn_1, iI_nat, Int.toNat_natCast, iI_add]
        rfl
    · have hkk : (k : Int) = bN F := by omega
      refine ⟨M, ?_, Fr.refl M, fun _ j hj => hp j (by omega)⟩
      rw [lX11_orders_25_s, hkk, ff_e]
      simp (disch := omega) only [iI_add, iI_sub, iI_mul, iI_neg, iI_nat, addm1, ixkI, ↓sbind, sbind, ↓bdS, bdS, ↓nm_eq, ↓jn_eq, iI_lt, iI_le, iI_eq, k_0, k_1, k_2, k_3, k_4, k_5, k_6, k_7, k_8, k_9, k_10, k_11, k_12, k_13, k_14, k_15, k_16, k_17, k_18, k_19, k_20, k_21, k_22, k_23, k_24, k_27, k_30, k_32, k_48, k_57, k_59, k_60, k_61, k_62, k_63, k_64, k_72, k_78, k_80, k_82, k_97, k_99, k_100, k_122, k_244, k_255, k_268, k_280, k_300, k_432, k_650, k_900, k_901, k_999, k_1700, k_2600, k_2601, k_2602, k_2603, k_2604, k_2610, k_2618, k_2682, k_2777, k_2844, k_2868, k_2880, k_3245, k_3250, k_9551, k_9999, k_65536, k_100000, k_999999, k_1000000, k_2147483647, lt_T, lt_F, le_T, le_F, eq_T, eq_F, ↓reduceIte, not_true_eq_false, not_false_eq_true, or_true, or_false, true_or, false_or, and_true, true_and, and_false, false_and, h7]
      rfl
theorem m_orders (w : WF F) (G : MR t 0 F M) (B : BM t F M) {φ : Nat} (hφ : 100 < φ) : ∃ M', fX11_orders φ t M = some (bI (s_ho F), M') ∧ Fr (Rg (t + 16) (t + 17)) M M' ∧ (s_ho F = true → ∀ j : Nat, (j : Int) < bN F → M'.1 (t + 17) j = iI (oP F j)) := by
  have hn := bN_rng w
  obtain ⟨M1, e1, f1, T1⟩ := m_ord2 (t := t) w (fun M2 => lX11_orders_25 φ t φ (iI 0) M2) φ 0 (by omega) (by omega) (by omega) M B.2.1 (fun y a b => by omega)
  have B1 := B.fr f1 (by rw [(f1 t (fun q => by have := q.1; omega)).1]) (by rw [(f1 t (fun q => by have := q.1; omega)).1]) (fun x a q => by have := q.1; have := q.2; omega)
  obtain ⟨M2, e2, f2, T2⟩ := m_ord25 (t := t) w hφ φ 0 M1 (by omega) (by omega) (G.fr f1 (fun q => by have := q.1; omega)) B1 (fun b b0 b1 => by rw [T1 b b0 b1]; rfl) (fun j hj => absurd hj (Nat.not_lt_zero j))
  refine ⟨M2, ?_, (f1.mono fun x q => ⟨q.1, by have := q.2; omega⟩).trans f2, T2⟩
  unfold fX11_orders
  simp only [k_0]
  exact e1.trans e2
end MQ
