/-! fractions: the class -/
theorem sm_3 (f : Int → Int) : sm f 3 = f 0 + f 1 + f 2 := by
  have e : sm f 3 = 0 + f 0 + f 1 + f 2 := rfl
  rw [e, Int.zero_add]
section CFs
variable {c g : Nat} {F : Fld} {M : Mem}
theorem s_all_t (w : WF F) {b t : Int} (h : s_all F b t = true) : ∀ k, 0 ≤ k → k < 3 → s_fst F b (F 6 t k) ≠ -1 := by
  intro k k0 k1
  unfold s_all at h
  rcases ff_rng (fun k => s_fst F b (F 6 t k) == -1) 3 0 (by omega) (by omega) with a | ⟨a1, a2, a3, a4⟩
  · have := a.2 k k0 k1
    simpa using this
  · rw [show (ff (fun k => s_fst F b (F 6 t k) == -1) 3 0 == -1) = false from by simp <;> omega] at h
    cases h
theorem s_depth_bd (w : WF F) {b t k : Int} (ht : 0 ≤ t ∧ t < F 0 2 0) (hk : 0 ≤ k ∧ k < 3) (hs : s_fst F b (F 6 t k) ≠ -1) : 0 ≤ s_depth F (F 6 t k) (s_fst F b (F 6 t k)) ∧ s_depth F (F 6 t k) (s_fst F b (F 6 t k)) ≤ 13986 := by
  have hc := w.co ht hk
  have z := s_fst_bd w (x := b) hc
  exact w.depth hc (by omega)
theorem s_tops_bd (w : WF F) {b t x y : Int} (ht : 0 ≤ t ∧ t < F 0 2 0) (hx : 0 ≤ x ∧ x ≤ 999) (hy : 0 ≤ y ∧ y ≤ 999) (h : s_all F b t = true) : -100000000000 ≤ s_tops F b t x y ∧ s_tops F b t x y ≤ 100000000000 := by
  unfold s_tops
  rw [sm_3]
  have m : ∀ k, 0 ≤ k → k < 3 → -(1996002 * 13986) ≤ s_wt F t k x y * s_depth F (F 6 t k) (s_fst F b (F 6 t k)) ∧ s_wt F t k x y * s_depth F (F 6 t k) (s_fst F b (F 6 t k)) ≤ 1996002 * 13986 := fun k k0 k1 => by
    have h1 := s_wt_bd w ht ⟨k0, k1⟩ hx hy
    have h2 := s_depth_bd w ht ⟨k0, k1⟩ (s_all_t w h k k0 k1)
    exact mul_bd (by omega) (by omega)
  have m0 := m 0 (by omega) (by omega)
  have m1 := m 1 (by omega) (by omega)
  have m2 := m 2 (by omega) (by omega)
  omega
theorem s_thks_bd (w : WF F) {b t x y : Int} (ht : 0 ≤ t ∧ t < F 0 2 0) (hx : 0 ≤ x ∧ x ≤ 999) (hy : 0 ≤ y ∧ y ≤ 999) : -100000000000 ≤ s_thks F b t x y ∧ s_thks F b t x y ≤ 100000000000 := by
  unfold s_thks
  rw [sm_3]
  have m : ∀ k, 0 ≤ k → k < 3 → -(1996002 * 999) ≤ s_wt F t k x y * s_thk F b (F 6 t k) ∧ s_wt F t k x y * s_thk F b (F 6 t k) ≤ 1996002 * 999 := fun k k0 k1 => by
    have h1 := s_wt_bd w ht ⟨k0, k1⟩ hx hy
    have h2 := s_thk_bd w (x := b) (w.co ht ⟨k0, k1⟩)
    exact mul_bd (by omega) (by omega)
  have m0 := m 0 (by omega) (by omega)
  have m1 := m 1 (by omega) (by omega)
  have m2 := m 2 (by omega) (by omega)
  omega
theorem s_six_bd (w : WF F) {b t : Int} (ht : 0 ≤ t ∧ t < F 0 2 0) : 0 ≤ s_six F b t ∧ s_six F b t ≤ 6000000000 := by
  unfold s_six
  have m : ∀ k, 0 ≤ k → k < 3 → 0 ≤ s_thk F b (F 6 t k) ∧ s_thk F b (F 6 t k) ≤ 999 := fun k k0 k1 => s_thk_bd w (w.co ht ⟨k0, k1⟩)
  have m0 := m 0 (by omega) (by omega)
  have m1 := m 1 (by omega) (by omega)
  have m2 := m 2 (by omega) (by omega)
  have e := sm_3 (fun k => s_thk F b (F 6 t k))
  have hb := s_abs_bd (w.tr ht)
  have h := mul_bd (u := sm (fun k => s_thk F b (F 6 t k)) 3) (v := s_abs (s_turn F t)) (A := 2997) (B := 1996002) (by rw [e]; omega) (by omega)
  have h0 : 0 ≤ sm (fun k => s_thk F b (F 6 t k)) 3 * s_abs (s_turn F t) := Int.mul_nonneg (by rw [e]; omega) hb.1
  omega
theorem cf_area (I : CI c g F M) {t : Int} (ht : -2147483648 ≤ t ∧ t < 2147483648) {φ : Nat} (hφ : 2000 < φ) : CF c g F M (fX10_area φ c (iI t) M) (q_area F t) := by
  refine ⟨M, QT.refl I, ?_⟩
  obtain ⟨hg, ho, hd, w, G, hB⟩ := I
  unfold fX10_area fX10_deny
  simp only [hg, ldr_ok ho, sbind]
  rw [c_isTriangle w G ht]
  by_cases h1 : 0 ≤ t ∧ t < F 0 2 0
  · have hb := s_abs_bd (w.tr h1)
    have et := c_tell (c := c) (M := M) (n := s_abs (s_turn F t)) (b := 2) (by omega) (by omega) (by omega) (φ := φ) (by omega)
    rw [show s_sg 2 * s_abs (s_turn F t) = s_abs (s_turn F t) from by unfold s_sg; rw [if_pos (by omega), Int.one_mul], show s_abs 2 = 2 from rfl] at et
    unfold fC at et
    rw [s_in_t h1, show q_area F t = .inl (fr (s_abs (s_turn F t)) 2) from if_pos h1]
    unfold fC
    simp (disch := omega) only [iI_add, iI_sub, iI_mul, iI_neg, iI_nat, addm1, ixkI, ↓sbind, sbind, ↓bdS, bdS, ↓nm_eq, ↓jn_eq, iI_lt, iI_le, iI_eq, k_0, k_1, k_2, k_3, k_4, k_5, k_6, k_7, k_8, k_9, k_10, k_11, k_12, k_13, k_14, k_15, k_16, k_17, k_18, k_19, k_20, k_21, k_22, k_23, k_24, k_27, k_30, k_32, k_48, k_57, k_59, k_60, k_61, k_62, k_63, k_64, k_72, k_78, k_80, k_82, k_97, k_99, k_100, k_122, k_244, k_255, k_268, k_280, k_300, k_432, k_650, k_900, k_901, k_999, k_1700, k_2600, k_2601, k_2602, k_2603, k_2604, k_2610, k_2618, k_2682, k_2777, k_2844, k_2868, k_2880, k_3245, k_3250, k_9551, k_9999, k_65536, k_100000, k_999999, k_1000000, k_2147483647, lt_T, lt_F, le_T, le_F, eq_T, eq_F, ↓reduceIte, not_true_eq_false, not_false_eq_true, or_true, or_false, true_or, false_or, and_true, true_and, and_false, false_and, bI_t, c_twiceArea w G h1, iI_l, kl_2, et, i01_b, if_true]
  · rw [s_in_f h1, show q_area F t = .inr 1 from if_neg h1]
    unfold fC
    simp (disch := omega) only [iI_add, iI_sub, iI_mul, iI_neg, iI_nat, addm1, ixkI, ↓sbind, sbind, ↓bdS, bdS, ↓nm_eq, ↓jn_eq, iI_lt, iI_le, iI_eq, k_0, k_1, k_2, k_3, k_4, k_5, k_6, k_7, k_8, k_9, k_10, k_11, k_12, k_13, k_14, k_15, k_16, k_17, k_18, k_19, k_20, k_21, k_22, k_23, k_24, k_27, k_30, k_32, k_48, k_57, k_59, k_60, k_61, k_62, k_63, k_64, k_72, k_78, k_80, k_82, k_97, k_99, k_100, k_122, k_244, k_255, k_268, k_280, k_300, k_432, k_650, k_900, k_901, k_999, k_1700, k_2600, k_2601, k_2602, k_2603, k_2604, k_2610, k_2618, k_2682, k_2777, k_2844, k_2868, k_2880, k_3245, k_3250, k_9551, k_9999, k_65536, k_100000, k_999999, k_1000000, k_2147483647, lt_T, lt_F, le_T, le_F, eq_T, eq_F, ↓reduceIte, not_true_eq_false, not_false_eq_true, or_true, or_false, true_or, false_or, and_true, true_and, and_false, false_and, bI_f, i01_a, if_true]
theorem cf_topAt (I : CI c g F M) {b x y : Int} (hb : -2147483648 ≤ b ∧ b < 2147483648) (hx : -2147483648 ≤ x ∧ x < 2147483648) (hy : -2147483648 ≤ y ∧ y < 2147483648) {φ : Nat} (hφ : 2000 < φ) : CF c g F M (fX10_topAt φ c (iI b) (iI x) (iI y) M) (q_topAt F b x y) := by
  obtain ⟨M1, e, Q, B, O⟩ := ci_isBed I hb hφ
  refine ⟨M1, Q, ?_⟩
  obtain ⟨hg, ho, hd, w, G, hB⟩ := Q.1
  unfold fX10_topAt fX10_deny
  rw [e]
  by_cases hc : 0 ≤ b ∧ b < bN F
  · have ep := c_isPoint (M := M1) hx hy
    unfold s_pt at ep
    rw [s_in_t hc]
    by_cases h1 : (0 ≤ x ∧ x ≤ 999) ∧ 0 ≤ y ∧ y ≤ 999
    · rw [decide_eq_true h1] at ep
      have et := c_triangleWith w G h1.1 h1.2 (φ := φ) (by omega)
      have hb3 := s_tri_bd w x y
      have n2 := w.n2
      by_cases hz : s_tri F x y = -1
      · rw [show q_topAt F b x y = .inr 6 from by unfold q_topAt; rw [if_pos ⟨hc, h1⟩, if_pos hz]]
        unfold fC
        rw [hz] at et
        simp (disch := omega) only [iI_add, iI_sub, iI_mul, iI_neg, iI_nat, addm1, ixkI, ↓sbind, sbind, ↓bdS, bdS, ↓nm_eq, ↓jn_eq, iI_lt, iI_le, iI_eq, k_0, k_1, k_2, k_3, k_4, k_5, k_6, k_7, k_8, k_9, k_10, k_11, k_12, k_13, k_14, k_15, k_16, k_17, k_18, k_19, k_20, k_21, k_22, k_23, k_24, k_27, k_30, k_32, k_48, k_57, k_59, k_60, k_61, k_62, k_63, k_64, k_72, k_78, k_80, k_82, k_97, k_99, k_100, k_122, k_244, k_255, k_268, k_280, k_300, k_432, k_650, k_900, k_901, k_999, k_1700, k_2600, k_2601, k_2602, k_2603, k_2604, k_2610, k_2618, k_2682, k_2777, k_2844, k_2868, k_2880, k_3245, k_3250, k_9551, k_9999, k_65536, k_100000, k_999999, k_1000000, k_2147483647, lt_T, lt_F, le_T, le_F, eq_T, eq_F, ↓reduceIte, not_true_eq_false, not_false_eq_true, or_true, or_false, true_or, false_or, and_true, true_and, and_false, false_and, bI_t, ep, hg, ldr_ok ho, et, i01_a, if_true]
      · have ht : 0 ≤ s_tri F x y ∧ s_tri F x y < F 0 2 0 := by omega
        have ea := c_hasAtCorners (c := c) w G hg ho B hc ht (φ := φ) (by omega)
        cases hs : s_all F b (s_tri F x y)
        · rw [hs] at ea
          rw [show q_topAt F b x y = .inr 7 from by unfold q_topAt; rw [if_pos ⟨hc, h1⟩, if_neg hz, hs]; rfl]
          unfold fC
          simp (disch := omega) only [iI_add, iI_sub, iI_mul, iI_neg, iI_nat, addm1, ixkI, ↓sbind, sbind, ↓bdS, bdS, ↓nm_eq, ↓jn_eq, iI_lt, iI_le, iI_eq, k_0, k_1, k_2, k_3, k_4, k_5, k_6, k_7, k_8, k_9, k_10, k_11, k_12, k_13, k_14, k_15, k_16, k_17, k_18, k_19, k_20, k_21, k_22, k_23, k_24, k_27, k_30, k_32, k_48, k_57, k_59, k_60, k_61, k_62, k_63, k_64, k_72, k_78, k_80, k_82, k_97, k_99, k_100, k_122, k_244, k_255, k_268, k_280, k_300, k_432, k_650, k_900, k_901, k_999, k_1700, k_2600, k_2601, k_2602, k_2603, k_2604, k_2610, k_2618, k_2682, k_2777, k_2844, k_2868, k_2880, k_3245, k_3250, k_9551, k_9999, k_65536, k_100000, k_999999, k_1000000, k_2147483647, lt_T, lt_F, le_T, le_F, eq_T, eq_F, ↓reduceIte, not_true_eq_false, not_false_eq_true, or_true, or_false, true_or, false_or, and_true, true_and, and_false, false_and, bI_t, bI_f, ep, hg, ldr_ok ho, et, ea, i01_a, if_true]
        · rw [hs] at ea
          have hb2 := s_tops_bd w ht h1.1 h1.2 hs
          have hbt := w.tr ht
          have ett := c_tell (c := c) (M := M1) (n := s_tops F b (s_tri F x y) x y) (b := s_turn F (s_tri F x y)) (by omega) (by omega) (w.tn ht) (φ := φ) (by omega)
          unfold fC at ett
          have key := lup (N := 3) (P := fun n i => ∀ K, lX10_topAt_69 K φ c (iI b) (iI x) (iI y) (iI (s_tri F x y)) M1 n (lI (sm (fun k => s_wt F (s_tri F x y) k x y * s_depth F (F 6 (s_tri F x y) k) (s_fst F b (F 6 (s_tri F x y) k))) i)) (iI i) = K (lI (s_tops F b (s_tri F x y) x y)))
            (fun n K => by
              rw [lX10_topAt_69_s]
              simp (disch := omega) only [iI_add, iI_sub, iI_mul, iI_neg, iI_nat, addm1, ixkI, ↓sbind, sbind, ↓bdS, bdS, ↓nm_eq, ↓jn_eq, iI_lt, iI_le, iI_eq, k_0, k_1, k_2, k_3, k_4, k_5, k_6, k_7, k_8, k_9, k_10, k_11, k_12, k_13, k_14, k_15, k_16, k_17, k_18, k_19, k_20, k_21, k_22, k_23, k_24, k_27, k_30, k_32, k_48, k_57, k_59, k_60, k_61, k_62, k_63, k_64, k_72, k_78, k_80, k_82, k_97, k_99, k_100, k_122, k_244, k_255, k_268, k_280, k_300, k_432, k_650, k_900, k_901, k_999, k_1700, k_2600, k_2601, k_2602, k_2603, k_2604, k_2610, k_2618, k_2682, k_2777, k_2844, k_2868, k_2880, k_3245, k_3250, k_9551, k_9999, k_65536, k_100000, k_999999, k_1000000, k_2147483647, lt_T, lt_F, le_T, le_F, eq_T, eq_F, ↓reduceIte, not_true_eq_false, not_false_eq_true, or_true, or_false, true_or, false_or, and_true, true_and, and_false, false_and]
              rfl)
            (fun n i i0 i1 ih K => by
              have ew := c_weight (x := x) (y := y) w G ht ⟨i0, i1⟩
              have ed := c_depthAtCorner (c := c) w G hg ho B hc ht ⟨i0, i1⟩ (s_all_t w hs i i0 i1) (φ := φ) (by omega)
              have wb := s_wt_bd w ht ⟨i0, i1⟩ h1.1 h1.2
              rw [lX10_topAt_69_s, ← ih K, sm_s _ i0]
              simp (disch := omega) only [iI_add, iI_sub, iI_mul, iI_neg, iI_nat, addm1, ixkI, ↓sbind, sbind, ↓bdS, bdS, ↓nm_eq, ↓jn_eq, iI_lt, iI_le, iI_eq, k_0, k_1, k_2, k_3, k_4, k_5, k_6, k_7, k_8, k_9, k_10, k_11, k_12, k_13, k_14, k_15, k_16, k_17, k_18, k_19, k_20, k_21, k_22, k_23, k_24, k_27, k_30, k_32, k_48, k_57, k_59, k_60, k_61, k_62, k_63, k_64, k_72, k_78, k_80, k_82, k_97, k_99, k_100, k_122, k_244, k_255, k_268, k_280, k_300, k_432, k_650, k_900, k_901, k_999, k_1700, k_2600, k_2601, k_2602, k_2603, k_2604, k_2610, k_2618, k_2682, k_2777, k_2844, k_2868, k_2880, k_3245, k_3250, k_9551, k_9999, k_65536, k_100000, k_999999, k_1000000, k_2147483647, lt_T, lt_F, le_T, le_F, eq_T, eq_F, ↓reduceIte, not_true_eq_false, not_false_eq_true, or_true, or_false, true_or, false_or, and_true, true_and, and_false, false_and, hg, ldr_ok ho, ew, ed, iI_l, lI_mul, lI_add])
            φ 0 (by omega) (by omega) (by omega)
          rw [sm_0] at key
          rw [show q_topAt F b x y = .inl (fr (s_sg (s_turn F (s_tri F x y)) * s_tops F b (s_tri F x y) x y) (s_abs (s_turn F (s_tri F x y)))) from by unfold q_topAt; rw [if_pos ⟨hc, h1⟩, if_neg hz, hs]; rfl]
          unfold fC
          simp (disch := omega) only [iI_add, iI_sub, iI_mul, iI_neg, iI_nat, addm1, ixkI, ↓sbind, sbind, ↓bdS, bdS, ↓nm_eq, ↓jn_eq, iI_lt, iI_le, iI_eq, k_0, k_1, k_2, k_3, k_4, k_5, k_6, k_7, k_8, k_9, k_10, k_11, k_12, k_13, k_14, k_15, k_16, k_17, k_18, k_19, k_20, k_21, k_22, k_23, k_24, k_27, k_30, k_32, k_48, k_57, k_59, k_60, k_61, k_62, k_63, k_64, k_72, k_78, k_80, k_82, k_97, k_99, k_100, k_122, k_244, k_255, k_268, k_280, k_300, k_432, k_650, k_900, k_901, k_999, k_1700, k_2600, k_2601, k_2602, k_2603, k_2604, k_2610, k_2618, k_2682, k_2777, k_2844, k_2868, k_2880, k_3245, k_3250, k_9551, k_9999, k_65536, k_100000, k_999999, k_1000000, k_2147483647, lt_T, lt_F, le_T, le_F, eq_T, eq_F, ↓reduceIte, not_true_eq_false, not_false_eq_true, or_true, or_false, true_or, false_or, and_true, true_and, and_false, false_and, bI_t, ep, hg, ldr_ok ho, et, ea, kl_0, key, c_turn w G ht, iI_l, ett, i01_b, if_true]
    · rw [decide_eq_false h1] at ep
      rw [show q_topAt F b x y = .inr 1 from if_neg (fun q => h1 q.2)]
      unfold fC
      simp (disch := omega) only [iI_add, iI_sub, iI_mul, iI_neg, iI_nat, addm1, ixkI, ↓sbind, sbind, ↓bdS, bdS, ↓nm_eq, ↓jn_eq, iI_lt, iI_le, iI_eq, k_0, k_1, k_2, k_3, k_4, k_5, k_6, k_7, k_8, k_9, k_10, k_11, k_12, k_13, k_14, k_15, k_16, k_17, k_18, k_19, k_20, k_21, k_22, k_23, k_24, k_27, k_30, k_32, k_48, k_57, k_59, k_60, k_61, k_62, k_63, k_64, k_72, k_78, k_80, k_82, k_97, k_99, k_100, k_122, k_244, k_255, k_268, k_280, k_300, k_432, k_650, k_900, k_901, k_999, k_1700, k_2600, k_2601, k_2602, k_2603, k_2604, k_2610, k_2618, k_2682, k_2777, k_2844, k_2868, k_2880, k_3245, k_3250, k_9551, k_9999, k_65536, k_100000, k_999999, k_1000000, k_2147483647, lt_T, lt_F, le_T, le_F, eq_T, eq_F, ↓reduceIte, not_true_eq_false, not_false_eq_true, or_true, or_false, true_or, false_or, and_true, true_and, and_false, false_and, bI_t, bI_f, ep, i01_a, if_true]
  · rw [s_in_f hc, show q_topAt F b x y = .inr 1 from if_neg (fun q => hc q.1)]
    unfold fC
    simp (disch := omega) only [iI_add, iI_sub, iI_mul, iI_neg, iI_nat, addm1, ixkI, ↓sbind, sbind, ↓bdS, bdS, ↓nm_eq, ↓jn_eq, iI_lt, iI_le, iI_eq, k_0, k_1, k_2, k_3, k_4, k_5, k_6, k_7, k_8, k_9, k_10, k_11, k_12, k_13, k_14, k_15, k_16, k_17, k_18, k_19, k_20, k_21, k_22, k_23, k_24, k_27, k_30, k_32, k_48, k_57, k_59, k_60, k_61, k_62, k_63, k_64, k_72, k_78, k_80, k_82, k_97, k_99, k_100, k_122, k_244, k_255, k_268, k_280, k_300, k_432, k_650, k_900, k_901, k_999, k_1700, k_2600, k_2601, k_2602, k_2603, k_2604, k_2610, k_2618, k_2682, k_2777, k_2844, k_2868, k_2880, k_3245, k_3250, k_9551, k_9999, k_65536, k_100000, k_999999, k_1000000, k_2147483647, lt_T, lt_F, le_T, le_F, eq_T, eq_F, ↓reduceIte, not_true_eq_false, not_false_eq_true, or_true, or_false, true_or, false_or, and_true, true_and, and_false, false_and, bI_f, i01_a, if_true]
theorem cf_thickAt (I : CI c g F M) {b x y : Int} (hb : -2147483648 ≤ b ∧ b < 2147483648) (hx : -2147483648 ≤ x ∧ x < 2147483648) (hy : -2147483648 ≤ y ∧ y < 2147483648) {φ : Nat} (hφ : 2000 < φ) : CF c g F M (fX10_thickAt φ c (iI b) (iI x) (iI y) M) (q_thickAt F b x y) := by
  obtain ⟨M1, e, Q, B, O⟩ := ci_isBed I hb hφ
  refine ⟨M1, Q, ?_⟩
  obtain ⟨hg, ho, hd, w, G, hB⟩ := Q.1
  unfold fX10_thickAt fX10_deny
  rw [e]
  by_cases hc : 0 ≤ b ∧ b < bN F
  · have ep := c_isPoint (M := M1) hx hy
    unfold s_pt at ep
    rw [s_in_t hc]
    by_cases h1 : (0 ≤ x ∧ x ≤ 999) ∧ 0 ≤ y ∧ y ≤ 999
    · rw [decide_eq_true h1] at ep
      have et := c_triangleWith w G h1.1 h1.2 (φ := φ) (by omega)
      have hb3 := s_tri_bd w x y
      have n2 := w.n2
      by_cases hz : s_tri F x y = -1
      · rw [show q_thickAt F b x y = .inr 6 from by unfold q_thickAt; rw [if_pos ⟨hc, h1⟩, if_pos hz]]
        unfold fC
        rw [hz] at et
        simp (disch := omega) only [iI_add, iI_sub, iI_mul, iI_neg, iI_nat, addm1, ixkI, ↓sbind, sbind, ↓bdS, bdS, ↓nm_eq, ↓jn_eq, iI_lt, iI_le, iI_eq, k_0, k_1, k_2, k_3, k_4, k_5, k_6, k_7, k_8, k_9, k_10, k_11, k_12, k_13, k_14, k_15, k_16, k_17, k_18, k_19, k_20, k_21, k_22, k_23, k_24, k_27, k_30, k_32, k_48, k_57, k_59, k_60, k_61, k_62, k_63, k_64, k_72, k_78, k_80, k_82, k_97, k_99, k_100, k_122, k_244, k_255, k_268, k_280, k_300, k_432, k_650, k_900, k_901, k_999, k_1700, k_2600, k_2601, k_2602, k_2603, k_2604, k_2610, k_2618, k_2682, k_2777, k_2844, k_2868, k_2880, k_3245, k_3250, k_9551, k_9999, k_65536, k_100000, k_999999, k_1000000, k_2147483647, lt_T, lt_F, le_T, le_F, eq_T, eq_F, ↓reduceIte, not_true_eq_false, not_false_eq_true, or_true, or_false, true_or, false_or, and_true, true_and, and_false, false_and, bI_t, ep, hg, ldr_ok ho, et, i01_a, if_true]
      · have ht : 0 ≤ s_tri F x y ∧ s_tri F x y < F 0 2 0 := by omega
        have hb2 := s_thks_bd (b := b) w ht h1.1 h1.2
        have hbt := w.tr ht
        have ett := c_tell (c := c) (M := M1) (n := s_thks F b (s_tri F x y) x y) (b := s_turn F (s_tri F x y)) (by omega) (by omega) (w.tn ht) (φ := φ) (by omega)
        unfold fC at ett
        have key := lup (N := 3) (P := fun n i => ∀ K, lX10_thickAt_52 K c (iI b) (iI x) (iI y) (iI (s_tri F x y)) M1 n (lI (sm (fun k => s_wt F (s_tri F x y) k x y * s_thk F b (F 6 (s_tri F x y) k)) i)) (iI i) = K (lI (s_thks F b (s_tri F x y) x y)))
          (fun n K => by
            rw [lX10_thickAt_52_s]
            simp (disch := omega) only [iI_add, iI_sub, iI_mul, iI_neg, iI_nat, addm1, ixkI, ↓sbind, sbind, ↓bdS, bdS, ↓nm_eq, ↓jn_eq, iI_lt, iI_le, iI_eq, k_0, k_1, k_2, k_3, k_4, k_5, k_6, k_7, k_8, k_9, k_10, k_11, k_12, k_13, k_14, k_15, k_16, k_17, k_18, k_19, k_20, k_21, k_22, k_23, k_24, k_27, k_30, k_32, k_48, k_57, k_59, k_60, k_61, k_62, k_63, k_64, k_72, k_78, k_80, k_82, k_97, k_99, k_100, k_122, k_244, k_255, k_268, k_280, k_300, k_432, k_650, k_900, k_901, k_999, k_1700, k_2600, k_2601, k_2602, k_2603, k_2604, k_2610, k_2618, k_2682, k_2777, k_2844, k_2868, k_2880, k_3245, k_3250, k_9551, k_9999, k_65536, k_100000, k_999999, k_1000000, k_2147483647, lt_T, lt_F, le_T, le_F, eq_T, eq_F, ↓reduceIte, not_true_eq_false, not_false_eq_true, or_true, or_false, true_or, false_or, and_true, true_and, and_false, false_and]
            rfl)
          (fun n i i0 i1 ih K => by
            have ew := c_weight (x := x) (y := y) w G ht ⟨i0, i1⟩
            have ed := c_thickAtCorner (c := c) w G hg ho B hc ht ⟨i0, i1⟩
            have wb := s_wt_bd w ht ⟨i0, i1⟩ h1.1 h1.2
            rw [lX10_thickAt_52_s, ← ih K, sm_s _ i0]
            simp (disch := omega) only [iI_add, iI_sub, iI_mul, iI_neg, iI_nat, addm1, ixkI, ↓sbind, sbind, ↓bdS, bdS, ↓nm_eq, ↓jn_eq, iI_lt, iI_le, iI_eq, k_0, k_1, k_2, k_3, k_4, k_5, k_6, k_7, k_8, k_9, k_10, k_11, k_12, k_13, k_14, k_15, k_16, k_17, k_18, k_19, k_20, k_21, k_22, k_23, k_24, k_27, k_30, k_32, k_48, k_57, k_59, k_60, k_61, k_62, k_63, k_64, k_72, k_78, k_80, k_82, k_97, k_99, k_100, k_122, k_244, k_255, k_268, k_280, k_300, k_432, k_650, k_900, k_901, k_999, k_1700, k_2600, k_2601, k_2602, k_2603, k_2604, k_2610, k_2618, k_2682, k_2777, k_2844, k_2868, k_2880, k_3245, k_3250, k_9551, k_9999, k_65536, k_100000, k_999999, k_1000000, k_2147483647, lt_T, lt_F, le_T, le_F, eq_T, eq_F, ↓reduceIte, not_true_eq_false, not_false_eq_true, or_true, or_false, true_or, false_or, and_true, true_and, and_false, false_and, hg, ldr_ok ho, ew, ed, iI_l, lI_mul, lI_add])
          φ 0 (by omega) (by omega) (by omega)
        rw [sm_0] at key
        rw [show q_thickAt F b x y = .inl (fr (s_sg (s_turn F (s_tri F x y)) * s_thks F b (s_tri F x y) x y) (s_abs (s_turn F (s_tri F x y)))) from by unfold q_thickAt; rw [if_pos ⟨hc, h1⟩, if_neg hz]]
        unfold fC
        simp (disch := omega) only [iI_add, iI_sub, iI_mul, iI_neg, iI_nat, addm1, ixkI, ↓sbind, sbind, ↓bdS, bdS, ↓nm_eq, ↓jn_eq, iI_lt, iI_le, iI_eq, k_0, k_1, k_2, k_3, k_4, k_5, k_6, k_7, k_8, k_9, k_10, k_11, k_12, k_13, k_14, k_15, k_16, k_17, k_18, k_19, k_20, k_21, k_22, k_23, k_24, k_27, k_30, k_32, k_48, k_57, k_59, k_60, k_61, k_62, k_63, k_64, k_72, k_78, k_80, k_82, k_97, k_99, k_100, k_122, k_244, k_255, k_268, k_280, k_300, k_432, k_650, k_900, k_901, k_999, k_1700, k_2600, k_2601, k_2602, k_2603, k_2604, k_2610, k_2618, k_2682, k_2777, k_2844, k_2868, k_2880, k_3245, k_3250, k_9551, k_9999, k_65536, k_100000, k_999999, k_1000000, k_2147483647, lt_T, lt_F, le_T, le_F, eq_T, eq_F, ↓reduceIte, not_true_eq_false, not_false_eq_true, or_true, or_false, true_or, false_or, and_true, true_and, and_false, false_and, bI_t, ep, hg, ldr_ok ho, et, kl_0, key, c_turn w G ht, iI_l, ett, i01_b, if_true]
    · rw [decide_eq_false h1] at ep
      rw [show q_thickAt F b x y = .inr 1 from if_neg (fun q => h1 q.2)]
      unfold fC
      simp (disch := omega) only [iI_add, iI_sub, iI_mul, iI_neg, iI_nat, addm1, ixkI, ↓sbind, sbind, ↓bdS, bdS, ↓nm_eq, ↓jn_eq, iI_lt, iI_le, iI_eq, k_0, k_1, k_2, k_3, k_4, k_5, k_6, k_7, k_8, k_9, k_10, k_11, k_12, k_13, k_14, k_15, k_16, k_17, k_18, k_19, k_20, k_21, k_22, k_23, k_24, k_27, k_30, k_32, k_48, k_57, k_59, k_60, k_61, k_62, k_63, k_64, k_72, k_78, k_80, k_82, k_97, k_99, k_100, k_122, k_244, k_255, k_268, k_280, k_300, k_432, k_650, k_900, k_901, k_999, k_1700, k_2600, k_2601, k_2602, k_2603, k_2604, k_2610, k_2618, k_2682, k_2777, k_2844, k_2868, k_2880, k_3245, k_3250, k_9551, k_9999, k_65536, k_100000, k_999999, k_1000000, k_2147483647, lt_T, lt_F, le_T, le_F, eq_T, eq_F, ↓reduceIte, not_true_eq_false, not_false_eq_true, or_true, or_false, true_or, false_or, and_true, true_and, and_false, false_and, bI_t, bI_f, ep, i01_a, if_true]
  · rw [s_in_f hc, show q_thickAt F b x y = .inr 1 from if_neg (fun q => hc q.1)]
    unfold fC
    simp (disch := omega) only [iI_add, iI_sub, iI_mul, iI_neg, iI_nat, addm1, ixkI, ↓sbind, sbind, ↓bdS, bdS, ↓nm_eq, ↓jn_eq, iI_lt, iI_le, iI_eq, k_0, k_1, k_2, k_3, k_4, k_5, k_6, k_7, k_8, k_9, k_10, k_11, k_12, k_13, k_14, k_15, k_16, k_17, k_18, k_19, k_20, k_21, k_22, k_23, k_24, k_27, k_30, k_32, k_48, k_57, k_59, k_60, k_61, k_62, k_63, k_64, k_72, k_78, k_80, k_82, k_97, k_99, k_100, k_122, k_244, k_255, k_268, k_280, k_300, k_432, k_650, k_900, k_901, k_999, k_1700, k_2600, k_2601, k_2602, k_2603, k_2604, k_2610, k_2618, k_2682, k_2777, k_2844, k_2868, k_2880, k_3245, k_3250, k_9551, k_9999, k_65536, k_100000, k_999999, k_1000000, k_2147483647, lt_T, lt_F, le_T, le_F, eq_T, eq_F, ↓reduceIte, not_true_eq_false, not_false_eq_true, or_true, or_false, true_or, false_or, and_true, true_and, and_false, false_and, bI_f, i01_a, if_true]
theorem sg_six (n : Int) : s_sg 6 * n = n := by
  unfold s_sg
  rw [if_pos (by omega), Int.one_mul]
theorem cf_volume (I : CI c g F M) {b t : Int} (hb : -2147483648 ≤ b ∧ b < 2147483648) (ht : -2147483648 ≤ t ∧ t < 2147483648) {φ : Nat} (hφ : 2000 < φ) : CF c g F M (fX10_volume φ c (iI b) (iI t) M) (q_volume F b t) := by
  obtain ⟨M1, e, Q, B, O⟩ := ci_isBed I hb hφ
  refine ⟨M1, Q, ?_⟩
  obtain ⟨hg, ho, hd, w, G, hB⟩ := Q.1
  unfold fX10_volume fX10_deny
  rw [e]
  by_cases hc : 0 ≤ b ∧ b < bN F
  · have ei := c_isTriangle w G ht
    rw [s_in_t hc]
    by_cases h1 : 0 ≤ t ∧ t < F 0 2 0
    · rw [s_in_t h1] at ei
      have ea := c_isSplit w G h1 (φ := φ) (by omega)
      cases hs : s_split F t
      · rw [hs] at ea
        have ex := c_sixfoldVolume (c := c) w G hg ho B hc h1 (φ := φ) (by omega)
        have hb2 := s_six_bd (b := b) w h1
        have ett := c_tell (c := c) (M := M1) (n := s_six F b t) (b := 6) (by omega) (by omega) (by omega) (φ := φ) (by omega)
        rw [sg_six, show s_abs 6 = 6 from rfl] at ett
        unfold fC at ett
        rw [show q_volume F b t = .inl (fr (s_six F b t) 6) from by unfold q_volume; rw [if_pos ⟨hc, h1⟩, hs]; rfl]
        unfold fC
        simp (disch := omega) only [iI_add, iI_sub, iI_mul, iI_neg, iI_nat, addm1, ixkI, ↓sbind, sbind, ↓bdS, bdS, ↓nm_eq, ↓jn_eq, iI_lt, iI_le, iI_eq, k_0, k_1, k_2, k_3, k_4, k_5, k_6, k_7, k_8, k_9, k_10, k_11, k_12, k_13, k_14, k_15, k_16, k_17, k_18, k_19, k_20, k_21, k_22, k_23, k_24, k_27, k_30, k_32, k_48, k_57, k_59, k_60, k_61, k_62, k_63, k_64, k_72, k_78, k_80, k_82, k_97, k_99, k_100, k_122, k_244, k_255, k_268, k_280, k_300, k_432, k_650, k_900, k_901, k_999, k_1700, k_2600, k_2601, k_2602, k_2603, k_2604, k_2610, k_2618, k_2682, k_2777, k_2844, k_2868, k_2880, k_3245, k_3250, k_9551, k_9999, k_65536, k_100000, k_999999, k_1000000, k_2147483647, lt_T, lt_F, le_T, le_F, eq_T, eq_F, ↓reduceIte, not_true_eq_false, not_false_eq_true, or_true, or_false, true_or, false_or, and_true, true_and, and_false, false_and, bI_t, bI_f, hg, ldr_ok ho, ei, ea, ex, kl_6, ett, i01_b, if_true]
      · rw [hs] at ea
        rw [show q_volume F b t = .inr 7 from by unfold q_volume; rw [if_pos ⟨hc, h1⟩, hs]; rfl]
        unfold fC
        simp (disch := omega) only [iI_add, iI_sub, iI_mul, iI_neg, iI_nat, addm1, ixkI, ↓sbind, sbind, ↓bdS, bdS, ↓nm_eq, ↓jn_eq, iI_lt, iI_le, iI_eq, k_0, k_1, k_2, k_3, k_4, k_5, k_6, k_7, k_8, k_9, k_10, k_11, k_12, k_13, k_14, k_15, k_16, k_17, k_18, k_19, k_20, k_21, k_22, k_23, k_24, k_27, k_30, k_32, k_48, k_57, k_59, k_60, k_61, k_62, k_63, k_64, k_72, k_78, k_80, k_82, k_97, k_99, k_100, k_122, k_244, k_255, k_268, k_280, k_300, k_432, k_650, k_900, k_901, k_999, k_1700, k_2600, k_2601, k_2602, k_2603, k_2604, k_2610, k_2618, k_2682, k_2777, k_2844, k_2868, k_2880, k_3245, k_3250, k_9551, k_9999, k_65536, k_100000, k_999999, k_1000000, k_2147483647, lt_T, lt_F, le_T, le_F, eq_T, eq_F, ↓reduceIte, not_true_eq_false, not_false_eq_true, or_true, or_false, true_or, false_or, and_true, true_and, and_false, false_and, bI_t, hg, ldr_ok ho, ei, ea, i01_a, if_true]
    · rw [s_in_f h1] at ei
      rw [show q_volume F b t = .inr 1 from if_neg (fun q => h1 q.2)]
      unfold fC
      simp (disch := omega) only [iI_add, iI_sub, iI_mul, iI_neg, iI_nat, addm1, ixkI, ↓sbind, sbind, ↓bdS, bdS, ↓nm_eq, ↓jn_eq, iI_lt, iI_le, iI_eq, k_0, k_1, k_2, k_3, k_4, k_5, k_6, k_7, k_8, k_9, k_10, k_11, k_12, k_13, k_14, k_15, k_16, k_17, k_18, k_19, k_20, k_21, k_22, k_23, k_24, k_27, k_30, k_32, k_48, k_57, k_59, k_60, k_61, k_62, k_63, k_64, k_72, k_78, k_80, k_82, k_97, k_99, k_100, k_122, k_244, k_255, k_268, k_280, k_300, k_432, k_650, k_900, k_901, k_999, k_1700, k_2600, k_2601, k_2602, k_2603, k_2604, k_2610, k_2618, k_2682, k_2777, k_2844, k_2868, k_2880, k_3245, k_3250, k_9551, k_9999, k_65536, k_100000, k_999999, k_1000000, k_2147483647, lt_T, lt_F, le_T, le_F, eq_T, eq_F, ↓reduceIte, not_true_eq_false, not_false_eq_true, or_true, or_false, true_or, false_or, and_true, true_and, and_false, false_and, bI_t, bI_f, hg, ldr_ok ho, ei, i01_a, if_true]
  · rw [s_in_f hc, show q_volume F b t = .inr 1 from if_neg (fun q => hc q.1)]
    unfold fC
    simp (disch := omega) only [iI_add, iI_sub, iI_mul, iI_neg, iI_nat, addm1, ixkI, ↓sbind, sbind, ↓bdS, bdS, ↓nm_eq, ↓jn_eq, iI_lt, iI_le, iI_eq, k_0, k_1, k_2, k_3, k_4, k_5, k_6, k_7, k_8, k_9, k_10, k_11, k_12, k_13, k_14, k_15, k_16, k_17, k_18, k_19, k_20, k_21, k_22, k_23, k_24, k_27, k_30, k_32, k_48, k_57, k_59, k_60, k_61, k_62, k_63, k_64, k_72, k_78, k_80, k_82, k_97, k_99, k_100, k_122, k_244, k_255, k_268, k_280, k_300, k_432, k_650, k_900, k_901, k_999, k_1700, k_2600, k_2601, k_2602, k_2603, k_2604, k_2610, k_2618, k_2682, k_2777, k_2844, k_2868, k_2880, k_3245, k_3250, k_9551, k_9999, k_65536, k_100000, k_999999, k_1000000, k_2147483647, lt_T, lt_F, le_T, le_F, eq_T, eq_F, ↓reduceIte, not_true_eq_false, not_false_eq_true, or_true, or_false, true_or, false_or, and_true, true_and, and_false, false_and, bI_f, i01_a, if_true]
theorem s_vols_bd (w : WF F) (b i : Int) (i0 : 0 ≤ i) (i1 : i ≤ F 0 2 0) : 0 ≤ sm (fun t => if s_split F t then 0 else s_six F b t) i ∧ sm (fun t => if s_split F t then 0 else s_six F b t) i ≤ i * 6000000000 := by
  refine sm_bd (f := fun t => if s_split F t then 0 else s_six F b t) (N := F 0 2 0) (fun t t0 t1 => ?_) i i0 i1
  have h := s_six_bd (b := b) w ⟨t0, t1⟩
  by_cases hs : s_split F t = true
  · simp only [hs, if_true]; omega
  · simp only [hs, if_false]; exact h
theorem cf_volumeOf (I : CI c g F M) {b : Int} (hb : -2147483648 ≤ b ∧ b < 2147483648) {φ : Nat} (hφ : 2000 < φ) : CF c g F M (fX10_volumeOf φ c (iI b) M) (q_volumeOf F b) := by
  obtain ⟨M1, e, Q, B, O⟩ := ci_isBed I hb hφ
  refine ⟨M1, Q, ?_⟩
  obtain ⟨hg, ho, hd, w, G, hB⟩ := Q.1
  have n2 := w.n2
  unfold fX10_volumeOf
  rw [e]
  by_cases hc : 0 ≤ b ∧ b < bN F
  · rw [s_in_t hc, show q_volumeOf F b = .inl (fr (s_vols F b) 6) from if_pos hc]
    have key := lup (N := F 0 2 0) (P := fun n i => lX10_volumeOf_19 φ c (iI b) M1 n (lI (sm (fun t => if s_split F t then 0 else s_six F b t) i)) (iI i) = fC c M1 (.inl (fr (s_vols F b) 6)))
      (fun n => by
        have hb2 := s_vols_bd w b (F 0 2 0) n2.1 (Int.le_refl _)
        have ett := c_tell (c := c) (M := M1) (n := s_vols F b) (b := 6) (by unfold s_vols; omega) (by omega) (by omega) (φ := φ) (by omega)
        rw [sg_six, show s_abs 6 = 6 from rfl] at ett
        have ev : sm (fun t => if s_split F t then 0 else s_six F b t) (F 0 2 0) = s_vols F b := rfl
        rw [lX10_volumeOf_19_s, ev]
        unfold fC at ett ⊢
        simp (disch := omega) only [iI_add, iI_sub, iI_mul, iI_neg, iI_nat, addm1, ixkI, ↓sbind, sbind, ↓bdS, bdS, ↓nm_eq, ↓jn_eq, iI_lt, iI_le, iI_eq, k_0, k_1, k_2, k_3, k_4, k_5, k_6, k_7, k_8, k_9, k_10, k_11, k_12, k_13, k_14, k_15, k_16, k_17, k_18, k_19, k_20, k_21, k_22, k_23, k_24, k_27, k_30, k_32, k_48, k_57, k_59, k_60, k_61, k_62, k_63, k_64, k_72, k_78, k_80, k_82, k_97, k_99, k_100, k_122, k_244, k_255, k_268, k_280, k_300, k_432, k_650, k_900, k_901, k_999, k_1700, k_2600, k_2601, k_2602, k_2603, k_2604, k_2610, k_2618, k_2682, k_2777, k_2844, k_2868, k_2880, k_3245, k_3250, k_9551, k_9999, k_65536, k_100000, k_999999, k_1000000, k_2147483647, lt_T, lt_F, le_T, le_F, eq_T, eq_F, ↓reduceIte, not_true_eq_false, not_false_eq_true, or_true, or_false, true_or, false_or, and_true, true_and, and_false, false_and, hg, ldr_ok ho, G.n2, kl_6, ett, i01_b, if_true])
      (fun n i i0 i1 ih => by
        have ea := c_isSplit w G ⟨i0, i1⟩ (φ := φ) (by omega)
        have ex := c_sixfoldVolume (c := c) w G hg ho B hc ⟨i0, i1⟩ (φ := φ) (by omega)
        rw [lX10_volumeOf_19_s, ← ih, sm_s _ i0]
        cases hs : s_split F i
        · rw [hs] at ea
          simp (disch := omega) only [iI_add, iI_sub, iI_mul, iI_neg, iI_nat, addm1, ixkI, ↓sbind, sbind, ↓bdS, bdS, ↓nm_eq, ↓jn_eq, iI_lt, iI_le, iI_eq, k_0, k_1, k_2, k_3, k_4, k_5, k_6, k_7, k_8, k_9, k_10, k_11, k_12, k_13, k_14, k_15, k_16, k_17, k_18, k_19, k_20, k_21, k_22, k_23, k_24, k_27, k_30, k_32, k_48, k_57, k_59, k_60, k_61, k_62, k_63, k_64, k_72, k_78, k_80, k_82, k_97, k_99, k_100, k_122, k_244, k_255, k_268, k_280, k_300, k_432, k_650, k_900, k_901, k_999, k_1700, k_2600, k_2601, k_2602, k_2603, k_2604, k_2610, k_2618, k_2682, k_2777, k_2844, k_2868, k_2880, k_3245, k_3250, k_9551, k_9999, k_65536, k_100000, k_999999, k_1000000, k_2147483647, lt_T, lt_F, le_T, le_F, eq_T, eq_F, ↓reduceIte, not_true_eq_false, not_false_eq_true, or_true, or_false, true_or, false_or, and_true, true_and, and_false, false_and, hg, ldr_ok ho, G.n2, ea, bI_f, ex, lI_add, Bool.false_eq_true, if_false]
        · rw [hs] at ea
          simp (disch := omega) only [iI_add, iI_sub, iI_mul, iI_neg, iI_nat, addm1, ixkI, ↓sbind, sbind, ↓bdS, bdS, ↓nm_eq, ↓jn_eq, iI_lt, iI_le, iI_eq, k_0, k_1, k_2, k_3, k_4, k_5, k_6, k_7, k_8, k_9, k_10, k_11, k_12, k_13, k_14, k_15, k_16, k_17, k_18, k_19, k_20, k_21, k_22, k_23, k_24, k_27, k_30, k_32, k_48, k_57, k_59, k_60, k_61, k_62, k_63, k_64, k_72, k_78, k_80, k_82, k_97, k_99, k_100, k_122, k_244, k_255, k_268, k_280, k_300, k_432, k_650, k_900, k_901, k_999, k_1700, k_2600, k_2601, k_2602, k_2603, k_2604, k_2610, k_2618, k_2682, k_2777, k_2844, k_2868, k_2880, k_3245, k_3250, k_9551, k_9999, k_65536, k_100000, k_999999, k_1000000, k_2147483647, lt_T, lt_F, le_T, le_F, eq_T, eq_F, ↓reduceIte, not_true_eq_false, not_false_eq_true, or_true, or_false, true_or, false_or, and_true, true_and, and_false, false_and, hg, ldr_ok ho, G.n2, ea, bI_t, if_true, Int.add_zero])
      φ 0 (by omega) (by omega) (by omega)
    rw [sm_0] at key
    simp (disch := omega) only [iI_add, iI_sub, iI_mul, iI_neg, iI_nat, addm1, ixkI, ↓sbind, sbind, ↓bdS, bdS, ↓nm_eq, ↓jn_eq, iI_lt, iI_le, iI_eq, k_0, k_1, k_2, k_3, k_4, k_5, k_6, k_7, k_8, k_9, k_10, k_11, k_12, k_13, k_14, k_15, k_16, k_17, k_18, k_19, k_20, k_21, k_22, k_23, k_24, k_27, k_30, k_32, k_48, k_57, k_59, k_60, k_61, k_62, k_63, k_64, k_72, k_78, k_80, k_82, k_97, k_99, k_100, k_122, k_244, k_255, k_268, k_280, k_300, k_432, k_650, k_900, k_901, k_999, k_1700, k_2600, k_2601, k_2602, k_2603, k_2604, k_2610, k_2618, k_2682, k_2777, k_2844, k_2868, k_2880, k_3245, k_3250, k_9551, k_9999, k_65536, k_100000, k_999999, k_1000000, k_2147483647, lt_T, lt_F, le_T, le_F, eq_T, eq_F, ↓reduceIte, not_true_eq_false, not_false_eq_true, or_true, or_false, true_or, false_or, and_true, true_and, and_false, false_and, bI_t, kl_0]
    exact key
  · unfold fX10_deny
    rw [s_in_f hc, show q_volumeOf F b = .inr 1 from if_neg hc]
    unfold fC
    simp (disch := omega) only [iI_add, iI_sub, iI_mul, iI_neg, iI_nat, addm1, ixkI, ↓sbind, sbind, ↓bdS, bdS, ↓nm_eq, ↓jn_eq, iI_lt, iI_le, iI_eq, k_0, k_1, k_2, k_3, k_4, k_5, k_6, k_7, k_8, k_9, k_10, k_11, k_12, k_13, k_14, k_15, k_16, k_17, k_18, k_19, k_20, k_21, k_22, k_23, k_24, k_27, k_30, k_32, k_48, k_57, k_59, k_60, k_61, k_62, k_63, k_64, k_72, k_78, k_80, k_82, k_97, k_99, k_100, k_122, k_244, k_255, k_268, k_280, k_300, k_432, k_650, k_900, k_901, k_999, k_1700, k_2600, k_2601, k_2602, k_2603, k_2604, k_2610, k_2618, k_2682, k_2777, k_2844, k_2868, k_2880, k_3245, k_3250, k_9551, k_9999, k_65536, k_100000, k_999999, k_1000000, k_2147483647, lt_T, lt_F, le_T, le_F, eq_T, eq_F, ↓reduceIte, not_true_eq_false, not_false_eq_true, or_true, or_false, true_or, false_or, and_true, true_and, and_false, false_and, bI_f, i01_a, if_true]
theorem s_grow_bd (w : WF F) {b t x : Int} (ht : 0 ≤ t ∧ t < F 0 2 0) (h : s_all F b t = true) : -100000000000 ≤ s_grow F b t x ∧ s_grow F b t x ≤ 100000000000 := by
  have d : ∀ k, 0 ≤ k → k < 3 → 0 ≤ s_dc F b t k ∧ s_dc F b t k ≤ 13986 := fun k k0 k1 => s_depth_bd w ht ⟨k0, k1⟩ (s_all_t w h k k0 k1)
  have d0 := d 0 (by omega) (by omega)
  have d1 := d 1 (by omega) (by omega)
  have d2 := d 2 (by omega) (by omega)
  have x0 := w.x (w.co ht (k := 0) (by omega))
  have x1 := w.x (w.co ht (k := 1) (by omega))
  have x2 := w.x (w.co ht (k := 2) (by omega))
  have y0 := w.y (w.co ht (k := 0) (by omega))
  have y1 := w.y (w.co ht (k := 1) (by omega))
  have y2 := w.y (w.co ht (k := 2) (by omega))
  have m1 := mul_bd (u := s_dc F b t 1 - s_dc F b t 0) (v := F 3 (F 6 t 2) 1 - F 3 (F 6 t 0) 1) (A := 13986) (B := 999) (by omega) (by omega)
  have m2 := mul_bd (u := s_dc F b t 2 - s_dc F b t 0) (v := F 3 (F 6 t 1) 1 - F 3 (F 6 t 0) 1) (A := 13986) (B := 999) (by omega) (by omega)
  have m3 := mul_bd (u := s_dc F b t 2 - s_dc F b t 0) (v := F 3 (F 6 t 1) 0 - F 3 (F 6 t 0) 0) (A := 13986) (B := 999) (by omega) (by omega)
  have m4 := mul_bd (u := s_dc F b t 1 - s_dc F b t 0) (v := F 3 (F 6 t 2) 0 - F 3 (F 6 t 0) 0) (A := 13986) (B := 999) (by omega) (by omega)
  unfold s_grow
  by_cases hx : x = 0
  · rw [if_pos hx]; omega
  · rw [if_neg hx]; omega
theorem cf_tilt (I : CI c g F M) {b t x : Int} (hb : -2147483648 ≤ b ∧ b < 2147483648) (ht : -2147483648 ≤ t ∧ t < 2147483648) (hx : -2147483648 ≤ x ∧ x < 2147483648) {φ : Nat} (hφ : 2000 < φ) : CF c g F M (fX10_tilt φ c (iI b) (iI t) (iI x) M) (q_tilt F b t x) := by
  obtain ⟨M1, e, Q, B, O⟩ := ci_isBed I hb hφ
  refine ⟨M1, Q, ?_⟩
  obtain ⟨hg, ho, hd, w, G, hB⟩ := Q.1
  unfold fX10_tilt fX10_deny
  rw [e]
  by_cases hc : 0 ≤ b ∧ b < bN F
  · have ei := c_isTriangle w G ht
    rw [s_in_t hc]
    by_cases h1 : 0 ≤ t ∧ t < F 0 2 0
    · rw [s_in_t h1] at ei
      have ew := c_isWithin (M := M1) (b := 0) (d := 1) hx (by omega) (by omega)
      by_cases hx' : 0 ≤ x ∧ x ≤ 1
      · rw [decide_eq_true hx'] at ew
        have ea := c_isSplit w G h1 (φ := φ) (by omega)
        cases hs : s_split F t
        · rw [hs] at ea
          have eh := c_hasAtCorners (c := c) w G hg ho B hc h1 (φ := φ) (by omega)
          cases hal : s_all F b t
          · rw [hal] at eh
            rw [show q_tilt F b t x = .inr 7 from by unfold q_tilt; rw [if_pos ⟨hc, h1, hx'⟩, if_neg (by rw [hal]; simp)]]
            unfold fC
            simp (disch := omega) only [iI_add, iI_sub, iI_mul, iI_neg, iI_nat, addm1, ixkI, ↓sbind, sbind, ↓bdS, bdS, ↓nm_eq, ↓jn_eq, iI_lt, iI_le, iI_eq, k_0, k_1, k_2, k_3, k_4, k_5, k_6, k_7, k_8, k_9, k_10, k_11, k_12, k_13, k_14, k_15, k_16, k_17, k_18, k_19, k_20, k_21, k_22, k_23, k_24, k_27, k_30, k_32, k_48, k_57, k_59, k_60, k_61, k_62, k_63, k_64, k_72, k_78, k_80, k_82, k_97, k_99, k_100, k_122, k_244, k_255, k_268, k_280, k_300, k_432, k_650, k_900, k_901, k_999, k_1700, k_2600, k_2601, k_2602, k_2603, k_2604, k_2610, k_2618, k_2682, k_2777, k_2844, k_2868, k_2880, k_3245, k_3250, k_9551, k_9999, k_65536, k_100000, k_999999, k_1000000, k_2147483647, lt_T, lt_F, le_T, le_F, eq_T, eq_F, ↓reduceIte, not_true_eq_false, not_false_eq_true, or_true, or_false, true_or, false_or, and_true, true_and, and_false, false_and, bI_t, bI_f, hg, ldr_ok ho, ei, ew, ea, eh, i01_a, if_true]
          · rw [hal] at eh
            have hgb := s_grow_bd (x := x) w h1 hal
            have hbt := w.tr h1
            have ett := c_tell (c := c) (M := M1) (n := s_grow F b t x) (b := s_turn F t) (by omega) (by omega) (w.tn h1) (φ := φ) (by omega)
            unfold fC at ett
            have ed := fun k k0 k1 => c_depthAtCorner (c := c) (x := b) (tr := t) (k := k) w G hg ho B hc h1 ⟨k0, k1⟩ (s_all_t w hal k k0 k1) (φ := φ) (by omega)
            have ed0 := ed 0 (by omega) (by omega)
            have ed1 := ed 1 (by omega) (by omega)
            have ed2 := ed 2 (by omega) (by omega)
            have x0 := w.x (w.co h1 (k := 0) (by omega))
            have x1 := w.x (w.co h1 (k := 1) (by omega))
            have x2 := w.x (w.co h1 (k := 2) (by omega))
            have y0 := w.y (w.co h1 (k := 0) (by omega))
            have y1 := w.y (w.co h1 (k := 1) (by omega))
            have y2 := w.y (w.co h1 (k := 2) (by omega))
            rw [show q_tilt F b t x = .inl (fr (s_sg (s_turn F t) * s_grow F b t x) (s_abs (s_turn F t))) from by unfold q_tilt; rw [if_pos ⟨hc, h1, hx'⟩, if_pos ⟨hs, hal⟩]]
            unfold fC
            by_cases hx0 : x = 0
            · have sx1 := c_sideAlongY w G h1 (k := 1) (by omega)
              have sx2 := c_sideAlongY w G h1 (k := 2) (by omega)
              have eg : s_grow F b t x = (s_depth F (F 6 t 1) (s_fst F b (F 6 t 1)) - s_depth F (F 6 t 0) (s_fst F b (F 6 t 0))) * (F 3 (F 6 t 2) 1 - F 3 (F 6 t 0) 1) - (s_depth F (F 6 t 2) (s_fst F b (F 6 t 2)) - s_depth F (F 6 t 0) (s_fst F b (F 6 t 0))) * (F 3 (F 6 t 1) 1 - F 3 (F 6 t 0) 1) := if_pos hx0
              rw [eg] at ett ⊢
              simp (disch := omega) only [iI_add, iI_sub, iI_mul, iI_neg, iI_nat, addm1, ixkI, ↓sbind, sbind, ↓bdS, bdS, ↓nm_eq, ↓jn_eq, iI_lt, iI_le, iI_eq, k_0, k_1, k_2, k_3, k_4, k_5, k_6, k_7, k_8, k_9, k_10, k_11, k_12, k_13, k_14, k_15, k_16, k_17, k_18, k_19, k_20, k_21, k_22, k_23, k_24, k_27, k_30, k_32, k_48, k_57, k_59, k_60, k_61, k_62, k_63, k_64, k_72, k_78, k_80, k_82, k_97, k_99, k_100, k_122, k_244, k_255, k_268, k_280, k_300, k_432, k_650, k_900, k_901, k_999, k_1700, k_2600, k_2601, k_2602, k_2603, k_2604, k_2610, k_2618, k_2682, k_2777, k_2844, k_2868, k_2880, k_3245, k_3250, k_9551, k_9999, k_65536, k_100000, k_999999, k_1000000, k_2147483647, lt_T, lt_F, le_T, le_F, eq_T, eq_F, ↓reduceIte, not_true_eq_false, not_false_eq_true, or_true, or_false, true_or, false_or, and_true, true_and, and_false, false_and, bI_t, bI_f, hg, ldr_ok ho, ei, ew, ea, eh, ed0, ed1, ed2, lI_sub, lI_mul, sx1, sx2, iI_l, c_turn w G h1, ett, i01_b, if_true]
            · have sx1 := c_sideAlongX w G h1 (k := 1) (by omega)
              have sx2 := c_sideAlongX w G h1 (k := 2) (by omega)
              have eg : s_grow F b t x = (s_depth F (F 6 t 2) (s_fst F b (F 6 t 2)) - s_depth F (F 6 t 0) (s_fst F b (F 6 t 0))) * (F 3 (F 6 t 1) 0 - F 3 (F 6 t 0) 0) - (s_depth F (F 6 t 1) (s_fst F b (F 6 t 1)) - s_depth F (F 6 t 0) (s_fst F b (F 6 t 0))) * (F 3 (F 6 t 2) 0 - F 3 (F 6 t 0) 0) := if_neg hx0
              rw [eg] at ett ⊢
              simp (disch := omega) only [iI_add, iI_sub, iI_mul, iI_neg, iI_nat, addm1, ixkI, ↓sbind, sbind, ↓bdS, bdS, ↓nm_eq, ↓jn_eq, iI_lt, iI_le, iI_eq, k_0, k_1, k_2, k_3, k_4, k_5, k_6, k_7, k_8, k_9, k_10, k_11, k_12, k_13, k_14, k_15, k_16, k_17, k_18, k_19, k_20, k_21, k_22, k_23, k_24, k_27, k_30, k_32, k_48, k_57, k_59, k_60, k_61, k_62, k_63, k_64, k_72, k_78, k_80, k_82, k_97, k_99, k_100, k_122, k_244, k_255, k_268, k_280, k_300, k_432, k_650, k_900, k_901, k_999, k_1700, k_2600, k_2601, k_2602, k_2603, k_2604, k_2610, k_2618, k_2682, k_2777, k_2844, k_2868, k_2880, k_3245, k_3250, k_9551, k_9999, k_65536, k_100000, k_999999, k_1000000, k_2147483647, lt_T, lt_F, le_T, le_F, eq_T, eq_F, ↓reduceIte, not_true_eq_false, not_false_eq_true, or_true, or_false, true_or, false_or, and_true, true_and, and_false, false_and, bI_t, bI_f, hg, ldr_ok ho, ei, ew, ea, eh, ed0, ed1, ed2, lI_sub, lI_mul, sx1, sx2, iI_l, c_turn w G h1, ett, i01_b, if_true]
        · rw [hs] at ea
          rw [show q_tilt F b t x = .inr 7 from by unfold q_tilt; rw [if_pos ⟨hc, h1, hx'⟩, if_neg (by rw [hs]; simp)]]
          unfold fC
          simp (disch := omega) only [iI_add, iI_sub, iI_mul, iI_neg, iI_nat, addm1, ixkI, ↓sbind, sbind, ↓bdS, bdS, ↓nm_eq, ↓jn_eq, iI_lt, iI_le, iI_eq, k_0, k_1, k_2, k_3, k_4, k_5, k_6, k_7, k_8, k_9, k_10, k_11, k_12, k_13, k_14, k_15, k_16, k_17, k_18, k_19, k_20, k_21, k_22, k_23, k_24, k_27, k_30, k_32, k_48, k_57, k_59, k_60, k_61, k_62, k_63, k_64, k_72, k_78, k_80, k_82, k_97, k_99, k_100, k_122, k_244, k_255, k_268, k_280, k_300, k_432, k_650, k_900, k_901, k_999, k_1700, k_2600, k_2601, k_2602, k_2603, k_2604, k_2610, k_2618, k_2682, k_2777, k_2844, k_2868, k_2880, k_3245, k_3250, k_9551, k_9999, k_65536, k_100000, k_999999, k_1000000, k_2147483647, lt_T, lt_F, le_T, le_F, eq_T, eq_F, ↓reduceIte, not_true_eq_false, not_false_eq_true, or_true, or_false, true_or, false_or, and_true, true_and, and_false, false_and, bI_t, hg, ldr_ok ho, ei, ew, ea, i01_a, if_true]
      · rw [decide_eq_false hx'] at ew
        rw [show q_tilt F b t x = .inr 1 from if_neg (fun q => hx' q.2.2)]
        unfold fC
        simp (disch := omega) only [iI_add, iI_sub, iI_mul, iI_neg, iI_nat, addm1, ixkI, ↓sbind, sbind, ↓bdS, bdS, ↓nm_eq, ↓jn_eq, iI_lt, iI_le, iI_eq, k_0, k_1, k_2, k_3, k_4, k_5, k_6, k_7, k_8, k_9, k_10, k_11, k_12, k_13, k_14, k_15, k_16, k_17, k_18, k_19, k_20, k_21, k_22, k_23, k_24, k_27, k_30, k_32, k_48, k_57, k_59, k_60, k_61, k_62, k_63, k_64, k_72, k_78, k_80, k_82, k_97, k_99, k_100, k_122, k_244, k_255, k_268, k_280, k_300, k_432, k_650, k_900, k_901, k_999, k_1700, k_2600, k_2601, k_2602, k_2603, k_2604, k_2610, k_2618, k_2682, k_2777, k_2844, k_2868, k_2880, k_3245, k_3250, k_9551, k_9999, k_65536, k_100000, k_999999, k_1000000, k_2147483647, lt_T, lt_F, le_T, le_F, eq_T, eq_F, ↓reduceIte, not_true_eq_false, not_false_eq_true, or_true, or_false, true_or, false_or, and_true, true_and, and_false, false_and, bI_t, bI_f, hg, ldr_ok ho, ei, ew, i01_a, if_true]
    · rw [s_in_f h1] at ei
      rw [show q_tilt F b t x = .inr 1 from if_neg (fun q => h1 q.2.1)]
      unfold fC
      simp (disch := omega) only [iI_add, iI_sub, iI_mul, iI_neg, iI_nat, addm1, ixkI, ↓sbind, sbind, ↓bdS, bdS, ↓nm_eq, ↓jn_eq, iI_lt, iI_le, iI_eq, k_0, k_1, k_2, k_3, k_4, k_5, k_6, k_7, k_8, k_9, k_10, k_11, k_12, k_13, k_14, k_15, k_16, k_17, k_18, k_19, k_20, k_21, k_22, k_23, k_24, k_27, k_30, k_32, k_48, k_57, k_59, k_60, k_61, k_62, k_63, k_64, k_72, k_78, k_80, k_82, k_97, k_99, k_100, k_122, k_244, k_255, k_268, k_280, k_300, k_432, k_650, k_900, k_901, k_999, k_1700, k_2600, k_2601, k_2602, k_2603, k_2604, k_2610, k_2618, k_2682, k_2777, k_2844, k_2868, k_2880, k_3245, k_3250, k_9551, k_9999, k_65536, k_100000, k_999999, k_1000000, k_2147483647, lt_T, lt_F, le_T, le_F, eq_T, eq_F, ↓reduceIte, not_true_eq_false, not_false_eq_true, or_true, or_false, true_or, false_or, and_true, true_and, and_false, false_and, bI_t, bI_f, hg, ldr_ok ho, ei, i01_a, if_true]
  · rw [s_in_f hc, show q_tilt F b t x = .inr 1 from if_neg (fun q => hc q.1)]
    unfold fC
    simp (disch := omega) only [iI_add, iI_sub, iI_mul, iI_neg, iI_nat, addm1, ixkI, ↓sbind, sbind, ↓bdS, bdS, ↓nm_eq, ↓jn_eq, iI_lt, iI_le, iI_eq, k_0, k_1, k_2, k_3, k_4, k_5, k_6, k_7, k_8, k_9, k_10, k_11, k_12, k_13, k_14, k_15, k_16, k_17, k_18, k_19, k_20, k_21, k_22, k_23, k_24, k_27, k_30, k_32, k_48, k_57, k_59, k_60, k_61, k_62, k_63, k_64, k_72, k_78, k_80, k_82, k_97, k_99, k_100, k_122, k_244, k_255, k_268, k_280, k_300, k_432, k_650, k_900, k_901, k_999, k_1700, k_2600, k_2601, k_2602, k_2603, k_2604, k_2610, k_2618, k_2682, k_2777, k_2844, k_2868, k_2880, k_3245, k_3250, k_9551, k_9999, k_65536, k_100000, k_999999, k_1000000, k_2147483647, lt_T, lt_F, le_T, le_F, eq_T, eq_F, ↓reduceIte, not_true_eq_false, not_false_eq_true, or_true, or_false, true_or, false_or, and_true, true_and, and_false, false_and, bI_f, i01_a, if_true]
end CFs
