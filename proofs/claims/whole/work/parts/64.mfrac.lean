/-! fractions: the reference -/
section MFs
variable {m : Nat} {F : Fld} {M : Mem}
theorem mf_area (w : WF F) (G : MR m 0 F M) {t : Int} (ht : -2147483648 ≤ t ∧ t < 2147483648) {φ : Nat} (hφ : 100 < φ) : mF m M (fX11_area φ m (iI t) M) (q_area F t) := by
  refine ⟨M, QM.refl m M, ?_⟩
  unfold fX11_area fX11_is
  rw [m_isTriangle w G ht]
  by_cases h1 : 0 ≤ t ∧ t < F 0 2 0
  · have hb := s_abs_bd (w.tr h1)
    have hb2 := w.tr h1
    have et := m_tellsBy (m := m) (M := M) (n := s_abs (s_turn F t)) (b := 2) (by omega) (by omega) hφ
    have es := m_size (M := M) (x := s_turn F t) (by omega)
    unfold fM at et
    rw [s_in_t h1, show q_area F t = .inl (fr (s_abs (s_turn F t)) 2) from if_pos h1]
    unfold fM
    simp (disch := omega) only [iI_add, iI_sub, iI_mul, iI_neg, iI_nat, addm1, ixkI, ↓sbind, sbind, ↓bdS, bdS, ↓nm_eq, ↓jn_eq, iI_lt, iI_le, iI_eq, k_0, k_1, k_2, k_3, k_4, k_5, k_6, k_7, k_8, k_9, k_10, k_11, k_12, k_13, k_14, k_15, k_16, k_17, k_18, k_19, k_20, k_21, k_22, k_23, k_24, k_27, k_30, k_32, k_48, k_57, k_59, k_60, k_61, k_62, k_63, k_64, k_72, k_78, k_80, k_82, k_97, k_99, k_100, k_122, k_244, k_255, k_268, k_280, k_300, k_432, k_650, k_900, k_901, k_999, k_1700, k_2600, k_2601, k_2602, k_2603, k_2604, k_2610, k_2618, k_2682, k_2777, k_2844, k_2868, k_2880, k_3245, k_3250, k_9551, k_9999, k_65536, k_100000, k_999999, k_1000000, k_2147483647, lt_T, lt_F, le_T, le_F, eq_T, eq_F, ↓reduceIte, not_true_eq_false, not_false_eq_true, or_true, or_false, true_or, false_or, and_true, true_and, and_false, false_and, bI_t, m_twiceArea w G h1, es, kl_2, et, i01_b, if_true]
  · rw [s_in_f h1, show q_area F t = .inr 1 from if_neg h1]
    unfold fM
    simp (disch := omega) only [iI_add, iI_sub, iI_mul, iI_neg, iI_nat, addm1, ixkI, ↓sbind, sbind, ↓bdS, bdS, ↓nm_eq, ↓jn_eq, iI_lt, iI_le, iI_eq, k_0, k_1, k_2, k_3, k_4, k_5, k_6, k_7, k_8, k_9, k_10, k_11, k_12, k_13, k_14, k_15, k_16, k_17, k_18, k_19, k_20, k_21, k_22, k_23, k_24, k_27, k_30, k_32, k_48, k_57, k_59, k_60, k_61, k_62, k_63, k_64, k_72, k_78, k_80, k_82, k_97, k_99, k_100, k_122, k_244, k_255, k_268, k_280, k_300, k_432, k_650, k_900, k_901, k_999, k_1700, k_2600, k_2601, k_2602, k_2603, k_2604, k_2610, k_2618, k_2682, k_2777, k_2844, k_2868, k_2880, k_3245, k_3250, k_9551, k_9999, k_65536, k_100000, k_999999, k_1000000, k_2147483647, lt_T, lt_F, le_T, le_F, eq_T, eq_F, ↓reduceIte, not_true_eq_false, not_false_eq_true, or_true, or_false, true_or, false_or, and_true, true_and, and_false, false_and, bI_f, i01_a, if_true]
theorem sw_mul (F : Fld) (t k x y z : Int) : s_w F t k x y * z = s_sg (s_turn F t) * (s_wt F t k x y * z) := by
  unfold s_w
  rw [Int.mul_assoc]
theorem s_sg_add (s a b : Int) : s_sg s * a + s_sg s * b = s_sg s * (a + b) := (Int.mul_add _ _ _).symm
theorem s_sg_bd {s a c : Int} (h : -c ≤ a ∧ a ≤ c) : -c ≤ s_sg s * a ∧ s_sg s * a ≤ c := by
  rw [s_sg_mul]
  by_cases hs : 0 ≤ s
  · rw [if_pos hs]; exact h
  · rw [if_neg hs]; omega
theorem mf_topAt (w : WF F) (G : MR m 0 F M) {b x y : Int} (hb : -2147483648 ≤ b ∧ b < 2147483648) (hx : -2147483648 ≤ x ∧ x < 2147483648) (hy : -2147483648 ≤ y ∧ y < 2147483648) {φ : Nat} (hφ : 100 < φ) : mF m M (fX11_topAt φ m (iI b) (iI x) (iI y) M) (q_topAt F b x y) := by
  obtain ⟨M1, e, Q, G1, B⟩ := mi_lays w G hφ
  have eb := m_isBed w B hb
  unfold fX11_topAt fX11_is
  rw [e]
  by_cases hc : 0 ≤ b ∧ b < bN F
  · have ep := m_isPoint (M := M1) hx hy
    unfold s_pt at ep
    rw [s_in_t hc] at eb
    by_cases h1 : (0 ≤ x ∧ x ≤ 999) ∧ 0 ≤ y ∧ y ≤ 999
    · rw [decide_eq_true h1] at ep
      obtain ⟨M2, et, f2, T2⟩ := m_triangleOf w h1.1 h1.2 hφ G1
      have Q2 := Q.trans (QM.w18 f2)
      have G2 := (QM.w18 f2).mr G1
      have B2 := B.fr f2 (by rw [(f2 m (fun q => by have := q.1; omega)).1]) (by rw [(f2 m (fun q => by have := q.1; omega)).1]) (fun z a q => by have := q.1; have := q.2; omega)
      refine ⟨M2, Q2, ?_⟩
      have hb3 := s_tri_bd w x y
      have n2 := w.n2
      by_cases hz : s_tri F x y = -1
      · rw [show q_topAt F b x y = .inr 6 from by unfold q_topAt; rw [if_pos ⟨hc, h1⟩, if_pos hz]]
        unfold fM
        rw [hz] at et
        simp (disch := omega) only [iI_add, iI_sub, iI_mul, iI_neg, iI_nat, addm1, ixkI, ↓sbind, sbind, ↓bdS, bdS, ↓nm_eq, ↓jn_eq, iI_lt, iI_le, iI_eq, k_0, k_1, k_2, k_3, k_4, k_5, k_6, k_7, k_8, k_9, k_10, k_11, k_12, k_13, k_14, k_15, k_16, k_17, k_18, k_19, k_20, k_21, k_22, k_23, k_24, k_27, k_30, k_32, k_48, k_57, k_59, k_60, k_61, k_62, k_63, k_64, k_72, k_78, k_80, k_82, k_97, k_99, k_100, k_122, k_244, k_255, k_268, k_280, k_300, k_432, k_650, k_900, k_901, k_999, k_1700, k_2600, k_2601, k_2602, k_2603, k_2604, k_2610, k_2618, k_2682, k_2777, k_2844, k_2868, k_2880, k_3245, k_3250, k_9551, k_9999, k_65536, k_100000, k_999999, k_1000000, k_2147483647, lt_T, lt_F, le_T, le_F, eq_T, eq_F, ↓reduceIte, not_true_eq_false, not_false_eq_true, or_true, or_false, true_or, false_or, and_true, true_and, and_false, false_and, bI_t, eb, ep, et, i01_a, if_true]
      · have ht : 0 ≤ s_tri F x y ∧ s_tri F x y < F 0 2 0 := by omega
        have T2' := T2 hz
        have hbt := w.tr ht
        have habs := s_abs_bd hbt
        have hpos : 0 < s_abs (s_turn F (s_tri F x y)) := by
          have := w.tn ht
          unfold s_abs
          by_cases hs : 0 ≤ s_turn F (s_tri F x y)
          · rw [if_pos hs]; omega
          · rw [if_neg hs]; omega
        have key := lup (N := 3) (P := fun n i => ∀ K, lX11_topAt_53 K φ m (iI b) (iI (s_tri F x y)) M2 n (lI (s_sg (s_turn F (s_tri F x y)) * sm (fun k => s_wt F (s_tri F x y) k x y * s_depth F (F 6 (s_tri F x y) k) (s_fst F b (F 6 (s_tri F x y) k))) i)) (iI i) = if ff (fun k => s_fst F b (F 6 (s_tri F x y) k) == -1) 3 i == -1 then K (lI (s_sg (s_turn F (s_tri F x y)) * s_tops F b (s_tri F x y) x y)) else some (iI 0, stI M2 m 2 (iI 7)))
          (fun n K => by
            rw [lX11_topAt_53_s, ff_e]
            simp (disch := omega) only [iI_add, iI_sub, iI_mul, iI_neg, iI_nat, addm1, ixkI, ↓sbind, sbind, ↓bdS, bdS, ↓nm_eq, ↓jn_eq, iI_lt, iI_le, iI_eq, k_0, k_1, k_2, k_3, k_4, k_5, k_6, k_7, k_8, k_9, k_10, k_11, k_12, k_13, k_14, k_15, k_16, k_17, k_18, k_19, k_20, k_21, k_22, k_23, k_24, k_27, k_30, k_32, k_48, k_57, k_59, k_60, k_61, k_62, k_63, k_64, k_72, k_78, k_80, k_82, k_97, k_99, k_100, k_122, k_244, k_255, k_268, k_280, k_300, k_432, k_650, k_900, k_901, k_999, k_1700, k_2600, k_2601, k_2602, k_2603, k_2604, k_2610, k_2618, k_2682, k_2777, k_2844, k_2868, k_2880, k_3245, k_3250, k_9551, k_9999, k_65536, k_100000, k_999999, k_1000000, k_2147483647, lt_T, lt_F, le_T, le_F, eq_T, eq_F, ↓reduceIte, not_true_eq_false, not_false_eq_true, or_true, or_false, true_or, false_or, and_true, true_and, and_false, false_and]
            rfl)
          (fun n i i0 i1 ih K => by
            have hco := w.co ht ⟨i0, i1⟩
            have ec := m_corner G2 (t := s_tri F x y) (k := i) (by omega) (by omega)
            have ef := m_firstOf w G2 B2 hc hco hφ
            have z := s_fst_bd w (x := b) hco
            rw [lX11_topAt_53_s]
            unfold fX11_is
            by_cases hd : s_fst F b (F 6 (s_tri F x y) i) = -1
            · rw [ff_t i1 (by simpa using hd), show (i == -1) = false from by simp <;> omega]
              simp (disch := omega) only [iI_add, iI_sub, iI_mul, iI_neg, iI_nat, addm1, ixkI, ↓sbind, sbind, ↓bdS, bdS, ↓nm_eq, ↓jn_eq, iI_lt, iI_le, iI_eq, k_0, k_1, k_2, k_3, k_4, k_5, k_6, k_7, k_8, k_9, k_10, k_11, k_12, k_13, k_14, k_15, k_16, k_17, k_18, k_19, k_20, k_21, k_22, k_23, k_24, k_27, k_30, k_32, k_48, k_57, k_59, k_60, k_61, k_62, k_63, k_64, k_72, k_78, k_80, k_82, k_97, k_99, k_100, k_122, k_244, k_255, k_268, k_280, k_300, k_432, k_650, k_900, k_901, k_999, k_1700, k_2600, k_2601, k_2602, k_2603, k_2604, k_2610, k_2618, k_2682, k_2777, k_2844, k_2868, k_2880, k_3245, k_3250, k_9551, k_9999, k_65536, k_100000, k_999999, k_1000000, k_2147483647, lt_T, lt_F, le_T, le_F, eq_T, eq_F, ↓reduceIte, not_true_eq_false, not_false_eq_true, or_true, or_false, true_or, false_or, and_true, true_and, and_false, false_and, ec, ef, hd, i01_a, if_true]
              rfl
            · have ed := m_depthOf w G2 (k := s_fst F b (F 6 (s_tri F x y) i)) hco (by omega) hφ
              have bd := w.depth hco (n := s_fst F b (F 6 (s_tri F x y) i)) (by omega)
              have wt := T2' i i0 i1
              rw [ff_f i1 (by simpa using hd), ← ih K, sm_s _ i0, ← s_sg_add, ← sw_mul]
              simp (disch := omega) only [iI_add, iI_sub, iI_mul, iI_neg, iI_nat, addm1, ixkI, ↓sbind, sbind, ↓bdS, bdS, ↓nm_eq, ↓jn_eq, iI_lt, iI_le, iI_eq, k_0, k_1, k_2, k_3, k_4, k_5, k_6, k_7, k_8, k_9, k_10, k_11, k_12, k_13, k_14, k_15, k_16, k_17, k_18, k_19, k_20, k_21, k_22, k_23, k_24, k_27, k_30, k_32, k_48, k_57, k_59, k_60, k_61, k_62, k_63, k_64, k_72, k_78, k_80, k_82, k_97, k_99, k_100, k_122, k_244, k_255, k_268, k_280, k_300, k_432, k_650, k_900, k_901, k_999, k_1700, k_2600, k_2601, k_2602, k_2603, k_2604, k_2610, k_2618, k_2682, k_2777, k_2844, k_2868, k_2880, k_3245, k_3250, k_9551, k_9999, k_65536, k_100000, k_999999, k_1000000, k_2147483647, lt_T, lt_F, le_T, le_F, eq_T, eq_F, ↓reduceIte, not_true_eq_false, not_false_eq_true, or_true, or_false, true_or, false_or, and_true, true_and, and_false, false_and, ec, ef, ed, wt, iI_l, lI_mul, lI_add])
          φ 0 (by omega) (by omega) (by omega)
        have hall : (ff (fun k => s_fst F b (F 6 (s_tri F x y) k) == -1) 3 0 == -1) = s_all F b (s_tri F x y) := rfl
        rw [sm_0, Int.mul_zero, hall] at key
        cases hs : s_all F b (s_tri F x y)
        · rw [hs] at key
          rw [show q_topAt F b x y = .inr 7 from by unfold q_topAt; rw [if_pos ⟨hc, h1⟩, if_neg hz, hs]; rfl]
          unfold fM
          simp (disch := omega) only [iI_add, iI_sub, iI_mul, iI_neg, iI_nat, addm1, ixkI, ↓sbind, sbind, ↓bdS, bdS, ↓nm_eq, ↓jn_eq, iI_lt, iI_le, iI_eq, k_0, k_1, k_2, k_3, k_4, k_5, k_6, k_7, k_8, k_9, k_10, k_11, k_12, k_13, k_14, k_15, k_16, k_17, k_18, k_19, k_20, k_21, k_22, k_23, k_24, k_27, k_30, k_32, k_48, k_57, k_59, k_60, k_61, k_62, k_63, k_64, k_72, k_78, k_80, k_82, k_97, k_99, k_100, k_122, k_244, k_255, k_268, k_280, k_300, k_432, k_650, k_900, k_901, k_999, k_1700, k_2600, k_2601, k_2602, k_2603, k_2604, k_2610, k_2618, k_2682, k_2777, k_2844, k_2868, k_2880, k_3245, k_3250, k_9551, k_9999, k_65536, k_100000, k_999999, k_1000000, k_2147483647, lt_T, lt_F, le_T, le_F, eq_T, eq_F, ↓reduceIte, not_true_eq_false, not_false_eq_true, or_true, or_false, true_or, false_or, and_true, true_and, and_false, false_and, bI_t, eb, ep, et, kl_0, key, Bool.false_eq_true, if_false]
        · rw [hs] at key
          have hb2 := s_tops_bd w ht h1.1 h1.2 hs
          have hb4 := s_sg_bd (s := s_turn F (s_tri F x y)) (c := 100000000000) hb2
          have ett := m_tellsBy (m := m) (M := M2) (n := s_sg (s_turn F (s_tri F x y)) * s_tops F b (s_tri F x y) x y) (b := s_abs (s_turn F (s_tri F x y))) (by omega) (by omega) hφ
          have es := m_size (M := M2) (x := s_turn F (s_tri F x y)) (by omega)
          unfold fM at ett
          rw [show q_topAt F b x y = .inl (fr (s_sg (s_turn F (s_tri F x y)) * s_tops F b (s_tri F x y) x y) (s_abs (s_turn F (s_tri F x y)))) from by unfold q_topAt; rw [if_pos ⟨hc, h1⟩, if_neg hz, hs]; rfl]
          unfold fM
          simp (disch := omega) only [iI_add, iI_sub, iI_mul, iI_neg, iI_nat, addm1, ixkI, ↓sbind, sbind, ↓bdS, bdS, ↓nm_eq, ↓jn_eq, iI_lt, iI_le, iI_eq, k_0, k_1, k_2, k_3, k_4, k_5, k_6, k_7, k_8, k_9, k_10, k_11, k_12, k_13, k_14, k_15, k_16, k_17, k_18, k_19, k_20, k_21, k_22, k_23, k_24, k_27, k_30, k_32, k_48, k_57, k_59, k_60, k_61, k_62, k_63, k_64, k_72, k_78, k_80, k_82, k_97, k_99, k_100, k_122, k_244, k_255, k_268, k_280, k_300, k_432, k_650, k_900, k_901, k_999, k_1700, k_2600, k_2601, k_2602, k_2603, k_2604, k_2610, k_2618, k_2682, k_2777, k_2844, k_2868, k_2880, k_3245, k_3250, k_9551, k_9999, k_65536, k_100000, k_999999, k_1000000, k_2147483647, lt_T, lt_F, le_T, le_F, eq_T, eq_F, ↓reduceIte, not_true_eq_false, not_false_eq_true, or_true, or_false, true_or, false_or, and_true, true_and, and_false, false_and, bI_t, eb, ep, et, kl_0, key, if_true, m_twiceArea w G2 ht, es, ett, i01_b]
    · refine ⟨M1, Q, ?_⟩
      rw [decide_eq_false h1] at ep
      rw [show q_topAt F b x y = .inr 1 from if_neg (fun q => h1 q.2)]
      unfold fM
      simp (disch := omega) only [iI_add, iI_sub, iI_mul, iI_neg, iI_nat, addm1, ixkI, ↓sbind, sbind, ↓bdS, bdS, ↓nm_eq, ↓jn_eq, iI_lt, iI_le, iI_eq, k_0, k_1, k_2, k_3, k_4, k_5, k_6, k_7, k_8, k_9, k_10, k_11, k_12, k_13, k_14, k_15, k_16, k_17, k_18, k_19, k_20, k_21, k_22, k_23, k_24, k_27, k_30, k_32, k_48, k_57, k_59, k_60, k_61, k_62, k_63, k_64, k_72, k_78, k_80, k_82, k_97, k_99, k_100, k_122, k_244, k_255, k_268, k_280, k_300, k_432, k_650, k_900, k_901, k_999, k_1700, k_2600, k_2601, k_2602, k_2603, k_2604, k_2610, k_2618, k_2682, k_2777, k_2844, k_2868, k_2880, k_3245, k_3250, k_9551, k_9999, k_65536, k_100000, k_999999, k_1000000, k_2147483647, lt_T, lt_F, le_T, le_F, eq_T, eq_F, ↓reduceIte, not_true_eq_false, not_false_eq_true, or_true, or_false, true_or, false_or, and_true, true_and, and_false, false_and, bI_t, bI_f, eb, ep, i01_a, if_true]
  · refine ⟨M1, Q, ?_⟩
    rw [s_in_f hc] at eb
    rw [show q_topAt F b x y = .inr 1 from if_neg (fun q => hc q.1)]
    unfold fM
    simp (disch := omega) only [iI_add, iI_sub, iI_mul, iI_neg, iI_nat, addm1, ixkI, ↓sbind, sbind, ↓bdS, bdS, ↓nm_eq, ↓jn_eq, iI_lt, iI_le, iI_eq, k_0, k_1, k_2, k_3, k_4, k_5, k_6, k_7, k_8, k_9, k_10, k_11, k_12, k_13, k_14, k_15, k_16, k_17, k_18, k_19, k_20, k_21, k_22, k_23, k_24, k_27, k_30, k_32, k_48, k_57, k_59, k_60, k_61, k_62, k_63, k_64, k_72, k_78, k_80, k_82, k_97, k_99, k_100, k_122, k_244, k_255, k_268, k_280, k_300, k_432, k_650, k_900, k_901, k_999, k_1700, k_2600, k_2601, k_2602, k_2603, k_2604, k_2610, k_2618, k_2682, k_2777, k_2844, k_2868, k_2880, k_3245, k_3250, k_9551, k_9999, k_65536, k_100000, k_999999, k_1000000, k_2147483647, lt_T, lt_F, le_T, le_F, eq_T, eq_F, ↓reduceIte, not_true_eq_false, not_false_eq_true, or_true, or_false, true_or, false_or, and_true, true_and, and_false, false_and, bI_f, eb, i01_a, if_true]
theorem mf_thickAt (w : WF F) (G : MR m 0 F M) {b x y : Int} (hb : -2147483648 ≤ b ∧ b < 2147483648) (hx : -2147483648 ≤ x ∧ x < 2147483648) (hy : -2147483648 ≤ y ∧ y < 2147483648) {φ : Nat} (hφ : 100 < φ) : mF m M (fX11_thickAt φ m (iI b) (iI x) (iI y) M) (q_thickAt F b x y) := by
  obtain ⟨M1, e, Q, G1, B⟩ := mi_lays w G hφ
  have eb := m_isBed w B hb
  unfold fX11_thickAt fX11_is
  rw [e]
  by_cases hc : 0 ≤ b ∧ b < bN F
  · have ep := m_isPoint (M := M1) hx hy
    unfold s_pt at ep
    rw [s_in_t hc] at eb
    by_cases h1 : (0 ≤ x ∧ x ≤ 999) ∧ 0 ≤ y ∧ y ≤ 999
    · rw [decide_eq_true h1] at ep
      obtain ⟨M2, et, f2, T2⟩ := m_triangleOf w h1.1 h1.2 hφ G1
      have Q2 := Q.trans (QM.w18 f2)
      have G2 := (QM.w18 f2).mr G1
      have B2 := B.fr f2 (by rw [(f2 m (fun q => by have := q.1; omega)).1]) (by rw [(f2 m (fun q => by have := q.1; omega)).1]) (fun z a q => by have := q.1; have := q.2; omega)
      refine ⟨M2, Q2, ?_⟩
      have hb3 := s_tri_bd w x y
      have n2 := w.n2
      by_cases hz : s_tri F x y = -1
      · rw [show q_thickAt F b x y = .inr 6 from by unfold q_thickAt; rw [if_pos ⟨hc, h1⟩, if_pos hz]]
        unfold fM
        rw [hz] at et
        simp (disch := omega) only [iI_add, iI_sub, iI_mul, iI_neg, iI_nat, addm1, ixkI, ↓sbind, sbind, ↓bdS, bdS, ↓nm_eq, ↓jn_eq, iI_lt, iI_le, iI_eq, k_0, k_1, k_2, k_3, k_4, k_5, k_6, k_7, k_8, k_9, k_10, k_11, k_12, k_13, k_14, k_15, k_16, k_17, k_18, k_19, k_20, k_21, k_22, k_23, k_24, k_27, k_30, k_32, k_48, k_57, k_59, k_60, k_61, k_62, k_63, k_64, k_72, k_78, k_80, k_82, k_97, k_99, k_100, k_122, k_244, k_255, k_268, k_280, k_300, k_432, k_650, k_900, k_901, k_999, k_1700, k_2600, k_2601, k_2602, k_2603, k_2604, k_2610, k_2618, k_2682, k_2777, k_2844, k_2868, k_2880, k_3245, k_3250, k_9551, k_9999, k_65536, k_100000, k_999999, k_1000000, k_2147483647, lt_T, lt_F, le_T, le_F, eq_T, eq_F, ↓reduceIte, not_true_eq_false, not_false_eq_true, or_true, or_false, true_or, false_or, and_true, true_and, and_false, false_and, bI_t, eb, ep, et, i01_a, if_true]
      · have ht : 0 ≤ s_tri F x y ∧ s_tri F x y < F 0 2 0 := by omega
        have T2' := T2 hz
        have hbt := w.tr ht
        have habs := s_abs_bd hbt
        have hpos : 0 < s_abs (s_turn F (s_tri F x y)) := by
          have := w.tn ht
          unfold s_abs
          by_cases hs : 0 ≤ s_turn F (s_tri F x y)
          · rw [if_pos hs]; omega
          · rw [if_neg hs]; omega
        have key := lup (N := 3) (P := fun n i => ∀ K, lX11_thickAt_53 K φ m (iI b) (iI (s_tri F x y)) M2 n (lI (s_sg (s_turn F (s_tri F x y)) * sm (fun k => s_wt F (s_tri F x y) k x y * s_thk F b (F 6 (s_tri F x y) k)) i)) (iI i) = K (lI (s_sg (s_turn F (s_tri F x y)) * s_thks F b (s_tri F x y) x y)))
          (fun n K => by
            rw [lX11_thickAt_53_s]
            simp (disch := omega) only [iI_add, iI_sub, iI_mul, iI_neg, iI_nat, addm1, ixkI, ↓sbind, sbind, ↓bdS, bdS, ↓nm_eq, ↓jn_eq, iI_lt, iI_le, iI_eq, k_0, k_1, k_2, k_3, k_4, k_5, k_6, k_7, k_8, k_9, k_10, k_11, k_12, k_13, k_14, k_15, k_16, k_17, k_18, k_19, k_20, k_21, k_22, k_23, k_24, k_27, k_30, k_32, k_48, k_57, k_59, k_60, k_61, k_62, k_63, k_64, k_72, k_78, k_80, k_82, k_97, k_99, k_100, k_122, k_244, k_255, k_268, k_280, k_300, k_432, k_650, k_900, k_901, k_999, k_1700, k_2600, k_2601, k_2602, k_2603, k_2604, k_2610, k_2618, k_2682, k_2777, k_2844, k_2868, k_2880, k_3245, k_3250, k_9551, k_9999, k_65536, k_100000, k_999999, k_1000000, k_2147483647, lt_T, lt_F, le_T, le_F, eq_T, eq_F, ↓reduceIte, not_true_eq_false, not_false_eq_true, or_true, or_false, true_or, false_or, and_true, true_and, and_false, false_and]
            rfl)
          (fun n i i0 i1 ih K => by
            have hco := w.co ht ⟨i0, i1⟩
            have ec := m_corner G2 (t := s_tri F x y) (k := i) (by omega) (by omega)
            have ef := m_thickIn w G2 B2 hc hco hφ
            have bd := s_thk_bd w (x := b) hco
            have wt := T2' i i0 i1
            rw [lX11_thickAt_53_s, ← ih K, sm_s _ i0, ← s_sg_add, ← sw_mul]
            simp (disch := omega) only [iI_add, iI_sub, iI_mul, iI_neg, iI_nat, addm1, ixkI, ↓sbind, sbind, ↓bdS, bdS, ↓nm_eq, ↓jn_eq, iI_lt, iI_le, iI_eq, k_0, k_1, k_2, k_3, k_4, k_5, k_6, k_7, k_8, k_9, k_10, k_11, k_12, k_13, k_14, k_15, k_16, k_17, k_18, k_19, k_20, k_21, k_22, k_23, k_24, k_27, k_30, k_32, k_48, k_57, k_59, k_60, k_61, k_62, k_63, k_64, k_72, k_78, k_80, k_82, k_97, k_99, k_100, k_122, k_244, k_255, k_268, k_280, k_300, k_432, k_650, k_900, k_901, k_999, k_1700, k_2600, k_2601, k_2602, k_2603, k_2604, k_2610, k_2618, k_2682, k_2777, k_2844, k_2868, k_2880, k_3245, k_3250, k_9551, k_9999, k_65536, k_100000, k_999999, k_1000000, k_2147483647, lt_T, lt_F, le_T, le_F, eq_T, eq_F, ↓reduceIte, not_true_eq_false, not_false_eq_true, or_true, or_false, true_or, false_or, and_true, true_and, and_false, false_and, ec, ef, wt, iI_l, lI_mul, lI_add])
          φ 0 (by omega) (by omega) (by omega)
        rw [sm_0, Int.mul_zero] at key
        have hb2 := s_thks_bd (b := b) w ht h1.1 h1.2
        have hb4 := s_sg_bd (s := s_turn F (s_tri F x y)) (c := 100000000000) hb2
        have ett := m_tellsBy (m := m) (M := M2) (n := s_sg (s_turn F (s_tri F x y)) * s_thks F b (s_tri F x y) x y) (b := s_abs (s_turn F (s_tri F x y))) (by omega) (by omega) hφ
        have es := m_size (M := M2) (x := s_turn F (s_tri F x y)) (by omega)
        unfold fM at ett
        rw [show q_thickAt F b x y = .inl (fr (s_sg (s_turn F (s_tri F x y)) * s_thks F b (s_tri F x y) x y) (s_abs (s_turn F (s_tri F x y)))) from by unfold q_thickAt; rw [if_pos ⟨hc, h1⟩, if_neg hz]]
        unfold fM
        simp (disch := omega) only [iI_add, iI_sub, iI_mul, iI_neg, iI_nat, addm1, ixkI, ↓sbind, sbind, ↓bdS, bdS, ↓nm_eq, ↓jn_eq, iI_lt, iI_le, iI_eq, k_0, k_1, k_2, k_3, k_4, k_5, k_6, k_7, k_8, k_9, k_10, k_11, k_12, k_13, k_14, k_15, k_16, k_17, k_18, k_19, k_20, k_21, k_22, k_23, k_24, k_27, k_30, k_32, k_48, k_57, k_59, k_60, k_61, k_62, k_63, k_64, k_72, k_78, k_80, k_82, k_97, k_99, k_100, k_122, k_244, k_255, k_268, k_280, k_300, k_432, k_650, k_900, k_901, k_999, k_1700, k_2600, k_2601, k_2602, k_2603, k_2604, k_2610, k_2618, k_2682, k_2777, k_2844, k_2868, k_2880, k_3245, k_3250, k_9551, k_9999, k_65536, k_100000, k_999999, k_1000000, k_2147483647, lt_T, lt_F, le_T, le_F, eq_T, eq_F, ↓reduceIte, not_true_eq_false, not_false_eq_true, or_true, or_false, true_or, false_or, and_true, true_and, and_false, false_and, bI_t, eb, ep, et, kl_0, key, if_true, m_twiceArea w G2 ht, es, ett, i01_b]
    · refine ⟨M1, Q, ?_⟩
      rw [decide_eq_false h1] at ep
      rw [show q_thickAt F b x y = .inr 1 from if_neg (fun q => h1 q.2)]
      unfold fM
      simp (disch := omega) only [iI_add, iI_sub, iI_mul, iI_neg, iI_nat, addm1, ixkI, ↓sbind, sbind, ↓bdS, bdS, ↓nm_eq, ↓jn_eq, iI_lt, iI_le, iI_eq, k_0, k_1, k_2, k_3, k_4, k_5, k_6, k_7, k_8, k_9, k_10, k_11, k_12, k_13, k_14, k_15, k_16, k_17, k_18, k_19, k_20, k_21, k_22, k_23, k_24, k_27, k_30, k_32, k_48, k_57, k_59, k_60, k_61, k_62, k_63, k_64, k_72, k_78, k_80, k_82, k_97, k_99, k_100, k_122, k_244, k_255, k_268, k_280, k_300, k_432, k_650, k_900, k_901, k_999, k_1700, k_2600, k_2601, k_2602, k_2603, k_2604, k_2610, k_2618, k_2682, k_2777, k_2844, k_2868, k_2880, k_3245, k_3250, k_9551, k_9999, k_65536, k_100000, k_999999, k_1000000, k_2147483647, lt_T, lt_F, le_T, le_F, eq_T, eq_F, ↓reduceIte, not_true_eq_false, not_false_eq_true, or_true, or_false, true_or, false_or, and_true, true_and, and_false, false_and, bI_t, bI_f, eb, ep, i01_a, if_true]
  · refine ⟨M1, Q, ?_⟩
    rw [s_in_f hc] at eb
    rw [show q_thickAt F b x y = .inr 1 from if_neg (fun q => hc q.1)]
    unfold fM
    simp (disch := omega) only [iI_add, iI_sub, iI_mul, iI_neg, iI_nat, addm1, ixkI, ↓sbind, sbind, ↓bdS, bdS, ↓nm_eq, ↓jn_eq, iI_lt, iI_le, iI_eq, k_0, k_1, k_2, k_3, k_4, k_5, k_6, k_7, k_8, k_9, k_10, k_11, k_12, k_13, k_14, k_15, k_16, k_17, k_18, k_19, k_20, k_21, k_22, k_23, k_24, k_27, k_30, k_32, k_48, k_57, k_59, k_60, k_61, k_62, k_63, k_64, k_72, k_78, k_80, k_82, k_97, k_99, k_100, k_122, k_244, k_255, k_268, k_280, k_300, k_432, k_650, k_900, k_901, k_999, k_1700, k_2600, k_2601, k_2602, k_2603, k_2604, k_2610, k_2618, k_2682, k_2777, k_2844, k_2868, k_2880, k_3245, k_3250, k_9551, k_9999, k_65536, k_100000, k_999999, k_1000000, k_2147483647, lt_T, lt_F, le_T, le_F, eq_T, eq_F, ↓reduceIte, not_true_eq_false, not_false_eq_true, or_true, or_false, true_or, false_or, and_true, true_and, and_false, false_and, bI_f, eb, i01_a, if_true]
theorem m_sixVolumes (w : WF F) (G : MR m 0 F M) (B : BM m F M) {b t : Int} (hc : 0 ≤ b ∧ b < bN F) (ht : 0 ≤ t ∧ t < F 0 2 0) {φ : Nat} (hφ : 100 < φ) : fX11_sixVolumes φ m (iI b) (iI t) M = some (lI (s_six F b t)) := by
  have n2 := w.n2
  have hbt := w.tr ht
  have key := lup (N := 3) (P := fun n i => ∀ K, lX11_sixVolumes_5 K φ m (iI b) (iI t) M n (lI (sm (fun k => s_thk F b (F 6 t k)) i)) (iI i) = K (lI (sm (fun k => s_thk F b (F 6 t k)) 3)))
    (fun n K => by
      rw [lX11_sixVolumes_5_s]
      simp (disch := omega) only [iI_add, iI_sub, iI_mul, iI_neg, iI_nat, addm1, ixkI, ↓sbind, sbind, ↓bdS, bdS, ↓nm_eq, ↓jn_eq, iI_lt, iI_le, iI_eq, k_0, k_1, k_2, k_3, k_4, k_5, k_6, k_7, k_8, k_9, k_10, k_11, k_12, k_13, k_14, k_15, k_16, k_17, k_18, k_19, k_20, k_21, k_22, k_23, k_24, k_27, k_30, k_32, k_48, k_57, k_59, k_60, k_61, k_62, k_63, k_64, k_72, k_78, k_80, k_82, k_97, k_99, k_100, k_122, k_244, k_255, k_268, k_280, k_300, k_432, k_650, k_900, k_901, k_999, k_1700, k_2600, k_2601, k_2602, k_2603, k_2604, k_2610, k_2618, k_2682, k_2777, k_2844, k_2868, k_2880, k_3245, k_3250, k_9551, k_9999, k_65536, k_100000, k_999999, k_1000000, k_2147483647, lt_T, lt_F, le_T, le_F, eq_T, eq_F, ↓reduceIte, not_true_eq_false, not_false_eq_true, or_true, or_false, true_or, false_or, and_true, true_and, and_false, false_and])
    (fun n i i0 i1 ih K => by
      have hco := w.co ht ⟨i0, i1⟩
      have ec := m_corner G (t := t) (k := i) (by omega) (by omega)
      have ef := m_thickIn w G B hc hco hφ
      have bd := s_thk_bd w (x := b) hco
      rw [lX11_sixVolumes_5_s, ← ih K, sm_s _ i0]
      simp (disch := omega) only [iI_add, iI_sub, iI_mul, iI_neg, iI_nat, addm1, ixkI, ↓sbind, sbind, ↓bdS, bdS, ↓nm_eq, ↓jn_eq, iI_lt, iI_le, iI_eq, k_0, k_1, k_2, k_3, k_4, k_5, k_6, k_7, k_8, k_9, k_10, k_11, k_12, k_13, k_14, k_15, k_16, k_17, k_18, k_19, k_20, k_21, k_22, k_23, k_24, k_27, k_30, k_32, k_48, k_57, k_59, k_60, k_61, k_62, k_63, k_64, k_72, k_78, k_80, k_82, k_97, k_99, k_100, k_122, k_244, k_255, k_268, k_280, k_300, k_432, k_650, k_900, k_901, k_999, k_1700, k_2600, k_2601, k_2602, k_2603, k_2604, k_2610, k_2618, k_2682, k_2777, k_2844, k_2868, k_2880, k_3245, k_3250, k_9551, k_9999, k_65536, k_100000, k_999999, k_1000000, k_2147483647, lt_T, lt_F, le_T, le_F, eq_T, eq_F, ↓reduceIte, not_true_eq_false, not_false_eq_true, or_true, or_false, true_or, false_or, and_true, true_and, and_false, false_and, ec, ef, iI_l, lI_add])
    φ 0 (by omega) (by omega) (by omega)
  rw [sm_0] at key
  have es := m_size (M := M) (x := s_turn F t) (by omega)
  unfold fX11_sixVolumes s_six
  simp only [k_0, kl_0, key, m_twiceArea w G ht, sbind, es, lI_mul]
theorem mf_volume (w : WF F) (G : MR m 0 F M) {b t : Int} (hb : -2147483648 ≤ b ∧ b < 2147483648) (ht : -2147483648 ≤ t ∧ t < 2147483648) {φ : Nat} (hφ : 100 < φ) : mF m M (fX11_volume φ m (iI b) (iI t) M) (q_volume F b t) := by
  obtain ⟨M1, e, Q, G1, B⟩ := mi_lays w G hφ
  refine ⟨M1, Q, ?_⟩
  have eb := m_isBed w B hb
  have ei := m_isTriangle w G1 ht
  unfold fX11_volume fX11_is
  rw [e]
  by_cases hc : 0 ≤ b ∧ b < bN F
  · rw [s_in_t hc] at eb
    by_cases h1 : 0 ≤ t ∧ t < F 0 2 0
    · rw [s_in_t h1] at ei
      have ea := m_isAcross w G1 h1 hφ
      cases hs : s_split F t
      · rw [hs] at ea
        have ex := m_sixVolumes w G1 B hc h1 hφ
        have hb2 := s_six_bd (b := b) w h1
        have ett := m_tellsBy (m := m) (M := M1) (n := s_six F b t) (b := 6) (by omega) (by omega) hφ
        unfold fM at ett
        rw [show q_volume F b t = .inl (fr (s_six F b t) 6) from by unfold q_volume; rw [if_pos ⟨hc, h1⟩, hs]; rfl]
        unfold fM
        simp (disch := omega) only [iI_add, iI_sub, iI_mul, iI_neg, iI_nat, addm1, ixkI, ↓sbind, sbind, ↓bdS, bdS, ↓nm_eq, ↓jn_eq, iI_lt, iI_le, iI_eq, k_0, k_1, k_2, k_3, k_4, k_5, k_6, k_7, k_8, k_9, k_10, k_11, k_12, k_13, k_14, k_15, k_16, k_17, k_18, k_19, k_20, k_21, k_22, k_23, k_24, k_27, k_30, k_32, k_48, k_57, k_59, k_60, k_61, k_62, k_63, k_64, k_72, k_78, k_80, k_82, k_97, k_99, k_100, k_122, k_244, k_255, k_268, k_280, k_300, k_432, k_650, k_900, k_901, k_999, k_1700, k_2600, k_2601, k_2602, k_2603, k_2604, k_2610, k_2618, k_2682, k_2777, k_2844, k_2868, k_2880, k_3245, k_3250, k_9551, k_9999, k_65536, k_100000, k_999999, k_1000000, k_2147483647, lt_T, lt_F, le_T, le_F, eq_T, eq_F, ↓reduceIte, not_true_eq_false, not_false_eq_true, or_true, or_false, true_or, false_or, and_true, true_and, and_false, false_and, bI_t, bI_f, eb, ei, ea, ex, kl_6, ett, i01_b, if_true]
      · rw [hs] at ea
        rw [show q_volume F b t = .inr 7 from by unfold q_volume; rw [if_pos ⟨hc, h1⟩, hs]; rfl]
        unfold fM
        simp (disch := omega) only [iI_add, iI_sub, iI_mul, iI_neg, iI_nat, addm1, ixkI, ↓sbind, sbind, ↓bdS, bdS, ↓nm_eq, ↓jn_eq, iI_lt, iI_le, iI_eq, k_0, k_1, k_2, k_3, k_4, k_5, k_6, k_7, k_8, k_9, k_10, k_11, k_12, k_13, k_14, k_15, k_16, k_17, k_18, k_19, k_20, k_21, k_22, k_23, k_24, k_27, k_30, k_32, k_48, k_57, k_59, k_60, k_61, k_62, k_63, k_64, k_72, k_78, k_80, k_82, k_97, k_99, k_100, k_122, k_244, k_255, k_268, k_280, k_300, k_432, k_650, k_900, k_901, k_999, k_1700, k_2600, k_2601, k_2602, k_2603, k_2604, k_2610, k_2618, k_2682, k_2777, k_2844, k_2868, k_2880, k_3245, k_3250, k_9551, k_9999, k_65536, k_100000, k_999999, k_1000000, k_2147483647, lt_T, lt_F, le_T, le_F, eq_T, eq_F, ↓reduceIte, not_true_eq_false, not_false_eq_true, or_true, or_false, true_or, false_or, and_true, true_and, and_false, false_and, bI_t, eb, ei, ea, i01_a, if_true]
    · rw [s_in_f h1] at ei
      rw [show q_volume F b t = .inr 1 from if_neg (fun q => h1 q.2)]
      unfold fM
      simp (disch := omega) only [iI_add, iI_sub, iI_mul, iI_neg, iI_nat, addm1, ixkI, ↓sbind, sbind, ↓bdS, bdS, ↓nm_eq, ↓jn_eq, iI_lt, iI_le, iI_eq, k_0, k_1, k_2, k_3, k_4, k_5, k_6, k_7, k_8, k_9, k_10, k_11, k_12, k_13, k_14, k_15, k_16, k_17, k_18, k_19, k_20, k_21, k_22, k_23, k_24, k_27, k_30, k_32, k_48, k_57, k_59, k_60, k_61, k_62, k_63, k_64, k_72, k_78, k_80, k_82, k_97, k_99, k_100, k_122, k_244, k_255, k_268, k_280, k_300, k_432, k_650, k_900, k_901, k_999, k_1700, k_2600, k_2601, k_2602, k_2603, k_2604, k_2610, k_2618, k_2682, k_2777, k_2844, k_2868, k_2880, k_3245, k_3250, k_9551, k_9999, k_65536, k_100000, k_999999, k_1000000, k_2147483647, lt_T, lt_F, le_T, le_F, eq_T, eq_F, ↓reduceIte, not_true_eq_false, not_false_eq_true, or_true, or_false, true_or, false_or, and_true, true_and, and_false, false_and, bI_t, bI_f, eb, ei, i01_a, if_true]
  · rw [s_in_f hc] at eb
    rw [show q_volume F b t = .inr 1 from if_neg (fun q => hc q.1)]
    unfold fM
    simp (disch := omega) only [iI_add, iI_sub, iI_mul, iI_neg, iI_nat, addm1, ixkI, ↓sbind, sbind, ↓bdS, bdS, ↓nm_eq, ↓jn_eq, iI_lt, iI_le, iI_eq, k_0, k_1, k_2, k_3, k_4, k_5, k_6, k_7, k_8, k_9, k_10, k_11, k_12, k_13, k_14, k_15, k_16, k_17, k_18, k_19, k_20, k_21, k_22, k_23, k_24, k_27, k_30, k_32, k_48, k_57, k_59, k_60, k_61, k_62, k_63, k_64, k_72, k_78, k_80, k_82, k_97, k_99, k_100, k_122, k_244, k_255, k_268, k_280, k_300, k_432, k_650, k_900, k_901, k_999, k_1700, k_2600, k_2601, k_2602, k_2603, k_2604, k_2610, k_2618, k_2682, k_2777, k_2844, k_2868, k_2880, k_3245, k_3250, k_9551, k_9999, k_65536, k_100000, k_999999, k_1000000, k_2147483647, lt_T, lt_F, le_T, le_F, eq_T, eq_F, ↓reduceIte, not_true_eq_false, not_false_eq_true, or_true, or_false, true_or, false_or, and_true, true_and, and_false, false_and, bI_f, eb, i01_a, if_true]
theorem mf_volumeOf (w : WF F) (G : MR m 0 F M) {b : Int} (hb : -2147483648 ≤ b ∧ b < 2147483648) {φ : Nat} (hφ : 100 < φ) : mF m M (fX11_volumeOf φ m (iI b) M) (q_volumeOf F b) := by
  obtain ⟨M1, e, Q, G1, B⟩ := mi_lays w G hφ
  refine ⟨M1, Q, ?_⟩
  have eb := m_isBed w B hb
  have n2 := w.n2
  unfold fX11_volumeOf
  rw [e]
  by_cases hc : 0 ≤ b ∧ b < bN F
  · rw [s_in_t hc] at eb
    rw [show q_volumeOf F b = .inl (fr (s_vols F b) 6) from if_pos hc]
    have key := lup (N := F 0 2 0) (P := fun n i => lX11_volumeOf_23 φ m (iI b) M1 n (lI (sm (fun t => if s_split F t then 0 else s_six F b t) i)) (iI i) = fM m M1 (.inl (fr (s_vols F b) 6)))
      (fun n => by
        have hb2 := s_vols_bd w b (F 0 2 0) n2.1 (Int.le_refl _)
        have ett := m_tellsBy (m := m) (M := M1) (n := s_vols F b) (b := 6) (by unfold s_vols; omega) (by omega) hφ
        have ev : sm (fun t => if s_split F t then 0 else s_six F b t) (F 0 2 0) = s_vols F b := rfl
        rw [lX11_volumeOf_23_s, ev]
        unfold fM at ett ⊢
        simp (disch := omega) only [iI_add, iI_sub, iI_mul, iI_neg, iI_nat, addm1, ixkI, ↓sbind, sbind, ↓bdS, bdS, ↓nm_eq, ↓jn_eq, iI_lt, iI_le, iI_eq, k_0, k_1, k_2, k_3, k_4, k_5, k_6, k_7, k_8, k_9, k_10, k_11, k_12, k_13, k_14, k_15, k_16, k_17, k_18, k_19, k_20, k_21, k_22, k_23, k_24, k_27, k_30, k_32, k_48, k_57, k_59, k_60, k_61, k_62, k_63, k_64, k_72, k_78, k_80, k_82, k_97, k_99, k_100, k_122, k_244, k_255, k_268, k_280, k_300, k_432, k_650, k_900, k_901, k_999, k_1700, k_2600, k_2601, k_2602, k_2603, k_2604, k_2610, k_2618, k_2682, k_2777, k_2844, k_2868, k_2880, k_3245, k_3250, k_9551, k_9999, k_65536, k_100000, k_999999, k_1000000, k_2147483647, lt_T, lt_F, le_T, le_F, eq_T, eq_F, ↓reduceIte, not_true_eq_false, not_false_eq_true, or_true, or_false, true_or, false_or, and_true, true_and, and_false, false_and, G1.c2, kl_6, ett, i01_b, if_true])
      (fun n i i0 i1 ih => by
        have ea := m_isAcross w G1 ⟨i0, i1⟩ hφ
        have ex := m_sixVolumes w G1 B hc ⟨i0, i1⟩ hφ
        rw [lX11_volumeOf_23_s, ← ih, sm_s _ i0]
        cases hs : s_split F i
        · rw [hs] at ea
          simp (disch := omega) only [iI_add, iI_sub, iI_mul, iI_neg, iI_nat, addm1, ixkI, ↓sbind, sbind, ↓bdS, bdS, ↓nm_eq, ↓jn_eq, iI_lt, iI_le, iI_eq, k_0, k_1, k_2, k_3, k_4, k_5, k_6, k_7, k_8, k_9, k_10, k_11, k_12, k_13, k_14, k_15, k_16, k_17, k_18, k_19, k_20, k_21, k_22, k_23, k_24, k_27, k_30, k_32, k_48, k_57, k_59, k_60, k_61, k_62, k_63, k_64, k_72, k_78, k_80, k_82, k_97, k_99, k_100, k_122, k_244, k_255, k_268, k_280, k_300, k_432, k_650, k_900, k_901, k_999, k_1700, k_2600, k_2601, k_2602, k_2603, k_2604, k_2610, k_2618, k_2682, k_2777, k_2844, k_2868, k_2880, k_3245, k_3250, k_9551, k_9999, k_65536, k_100000, k_999999, k_1000000, k_2147483647, lt_T, lt_F, le_T, le_F, eq_T, eq_F, ↓reduceIte, not_true_eq_false, not_false_eq_true, or_true, or_false, true_or, false_or, and_true, true_and, and_false, false_and, G1.c2, ea, bI_f, ex, lI_add, Bool.false_eq_true, if_false]
        · rw [hs] at ea
          simp (disch := omega) only [iI_add, iI_sub, iI_mul, iI_neg, iI_nat, addm1, ixkI, ↓sbind, sbind, ↓bdS, bdS, ↓nm_eq, ↓jn_eq, iI_lt, iI_le, iI_eq, k_0, k_1, k_2, k_3, k_4, k_5, k_6, k_7, k_8, k_9, k_10, k_11, k_12, k_13, k_14, k_15, k_16, k_17, k_18, k_19, k_20, k_21, k_22, k_23, k_24, k_27, k_30, k_32, k_48, k_57, k_59, k_60, k_61, k_62, k_63, k_64, k_72, k_78, k_80, k_82, k_97, k_99, k_100, k_122, k_244, k_255, k_268, k_280, k_300, k_432, k_650, k_900, k_901, k_999, k_1700, k_2600, k_2601, k_2602, k_2603, k_2604, k_2610, k_2618, k_2682, k_2777, k_2844, k_2868, k_2880, k_3245, k_3250, k_9551, k_9999, k_65536, k_100000, k_999999, k_1000000, k_2147483647, lt_T, lt_F, le_T, le_F, eq_T, eq_F, ↓reduceIte, not_true_eq_false, not_false_eq_true, or_true, or_false, true_or, false_or, and_true, true_and, and_false, false_and, G1.c2, ea, bI_t, if_true, kl_0, lI_add])
      φ 0 (by omega) (by omega) (by omega)
    rw [sm_0] at key
    simp (disch := omega) only [iI_add, iI_sub, iI_mul, iI_neg, iI_nat, addm1, ixkI, ↓sbind, sbind, ↓bdS, bdS, ↓nm_eq, ↓jn_eq, iI_lt, iI_le, iI_eq, k_0, k_1, k_2, k_3, k_4, k_5, k_6, k_7, k_8, k_9, k_10, k_11, k_12, k_13, k_14, k_15, k_16, k_17, k_18, k_19, k_20, k_21, k_22, k_23, k_24, k_27, k_30, k_32, k_48, k_57, k_59, k_60, k_61, k_62, k_63, k_64, k_72, k_78, k_80, k_82, k_97, k_99, k_100, k_122, k_244, k_255, k_268, k_280, k_300, k_432, k_650, k_900, k_901, k_999, k_1700, k_2600, k_2601, k_2602, k_2603, k_2604, k_2610, k_2618, k_2682, k_2777, k_2844, k_2868, k_2880, k_3245, k_3250, k_9551, k_9999, k_65536, k_100000, k_999999, k_1000000, k_2147483647, lt_T, lt_F, le_T, le_F, eq_T, eq_F, ↓reduceIte, not_true_eq_false, not_false_eq_true, or_true, or_false, true_or, false_or, and_true, true_and, and_false, false_and, bI_t, eb, kl_0]
    exact key
  · unfold fX11_is
    rw [s_in_f hc] at eb
    rw [show q_volumeOf F b = .inr 1 from if_neg hc]
    unfold fM
    simp (disch := omega) only [iI_add, iI_sub, iI_mul, iI_neg, iI_nat, addm1, ixkI, ↓sbind, sbind, ↓bdS, bdS, ↓nm_eq, ↓jn_eq, iI_lt, iI_le, iI_eq, k_0, k_1, k_2, k_3, k_4, k_5, k_6, k_7, k_8, k_9, k_10, k_11, k_12, k_13, k_14, k_15, k_16, k_17, k_18, k_19, k_20, k_21, k_22, k_23, k_24, k_27, k_30, k_32, k_48, k_57, k_59, k_60, k_61, k_62, k_63, k_64, k_72, k_78, k_80, k_82, k_97, k_99, k_100, k_122, k_244, k_255, k_268, k_280, k_300, k_432, k_650, k_900, k_901, k_999, k_1700, k_2600, k_2601, k_2602, k_2603, k_2604, k_2610, k_2618, k_2682, k_2777, k_2844, k_2868, k_2880, k_3245, k_3250, k_9551, k_9999, k_65536, k_100000, k_999999, k_1000000, k_2147483647, lt_T, lt_F, le_T, le_F, eq_T, eq_F, ↓reduceIte, not_true_eq_false, not_false_eq_true, or_true, or_false, true_or, false_or, and_true, true_and, and_false, false_and, bI_f, eb, i01_a, if_true]
theorem m_tilt59 (w : WF F) {b t x : Int} (hc : 0 ≤ b ∧ b < bN F) (ht : 0 ≤ t ∧ t < F 0 2 0) (hx : 0 ≤ x ∧ x ≤ 1) {φ : Nat} (hφ : 100 < φ) (K : Mem → Option (Int32 × Mem)) : ∀ (n : Nat) (i : Int), 0 ≤ i → i ≤ 3 → 3 < n + i → ∀ M, MR m 0 F M → BM m F M → (∀ k : Int, 0 ≤ k → k < i → M.2.1 (m + 18) k.toNat = lI (s_dc F b t k) ∧ M.2.1 (m + 19) k.toNat = lI (F 3 (F 6 t k) (1 - x))) → ∃ M', Fr (Rg (m + 18) (m + 19)) M M' ∧ if ff (fun k => s_fst F b (F 6 t k) == -1) 3 i == -1 then lX11_tilt_59 K φ m (iI b) (iI t) (iI x) (m + 19) n (iI i) M = K M' ∧ ∀ k : Int, 0 ≤ k → k < 3 → M'.2.1 (m + 18) k.toNat = lI (s_dc F b t k) ∧ M'.2.1 (m + 19) k.toNat = lI (F 3 (F 6 t k) (1 - x)) else lX11_tilt_59 K φ m (iI b) (iI t) (iI x) (m + 19) n (iI i) M = some (iI 0, stI M' m 2 (iI 7)) := by
  have n2 := w.n2
  have n1 := w.n1
  refine lup (N := 3) (P := fun n i => ∀ M, MR m 0 F M → BM m F M → (∀ k : Int, 0 ≤ k → k < i → M.2.1 (m + 18) k.toNat = lI (s_dc F b t k) ∧ M.2.1 (m + 19) k.toNat = lI (F 3 (F 6 t k) (1 - x))) → ∃ M', Fr (Rg (m + 18) (m + 19)) M M' ∧ if ff (fun k => s_fst F b (F 6 t k) == -1) 3 i == -1 then lX11_tilt_59 K φ m (iI b) (iI t) (iI x) (m + 19) n (iI i) M = K M' ∧ ∀ k : Int, 0 ≤ k → k < 3 → M'.2.1 (m + 18) k.toNat = lI (s_dc F b t k) ∧ M'.2.1 (m + 19) k.toNat = lI (F 3 (F 6 t k) (1 - x)) else lX11_tilt_59 K φ m (iI b) (iI t) (iI x) (m + 19) n (iI i) M = some (iI 0, stI M' m 2 (iI 7))) ?_ ?_
  · intro n M hG hB hM
    refine ⟨M, Fr.refl M, ?_⟩
    rw [ff_e, if_pos (by decide : ((-1 : Int) == -1) = true)]
    refine ⟨?_, hM⟩
    rw [lX11_tilt_59_s]
    simp (disch := omega) only [iI_add, iI_sub, iI_mul, iI_neg, iI_nat, addm1, ixkI, ↓sbind, sbind, ↓bdS, bdS, ↓nm_eq, ↓jn_eq, iI_lt, iI_le, iI_eq, k_0, k_1, k_2, k_3, k_4, k_5, k_6, k_7, k_8, k_9, k_10, k_11, k_12, k_13, k_14, k_15, k_16, k_17, k_18, k_19, k_20, k_21, k_22, k_23, k_24, k_27, k_30, k_32, k_48, k_57, k_59, k_60, k_61, k_62, k_63, k_64, k_72, k_78, k_80, k_82, k_97, k_99, k_100, k_122, k_244, k_255, k_268, k_280, k_300, k_432, k_650, k_900, k_901, k_999, k_1700, k_2600, k_2601, k_2602, k_2603, k_2604, k_2610, k_2618, k_2682, k_2777, k_2844, k_2868, k_2880, k_3245, k_3250, k_9551, k_9999, k_65536, k_100000, k_999999, k_1000000, k_2147483647, lt_T, lt_F, le_T, le_F, eq_T, eq_F, ↓reduceIte, not_true_eq_false, not_false_eq_true, or_true, or_false, true_or, false_or, and_true, true_and, and_false, false_and]
  · intro n i i0 i1 ih M hG hB hM
    have hco := w.co ht ⟨i0, i1⟩
    have ec := m_corner hG (t := t) (k := i) (by omega) (by omega)
    have ef := m_firstOf w hG hB hc hco hφ
    have z := s_fst_bd w (x := b) hco
    by_cases hd : s_fst F b (F 6 t i) = -1
    · refine ⟨M, Fr.refl M, ?_⟩
      rw [ff_t i1 (by simpa using hd), if_neg (by simp <;> omega), lX11_tilt_59_s]
      unfold fX11_is
      simp (disch := omega) only [iI_add, iI_sub, iI_mul, iI_neg, iI_nat, addm1, ixkI, ↓sbind, sbind, ↓bdS, bdS, ↓nm_eq, ↓jn_eq, iI_lt, iI_le, iI_eq, k_0, k_1, k_2, k_3, k_4, k_5, k_6, k_7, k_8, k_9, k_10, k_11, k_12, k_13, k_14, k_15, k_16, k_17, k_18, k_19, k_20, k_21, k_22, k_23, k_24, k_27, k_30, k_32, k_48, k_57, k_59, k_60, k_61, k_62, k_63, k_64, k_72, k_78, k_80, k_82, k_97, k_99, k_100, k_122, k_244, k_255, k_268, k_280, k_300, k_432, k_650, k_900, k_901, k_999, k_1700, k_2600, k_2601, k_2602, k_2603, k_2604, k_2610, k_2618, k_2682, k_2777, k_2844, k_2868, k_2880, k_3245, k_3250, k_9551, k_9999, k_65536, k_100000, k_999999, k_1000000, k_2147483647, lt_T, lt_F, le_T, le_F, eq_T, eq_F, ↓reduceIte, not_true_eq_false, not_false_eq_true, or_true, or_false, true_or, false_or, and_true, true_and, and_false, false_and, ec, ef, hd, i01_a, if_true]
    · have bd := w.depth hco (n := s_fst F b (F 6 t i)) (by omega)
      have hF1 : Fr (Rg (m + 18) (m + 19)) M (stL M (m + 19) i.toNat (lI (F 3 (F 6 t i) (1 - x)))) := Fr.stL ⟨by omega, by omega⟩ (Fr.refl M)
      have hF2 : Fr (Rg (m + 18) (m + 19)) M (stL (stL M (m + 19) i.toNat (lI (F 3 (F 6 t i) (1 - x)))) (m + 18) i.toNat (lI (s_dc F b t i))) := Fr.stL ⟨by omega, by omega⟩ hF1
      have G1 := hG.fr hF1 (fun q => by have := q.1; omega)
      have ec2 := m_corner G1 (t := t) (k := i) (by omega) (by omega)
      have ed := m_depthOf w G1 (k := s_fst F b (F 6 t i)) hco (by omega) hφ
      obtain ⟨M', f, T⟩ := ih (stL (stL M (m + 19) i.toNat (lI (F 3 (F 6 t i) (1 - x)))) (m + 18) i.toNat (lI (s_dc F b t i))) (hG.fr hF2 (fun q => by have := q.1; omega)) (hB.fr hF2 rfl rfl (fun z a q => by have := q.1; have := q.2; omega)) (fun k k0 k1 => by
        by_cases hk : k = i
        · rw [hk]
          exact ⟨rL_at rfl rfl, by rw [rL_ng (by omega)]; exact rL_at rfl rfl⟩
        · rw [rL_nk (by omega), rL_ng (by omega), rL_ng (by omega), rL_nk (by omega)]
          exact hM k k0 (by omega))
      refine ⟨M', hF2.trans f, ?_⟩
      rw [ff_f i1 (by simpa using hd)]
      have step : lX11_tilt_59 K φ m (iI b) (iI t) (iI x) (m + 19) (n + 1) (iI i) M = lX11_tilt_59 K φ m (iI b) (iI t) (iI x) (m + 19) n (iI (i + 1)) (stL (stL M (m + 19) i.toNat (lI (F 3 (F 6 t i) (1 - x)))) (m + 18) i.toNat (lI (s_dc F b t i))) := by
        have hrow := hG.hw (k := F 6 t i) (w := 1 - x) ⟨by omega, by omega⟩
        rw [show 82 + 27 * F 6 t i + (1 - x) = 82 + 27 * F 6 t i + 1 - x from by omega] at hrow
        have hb9 : 0 ≤ F 3 (F 6 t i) (1 - x) ∧ F 3 (F 6 t i) (1 - x) ≤ 999 := by
          by_cases hx0 : x = 0
          · rw [hx0]; exact w.y hco
          · rw [show x = 1 from by omega]; exact w.x hco
        have edc : s_depth F (F 6 t i) (s_fst F b (F 6 t i)) = s_dc F b t i := rfl
        rw [edc] at ed bd
        rw [lX11_tilt_59_s]
        unfold fX11_holeRow
        simp (disch := omega) only [iI_add, iI_sub, iI_mul, iI_neg, iI_nat, addm1, ixkI, ↓sbind, sbind, ↓bdS, bdS, ↓nm_eq, ↓jn_eq, iI_lt, iI_le, iI_eq, k_0, k_1, k_2, k_3, k_4, k_5, k_6, k_7, k_8, k_9, k_10, k_11, k_12, k_13, k_14, k_15, k_16, k_17, k_18, k_19, k_20, k_21, k_22, k_23, k_24, k_27, k_30, k_32, k_48, k_57, k_59, k_60, k_61, k_62, k_63, k_64, k_72, k_78, k_80, k_82, k_97, k_99, k_100, k_122, k_244, k_255, k_268, k_280, k_300, k_432, k_650, k_900, k_901, k_999, k_1700, k_2600, k_2601, k_2602, k_2603, k_2604, k_2610, k_2618, k_2682, k_2777, k_2844, k_2868, k_2880, k_3245, k_3250, k_9551, k_9999, k_65536, k_100000, k_999999, k_1000000, k_2147483647, lt_T, lt_F, le_T, le_F, eq_T, eq_F, ↓reduceIte, not_true_eq_false, not_false_eq_true, or_true, or_false, true_or, false_or, and_true, true_and, and_false, false_and, ec, ef, hrow, iI_l, ec2, ed]
      rw [step]
      exact T
theorem mf_tilt (w : WF F) (G : MR m 0 F M) {b t x : Int} (hb : -2147483648 ≤ b ∧ b < 2147483648) (ht : -2147483648 ≤ t ∧ t < 2147483648) (hx : -2147483648 ≤ x ∧ x < 2147483648) {φ : Nat} (hφ : 100 < φ) : mF m M (fX11_tilt φ m (iI b) (iI t) (iI x) M) (q_tilt F b t x) := by
  obtain ⟨M1, e, Q, G1, B⟩ := mi_lays w G hφ
  have eb := m_isBed w B hb
  have ei := m_isTriangle w G1 ht
  unfold fX11_tilt
  rw [e]
  by_cases hc : 0 ≤ b ∧ b < bN F
  · rw [s_in_t hc] at eb
    by_cases h1 : 0 ≤ t ∧ t < F 0 2 0
    · rw [s_in_t h1] at ei
      by_cases hx' : 0 ≤ x ∧ x ≤ 1
      · have ea := m_isAcross w G1 h1 hφ
        cases hs : s_split F t
        · rw [hs] at ea
          simp (disch := omega) only [bdS, sbind, eb, ei, ea, bI_t, bI_f, k_0, k_1, k_2, iI_eq, iI_lt, iI_le, lt_T, lt_F, le_T, le_F, eq_T, eq_F, ↓reduceIte, not_true_eq_false, not_false_eq_true, or_true, or_false, true_or, false_or, and_true, true_and, and_false, false_and]
          obtain ⟨M2, f2, T2⟩ := m_tilt59 (m := m) w hc h1 hx' hφ _ φ 0 (by omega) (by omega) (by omega) M1 G1 B (fun k k0 k1 => by omega)
          have Q2 : QM m M1 M2 := ⟨f2.mono fun z q => Or.inr (Or.inr ⟨by have := q.1; omega, by have := q.2; omega⟩), fun j _ _ => by rw [(f2 m (fun q => by have := q.1; omega)).1], (f2 m (fun q => by have := q.1; omega)).2.1⟩
          refine ⟨M2, Q.trans Q2, ?_⟩
          have hall : (ff (fun k => s_fst F b (F 6 t k) == -1) 3 0 == -1) = s_all F b t := rfl
          rw [hall] at T2
          cases hal : s_all F b t
          · rw [hal, if_neg (by simp)] at T2
            rw [T2, show q_tilt F b t x = .inr 7 from by unfold q_tilt; rw [if_pos ⟨hc, h1, hx'⟩, if_neg (by rw [hal]; simp)]]
            rfl
          · rw [hal, if_pos rfl] at T2
            obtain ⟨T3, T4⟩ := T2
            rw [T3]
            have G2 := Q2.mr G1
            have d0 := T4 0 (by omega) (by omega)
            have d1 := T4 1 (by omega) (by omega)
            have d2 := T4 2 (by omega) (by omega)
            have hgb := s_grow_bd (x := x) w h1 hal
            have hgb2 := s_sg_bd (s := s_turn F t) (c := 100000000000) hgb
            have hbt := w.tr h1
            have hnz := w.tn h1
            have etw := m_twiceArea w G2 h1
            have ett := m_tellsBy (m := m) (M := M2) (n := s_sg (s_turn F t) * s_grow F b t x) (b := s_abs (s_turn F t)) (by omega) (by unfold s_abs; by_cases hh : 0 ≤ s_turn F t <;> simp only [hh, if_true, if_false] <;> omega) hφ
            unfold fM at ett
            rw [show q_tilt F b t x = .inl (fr (s_sg (s_turn F t) * s_grow F b t x) (s_abs (s_turn F t))) from by unfold q_tilt; rw [if_pos ⟨hc, h1, hx'⟩, if_pos ⟨hs, hal⟩]]
            unfold fM
            rw [s_sg_mul] at ett ⊢
            unfold s_abs at ett ⊢
            by_cases hx0 : x = 0
            · have eg : s_grow F b t x = (s_dc F b t 1 - s_dc F b t 0) * (F 3 (F 6 t 2) 1 - F 3 (F 6 t 0) 1) - (s_dc F b t 2 - s_dc F b t 0) * (F 3 (F 6 t 1) 1 - F 3 (F 6 t 0) 1) := if_pos hx0
              rw [hx0, Int.sub_zero] at d0 d1 d2
              rw [← eg.symm] at ett hgb ⊢
              by_cases hpos : 0 ≤ s_turn F t
              · rw [if_pos hpos, if_pos hpos] at ett ⊢
                simp (disch := omega) only [iI_add, iI_sub, iI_mul, iI_neg, iI_nat, addm1, ixkI, ↓sbind, sbind, ↓bdS, bdS, ↓nm_eq, ↓jn_eq, iI_lt, iI_le, iI_eq, k_0, k_1, k_2, k_3, k_4, k_5, k_6, k_7, k_8, k_9, k_10, k_11, k_12, k_13, k_14, k_15, k_16, k_17, k_18, k_19, k_20, k_21, k_22, k_23, k_24, k_27, k_30, k_32, k_48, k_57, k_59, k_60, k_61, k_62, k_63, k_64, k_72, k_78, k_80, k_82, k_97, k_99, k_100, k_122, k_244, k_255, k_268, k_280, k_300, k_432, k_650, k_900, k_901, k_999, k_1700, k_2600, k_2601, k_2602, k_2603, k_2604, k_2610, k_2618, k_2682, k_2777, k_2844, k_2868, k_2880, k_3245, k_3250, k_9551, k_9999, k_65536, k_100000, k_999999, k_1000000, k_2147483647, lt_T, lt_F, le_T, le_F, eq_T, eq_F, ↓reduceIte, not_true_eq_false, not_false_eq_true, or_true, or_false, true_or, false_or, and_true, true_and, and_false, false_and, d0, d1, d2, lI_sub, lI_mul, etw, kl_0, lI_le, ett, i01_b, if_true]
              · rw [if_neg hpos, if_neg hpos] at ett ⊢
                rw [Int.zero_sub] at ett ⊢
                simp (disch := omega) only [iI_add, iI_sub, iI_mul, iI_neg, iI_nat, addm1, ixkI, ↓sbind, sbind, ↓bdS, bdS, ↓nm_eq, ↓jn_eq, iI_lt, iI_le, iI_eq, k_0, k_1, k_2, k_3, k_4, k_5, k_6, k_7, k_8, k_9, k_10, k_11, k_12, k_13, k_14, k_15, k_16, k_17, k_18, k_19, k_20, k_21, k_22, k_23, k_24, k_27, k_30, k_32, k_48, k_57, k_59, k_60, k_61, k_62, k_63, k_64, k_72, k_78, k_80, k_82, k_97, k_99, k_100, k_122, k_244, k_255, k_268, k_280, k_300, k_432, k_650, k_900, k_901, k_999, k_1700, k_2600, k_2601, k_2602, k_2603, k_2604, k_2610, k_2618, k_2682, k_2777, k_2844, k_2868, k_2880, k_3245, k_3250, k_9551, k_9999, k_65536, k_100000, k_999999, k_1000000, k_2147483647, lt_T, lt_F, le_T, le_F, eq_T, eq_F, ↓reduceIte, not_true_eq_false, not_false_eq_true, or_true, or_false, true_or, false_or, and_true, true_and, and_false, false_and, d0, d1, d2, lI_sub, lI_mul, etw, kl_0, lI_le, lI_neg, ett, i01_b, if_true]
            · have eg : s_grow F b t x = -((s_dc F b t 1 - s_dc F b t 0) * (F 3 (F 6 t 2) 0 - F 3 (F 6 t 0) 0) - (s_dc F b t 2 - s_dc F b t 0) * (F 3 (F 6 t 1) 0 - F 3 (F 6 t 0) 0)) := by
                unfold s_grow
                rw [if_neg hx0]
                omega
              rw [show x = 1 from by omega, show (1 : Int) - 1 = 0 from rfl] at d0 d1 d2
              rw [← eg.symm] at ett hgb ⊢
              by_cases hpos : 0 ≤ s_turn F t
              · rw [if_pos hpos, if_pos hpos] at ett ⊢
                simp (disch := omega) only [iI_add, iI_sub, iI_mul, iI_neg, iI_nat, addm1, ixkI, ↓sbind, sbind, ↓bdS, bdS, ↓nm_eq, ↓jn_eq, iI_lt, iI_le, iI_eq, k_0, k_1, k_2, k_3, k_4, k_5, k_6, k_7, k_8, k_9, k_10, k_11, k_12, k_13, k_14, k_15, k_16, k_17, k_18, k_19, k_20, k_21, k_22, k_23, k_24, k_27, k_30, k_32, k_48, k_57, k_59, k_60, k_61, k_62, k_63, k_64, k_72, k_78, k_80, k_82, k_97, k_99, k_100, k_122, k_244, k_255, k_268, k_280, k_300, k_432, k_650, k_900, k_901, k_999, k_1700, k_2600, k_2601, k_2602, k_2603, k_2604, k_2610, k_2618, k_2682, k_2777, k_2844, k_2868, k_2880, k_3245, k_3250, k_9551, k_9999, k_65536, k_100000, k_999999, k_1000000, k_2147483647, lt_T, lt_F, le_T, le_F, eq_T, eq_F, ↓reduceIte, not_true_eq_false, not_false_eq_true, or_true, or_false, true_or, false_or, and_true, true_and, and_false, false_and, d0, d1, d2, lI_sub, lI_mul, etw, kl_0, lI_le, lI_neg, ett, i01_b, if_true]
              · rw [if_neg hpos, if_neg hpos] at ett ⊢
                rw [Int.zero_sub] at ett ⊢
                simp (disch := omega) only [iI_add, iI_sub, iI_mul, iI_neg, iI_nat, addm1, ixkI, ↓sbind, sbind, ↓bdS, bdS, ↓nm_eq, ↓jn_eq, iI_lt, iI_le, iI_eq, k_0, k_1, k_2, k_3, k_4, k_5, k_6, k_7, k_8, k_9, k_10, k_11, k_12, k_13, k_14, k_15, k_16, k_17, k_18, k_19, k_20, k_21, k_22, k_23, k_24, k_27, k_30, k_32, k_48, k_57, k_59, k_60, k_61, k_62, k_63, k_64, k_72, k_78, k_80, k_82, k_97, k_99, k_100, k_122, k_244, k_255, k_268, k_280, k_300, k_432, k_650, k_900, k_901, k_999, k_1700, k_2600, k_2601, k_2602, k_2603, k_2604, k_2610, k_2618, k_2682, k_2777, k_2844, k_2868, k_2880, k_3245, k_3250, k_9551, k_9999, k_65536, k_100000, k_999999, k_1000000, k_2147483647, lt_T, lt_F, le_T, le_F, eq_T, eq_F, ↓reduceIte, not_true_eq_false, not_false_eq_true, or_true, or_false, true_or, false_or, and_true, true_and, and_false, false_and, d0, d1, d2, lI_sub, lI_mul, etw, kl_0, lI_le, lI_neg, ett, i01_b, if_true]
        · rw [hs] at ea
          refine ⟨M1, Q, ?_⟩
          rw [show q_tilt F b t x = .inr 7 from by unfold q_tilt; rw [if_pos ⟨hc, h1, hx'⟩, if_neg (by rw [hs]; simp)]]
          unfold fM fX11_is
          simp (disch := omega) only [iI_add, iI_sub, iI_mul, iI_neg, iI_nat, addm1, ixkI, ↓sbind, sbind, ↓bdS, bdS, ↓nm_eq, ↓jn_eq, iI_lt, iI_le, iI_eq, k_0, k_1, k_2, k_3, k_4, k_5, k_6, k_7, k_8, k_9, k_10, k_11, k_12, k_13, k_14, k_15, k_16, k_17, k_18, k_19, k_20, k_21, k_22, k_23, k_24, k_27, k_30, k_32, k_48, k_57, k_59, k_60, k_61, k_62, k_63, k_64, k_72, k_78, k_80, k_82, k_97, k_99, k_100, k_122, k_244, k_255, k_268, k_280, k_300, k_432, k_650, k_900, k_901, k_999, k_1700, k_2600, k_2601, k_2602, k_2603, k_2604, k_2610, k_2618, k_2682, k_2777, k_2844, k_2868, k_2880, k_3245, k_3250, k_9551, k_9999, k_65536, k_100000, k_999999, k_1000000, k_2147483647, lt_T, lt_F, le_T, le_F, eq_T, eq_F, ↓reduceIte, not_true_eq_false, not_false_eq_true, or_true, or_false, true_or, false_or, and_true, true_and, and_false, false_and, bI_t, eb, ei, ea, i01_a, if_true]
      · refine ⟨M1, Q, ?_⟩
        rw [show q_tilt F b t x = .inr 1 from if_neg (fun q => hx' q.2.2)]
        unfold fM fX11_is
        by_cases hx0 : x < 0
        · simp (disch := omega) only [iI_add, iI_sub, iI_mul, iI_neg, iI_nat, addm1, ixkI, ↓sbind, sbind, ↓bdS, bdS, ↓nm_eq, ↓jn_eq, iI_lt, iI_le, iI_eq, k_0, k_1, k_2, k_3, k_4, k_5, k_6, k_7, k_8, k_9, k_10, k_11, k_12, k_13, k_14, k_15, k_16, k_17, k_18, k_19, k_20, k_21, k_22, k_23, k_24, k_27, k_30, k_32, k_48, k_57, k_59, k_60, k_61, k_62, k_63, k_64, k_72, k_78, k_80, k_82, k_97, k_99, k_100, k_122, k_244, k_255, k_268, k_280, k_300, k_432, k_650, k_900, k_901, k_999, k_1700, k_2600, k_2601, k_2602, k_2603, k_2604, k_2610, k_2618, k_2682, k_2777, k_2844, k_2868, k_2880, k_3245, k_3250, k_9551, k_9999, k_65536, k_100000, k_999999, k_1000000, k_2147483647, lt_T, lt_F, le_T, le_F, eq_T, eq_F, ↓reduceIte, not_true_eq_false, not_false_eq_true, or_true, or_false, true_or, false_or, and_true, true_and, and_false, false_and, bI_t, eb, ei, i01_a, if_true]
        · simp (disch := omega) only [iI_add, iI_sub, iI_mul, iI_neg, iI_nat, addm1, ixkI, ↓sbind, sbind, ↓bdS, bdS, ↓nm_eq, ↓jn_eq, iI_lt, iI_le, iI_eq, k_0, k_1, k_2, k_3, k_4, k_5, k_6, k_7, k_8, k_9, k_10, k_11, k_12, k_13, k_14, k_15, k_16, k_17, k_18, k_19, k_20, k_21, k_22, k_23, k_24, k_27, k_30, k_32, k_48, k_57, k_59, k_60, k_61, k_62, k_63, k_64, k_72, k_78, k_80, k_82, k_97, k_99, k_100, k_122, k_244, k_255, k_268, k_280, k_300, k_432, k_650, k_900, k_901, k_999, k_1700, k_2600, k_2601, k_2602, k_2603, k_2604, k_2610, k_2618, k_2682, k_2777, k_2844, k_2868, k_2880, k_3245, k_3250, k_9551, k_9999, k_65536, k_100000, k_999999, k_1000000, k_2147483647, lt_T, lt_F, le_T, le_F, eq_T, eq_F, ↓reduceIte, not_true_eq_false, not_false_eq_true, or_true, or_false, true_or, false_or, and_true, true_and, and_false, false_and, bI_t, eb, ei, i01_a, if_true]
    · refine ⟨M1, Q, ?_⟩
      rw [s_in_f h1] at ei
      rw [show q_tilt F b t x = .inr 1 from if_neg (fun q => h1 q.2.1)]
      unfold fM fX11_is
      simp (disch := omega) only [iI_add, iI_sub, iI_mul, iI_neg, iI_nat, addm1, ixkI, ↓sbind, sbind, ↓bdS, bdS, ↓nm_eq, ↓jn_eq, iI_lt, iI_le, iI_eq, k_0, k_1, k_2, k_3, k_4, k_5, k_6, k_7, k_8, k_9, k_10, k_11, k_12, k_13, k_14, k_15, k_16, k_17, k_18, k_19, k_20, k_21, k_22, k_23, k_24, k_27, k_30, k_32, k_48, k_57, k_59, k_60, k_61, k_62, k_63, k_64, k_72, k_78, k_80, k_82, k_97, k_99, k_100, k_122, k_244, k_255, k_268, k_280, k_300, k_432, k_650, k_900, k_901, k_999, k_1700, k_2600, k_2601, k_2602, k_2603, k_2604, k_2610, k_2618, k_2682, k_2777, k_2844, k_2868, k_2880, k_3245, k_3250, k_9551, k_9999, k_65536, k_100000, k_999999, k_1000000, k_2147483647, lt_T, lt_F, le_T, le_F, eq_T, eq_F, ↓reduceIte, not_true_eq_false, not_false_eq_true, or_true, or_false, true_or, false_or, and_true, true_and, and_false, false_and, bI_t, bI_f, eb, ei, i01_a, if_true]
  · refine ⟨M1, Q, ?_⟩
    rw [s_in_f hc] at eb
    rw [show q_tilt F b t x = .inr 1 from if_neg (fun q => hc q.1)]
    unfold fM fX11_is
    simp only [bdS]
    rw [eb]
    simp (disch := omega) only [iI_add, iI_sub, iI_mul, iI_neg, iI_nat, addm1, ixkI, ↓sbind, sbind, ↓bdS, bdS, ↓nm_eq, ↓jn_eq, iI_lt, iI_le, iI_eq, k_0, k_1, k_2, k_3, k_4, k_5, k_6, k_7, k_8, k_9, k_10, k_11, k_12, k_13, k_14, k_15, k_16, k_17, k_18, k_19, k_20, k_21, k_22, k_23, k_24, k_27, k_30, k_32, k_48, k_57, k_59, k_60, k_61, k_62, k_63, k_64, k_72, k_78, k_80, k_82, k_97, k_99, k_100, k_122, k_244, k_255, k_268, k_280, k_300, k_432, k_650, k_900, k_901, k_999, k_1700, k_2600, k_2601, k_2602, k_2603, k_2604, k_2610, k_2618, k_2682, k_2777, k_2844, k_2868, k_2880, k_3245, k_3250, k_9551, k_9999, k_65536, k_100000, k_999999, k_1000000, k_2147483647, lt_T, lt_F, le_T, le_F, eq_T, eq_F, ↓reduceIte, not_true_eq_false, not_false_eq_true, or_true, or_false, true_or, false_or, and_true, true_and, and_false, false_and, bI_f, eb, i01_a, if_true]
end MFs
