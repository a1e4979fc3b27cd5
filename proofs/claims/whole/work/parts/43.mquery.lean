/-! questions to the field, of the reference -/
section QM
variable {m : Nat} {F : Fld} {M : Mem}
theorem m_layersOf (G : MR m 0 F M) {h : Int} (hh : 0 ≤ h ∧ h < 6) : fX11_layersOf m (iI h) M = some (iI (F 3 h 2)) := by
  unfold fX11_layersOf fX11_holeRow
  simp (disch := omega) only [iI_add, iI_sub, iI_mul, iI_neg, iI_nat, addm1, ixkI, ↓sbind, sbind, ↓bdS, bdS, ↓nm_eq, ↓jn_eq, iI_lt, iI_le, iI_eq, k_0, k_1, k_2, k_3, k_4, k_5, k_6, k_7, k_8, k_9, k_10, k_11, k_12, k_13, k_14, k_15, k_16, k_17, k_18, k_19, k_20, k_21, k_22, k_23, k_24, k_27, k_30, k_32, k_48, k_57, k_59, k_60, k_61, k_62, k_63, k_64, k_72, k_78, k_80, k_82, k_97, k_99, k_100, k_122, k_244, k_255, k_268, k_280, k_300, k_432, k_650, k_900, k_901, k_999, k_1700, k_2600, k_2601, k_2602, k_2603, k_2604, k_2610, k_2618, k_2682, k_2777, k_2844, k_2868, k_2880, k_3245, k_3250, k_9551, k_9999, k_65536, k_100000, k_999999, k_1000000, k_2147483647, G.hw]
theorem m_rockOf (G : MR m 0 F M) {h l : Int} (hh : 0 ≤ h ∧ h < 6) (hl : 0 ≤ l ∧ l < 12) : fX11_rockOf m (iI h) (iI l) M = some (iI (F 4 h l)) := by
  unfold fX11_rockOf fX11_holeRow
  simp (disch := omega) only [iI_add, iI_sub, iI_mul, iI_neg, iI_nat, addm1, ixkI, ↓sbind, sbind, ↓bdS, bdS, ↓nm_eq, ↓jn_eq, iI_lt, iI_le, iI_eq, k_0, k_1, k_2, k_3, k_4, k_5, k_6, k_7, k_8, k_9, k_10, k_11, k_12, k_13, k_14, k_15, k_16, k_17, k_18, k_19, k_20, k_21, k_22, k_23, k_24, k_27, k_30, k_32, k_48, k_57, k_59, k_60, k_61, k_62, k_63, k_64, k_72, k_78, k_80, k_82, k_97, k_99, k_100, k_122, k_244, k_255, k_268, k_280, k_300, k_432, k_650, k_900, k_901, k_999, k_1700, k_2600, k_2601, k_2602, k_2603, k_2604, k_2610, k_2618, k_2682, k_2777, k_2844, k_2868, k_2880, k_3245, k_3250, k_9551, k_9999, k_65536, k_100000, k_999999, k_1000000, k_2147483647, G.rk]
theorem m_thickOf (G : MR m 0 F M) {h l : Int} (hh : 0 ≤ h ∧ h < 6) (hl : 0 ≤ l ∧ l < 12) : fX11_thickOf m (iI h) (iI l) M = some (iI (F 5 h l)) := by
  unfold fX11_thickOf fX11_holeRow
  simp (disch := omega) only [iI_add, iI_sub, iI_mul, iI_neg, iI_nat, addm1, ixkI, ↓sbind, sbind, ↓bdS, bdS, ↓nm_eq, ↓jn_eq, iI_lt, iI_le, iI_eq, k_0, k_1, k_2, k_3, k_4, k_5, k_6, k_7, k_8, k_9, k_10, k_11, k_12, k_13, k_14, k_15, k_16, k_17, k_18, k_19, k_20, k_21, k_22, k_23, k_24, k_27, k_30, k_32, k_48, k_57, k_59, k_60, k_61, k_62, k_63, k_64, k_72, k_78, k_80, k_82, k_97, k_99, k_100, k_122, k_244, k_255, k_268, k_280, k_300, k_432, k_650, k_900, k_901, k_999, k_1700, k_2600, k_2601, k_2602, k_2603, k_2604, k_2610, k_2618, k_2682, k_2777, k_2844, k_2868, k_2880, k_3245, k_3250, k_9551, k_9999, k_65536, k_100000, k_999999, k_1000000, k_2147483647, G.th]
def s_un (F : Fld) (a b : Int) : Int := if a = b then 0 else F 2 a b
theorem s_un_eq (w : WF F) {a b : Int} (ha : 0 ≤ a ∧ a < F 0 0 0) : s_un F a b = F 2 a b := by
  unfold s_un
  by_cases h : a = b
  · rw [if_pos h, ← h, w.cd ha]
  · rw [if_neg h]
theorem m_unlikeOf (G : MR m 0 F M) {a b : Int} (ha : 0 ≤ a ∧ a < 8) (hb : 0 ≤ b ∧ b < 8) : fX11_unlikeOf m (iI a) (iI b) M = some (iI (s_un F a b)) := by
  unfold fX11_unlikeOf s_un
  simp (disch := omega) only [iI_add, iI_sub, iI_mul, iI_neg, iI_nat, addm1, ixkI, ↓sbind, sbind, ↓bdS, bdS, ↓nm_eq, ↓jn_eq, iI_lt, iI_le, iI_eq, k_0, k_1, k_2, k_3, k_4, k_5, k_6, k_7, k_8, k_9, k_10, k_11, k_12, k_13, k_14, k_15, k_16, k_17, k_18, k_19, k_20, k_21, k_22, k_23, k_24, k_27, k_30, k_32, k_48, k_57, k_59, k_60, k_61, k_62, k_63, k_64, k_72, k_78, k_80, k_82, k_97, k_99, k_100, k_122, k_244, k_255, k_268, k_280, k_300, k_432, k_650, k_900, k_901, k_999, k_1700, k_2600, k_2601, k_2602, k_2603, k_2604, k_2610, k_2618, k_2682, k_2777, k_2844, k_2868, k_2880, k_3245, k_3250, k_9551, k_9999, k_65536, k_100000, k_999999, k_1000000, k_2147483647, G.cp]
  by_cases h : a = b
  · rw [if_pos h, if_pos h]
  · rw [if_neg h, if_neg h]
theorem m_isRock (w : WF F) (G : MR m 0 F M) {a : Int} (ha : -2147483648 ≤ a ∧ a < 2147483648) : fX11_isRock m ((iI a).toInt64) M = some (bI (s_in a (F 0 0 0))) := by
  have h0 := w.n0
  unfold fX11_isRock
  simp (disch := omega) only [iI_add, iI_sub, iI_mul, iI_neg, iI_nat, addm1, ixkI, ↓sbind, sbind, ↓bdS, bdS, ↓nm_eq, ↓jn_eq, iI_lt, iI_le, iI_eq, k_0, k_1, k_2, k_3, k_4, k_5, k_6, k_7, k_8, k_9, k_10, k_11, k_12, k_13, k_14, k_15, k_16, k_17, k_18, k_19, k_20, k_21, k_22, k_23, k_24, k_27, k_30, k_32, k_48, k_57, k_59, k_60, k_61, k_62, k_63, k_64, k_72, k_78, k_80, k_82, k_97, k_99, k_100, k_122, k_244, k_255, k_268, k_280, k_300, k_432, k_650, k_900, k_901, k_999, k_1700, k_2600, k_2601, k_2602, k_2603, k_2604, k_2610, k_2618, k_2682, k_2777, k_2844, k_2868, k_2880, k_3245, k_3250, k_9551, k_9999, k_65536, k_100000, k_999999, k_1000000, k_2147483647, lI_add, lI_sub, lI_mul, lI_neg, lI_lt, lI_le, lI_eq, iI_l, kl_0, kl_1, kl_2, kl_6, kl_9, kl_10, kl_32, kl_99, kl_999, kl_9999, kl_999999, G.c0]
  by_cases h1 : a < 0
  · rw [if_pos h1, s_in_f (by omega)]; rfl
  · rw [if_neg h1]
    by_cases h2 : F 0 0 0 ≤ a
    · rw [if_pos h2, s_in_f (by omega)]; rfl
    · rw [if_neg h2, s_in_t (by omega)]; rfl
theorem m_isHole (w : WF F) (G : MR m 0 F M) {a : Int} (ha : -2147483648 ≤ a ∧ a < 2147483648) : fX11_isHole m (iI a) M = some (bI (s_in a (F 0 1 0))) := by
  have h0 := w.n1
  unfold fX11_isHole
  simp (disch := omega) only [iI_add, iI_sub, iI_mul, iI_neg, iI_nat, addm1, ixkI, ↓sbind, sbind, ↓bdS, bdS, ↓nm_eq, ↓jn_eq, iI_lt, iI_le, iI_eq, k_0, k_1, k_2, k_3, k_4, k_5, k_6, k_7, k_8, k_9, k_10, k_11, k_12, k_13, k_14, k_15, k_16, k_17, k_18, k_19, k_20, k_21, k_22, k_23, k_24, k_27, k_30, k_32, k_48, k_57, k_59, k_60, k_61, k_62, k_63, k_64, k_72, k_78, k_80, k_82, k_97, k_99, k_100, k_122, k_244, k_255, k_268, k_280, k_300, k_432, k_650, k_900, k_901, k_999, k_1700, k_2600, k_2601, k_2602, k_2603, k_2604, k_2610, k_2618, k_2682, k_2777, k_2844, k_2868, k_2880, k_3245, k_3250, k_9551, k_9999, k_65536, k_100000, k_999999, k_1000000, k_2147483647, G.c1]
  by_cases h1 : a < 0
  · rw [if_pos h1, s_in_f (by omega)]; rfl
  · rw [if_neg h1]
    by_cases h2 : F 0 1 0 ≤ a
    · rw [if_pos h2, s_in_f (by omega)]; rfl
    · rw [if_neg h2, s_in_t (by omega)]; rfl
theorem m_isTriangle (w : WF F) (G : MR m 0 F M) {a : Int} (ha : -2147483648 ≤ a ∧ a < 2147483648) : fX11_isTriangle m (iI a) M = some (bI (s_in a (F 0 2 0))) := by
  have h0 := w.n2
  unfold fX11_isTriangle
  simp (disch := omega) only [iI_add, iI_sub, iI_mul, iI_neg, iI_nat, addm1, ixkI, ↓sbind, sbind, ↓bdS, bdS, ↓nm_eq, ↓jn_eq, iI_lt, iI_le, iI_eq, k_0, k_1, k_2, k_3, k_4, k_5, k_6, k_7, k_8, k_9, k_10, k_11, k_12, k_13, k_14, k_15, k_16, k_17, k_18, k_19, k_20, k_21, k_22, k_23, k_24, k_27, k_30, k_32, k_48, k_57, k_59, k_60, k_61, k_62, k_63, k_64, k_72, k_78, k_80, k_82, k_97, k_99, k_100, k_122, k_244, k_255, k_268, k_280, k_300, k_432, k_650, k_900, k_901, k_999, k_1700, k_2600, k_2601, k_2602, k_2603, k_2604, k_2610, k_2618, k_2682, k_2777, k_2844, k_2868, k_2880, k_3245, k_3250, k_9551, k_9999, k_65536, k_100000, k_999999, k_1000000, k_2147483647, G.c2]
  by_cases h1 : a < 0
  · rw [if_pos h1, s_in_f (by omega)]; rfl
  · rw [if_neg h1]
    by_cases h2 : F 0 2 0 ≤ a
    · rw [if_pos h2, s_in_f (by omega)]; rfl
    · rw [if_neg h2, s_in_t (by omega)]; rfl
theorem m_isLayer (w : WF F) (G : MR m 0 F M) {h l : Int} (ha : -2147483648 ≤ h ∧ h < 2147483648) (hb : -2147483648 ≤ l ∧ l < 2147483648) : fX11_isLayer m (iI h) (iI l) M = some (bI (s_lay F h l)) := by
  have h0 := w.n1
  unfold fX11_isLayer s_lay
  rw [m_isHole w G ha]
  by_cases hh : 0 ≤ h ∧ h < F 0 1 0
  · have h1 := w.nl hh
    rw [s_in_t hh, m_layersOf G (by omega)]
    simp (disch := omega) only [iI_add, iI_sub, iI_mul, iI_neg, iI_nat, addm1, ixkI, ↓sbind, sbind, ↓bdS, bdS, ↓nm_eq, ↓jn_eq, iI_lt, iI_le, iI_eq, k_0, k_1, k_2, k_3, k_4, k_5, k_6, k_7, k_8, k_9, k_10, k_11, k_12, k_13, k_14, k_15, k_16, k_17, k_18, k_19, k_20, k_21, k_22, k_23, k_24, k_27, k_30, k_32, k_48, k_57, k_59, k_60, k_61, k_62, k_63, k_64, k_72, k_78, k_80, k_82, k_97, k_99, k_100, k_122, k_244, k_255, k_268, k_280, k_300, k_432, k_650, k_900, k_901, k_999, k_1700, k_2600, k_2601, k_2602, k_2603, k_2604, k_2610, k_2618, k_2682, k_2777, k_2844, k_2868, k_2880, k_3245, k_3250, k_9551, k_9999, k_65536, k_100000, k_999999, k_1000000, k_2147483647, lt_T, lt_F, le_T, le_F, eq_T, eq_F, ↓reduceIte, not_true_eq_false, not_false_eq_true, or_true, or_false, true_or, false_or, and_true, true_and, and_false, false_and, bI_t]
    by_cases h2 : l < 0
    · rw [if_pos h2, decide_eq_false (by omega)]; rfl
    · rw [if_neg h2]
      by_cases h3 : F 3 h 2 ≤ l
      · rw [if_pos h3, decide_eq_false (by omega)]; rfl
      · rw [if_neg h3, decide_eq_true (by omega)]; rfl
  · rw [s_in_f hh, decide_eq_false (fun q => hh q.1)]
    simp only [sbind, bI_f, k_0, if_true]
theorem m_allThick (w : WF F) (G : MR m 0 F M) {h k : Int} {φ : Nat} (hh : 0 ≤ h ∧ h < F 0 1 0) (hk : 0 ≤ k ∧ k ≤ F 3 h 2) (hφ : 100 < φ) : fX11_allThick φ m (iI h) (iI k) M = some (iI (s_top F h k)) := by
  have h0 := w.n1
  have h1 := w.nl hh
  have key := lup (N := k) (P := fun n i => lX11_allThick_5 m (iI h) (iI k) M n (iI (s_top F h i)) (iI i) = some (iI (s_top F h k)))
    (fun n => by
      rw [lX11_allThick_5_s]
      simp (disch := omega) only [iI_add, iI_sub, iI_mul, iI_neg, iI_nat, addm1, ixkI, ↓sbind, sbind, ↓bdS, bdS, ↓nm_eq, ↓jn_eq, iI_lt, iI_le, iI_eq, k_0, k_1, k_2, k_3, k_4, k_5, k_6, k_7, k_8, k_9, k_10, k_11, k_12, k_13, k_14, k_15, k_16, k_17, k_18, k_19, k_20, k_21, k_22, k_23, k_24, k_27, k_30, k_32, k_48, k_57, k_59, k_60, k_61, k_62, k_63, k_64, k_72, k_78, k_80, k_82, k_97, k_99, k_100, k_122, k_244, k_255, k_268, k_280, k_300, k_432, k_650, k_900, k_901, k_999, k_1700, k_2600, k_2601, k_2602, k_2603, k_2604, k_2610, k_2618, k_2682, k_2777, k_2844, k_2868, k_2880, k_3245, k_3250, k_9551, k_9999, k_65536, k_100000, k_999999, k_1000000, k_2147483647, lt_T, lt_F, le_T, le_F, eq_T, eq_F, ↓reduceIte, not_true_eq_false, not_false_eq_true, or_true, or_false, true_or, false_or, and_true, true_and, and_false, false_and])
    (fun n i a b ih => by
      rw [lX11_allThick_5_s]
      simp (disch := omega) only [iI_add, iI_sub, iI_mul, iI_neg, iI_nat, addm1, ixkI, ↓sbind, sbind, ↓bdS, bdS, ↓nm_eq, ↓jn_eq, iI_lt, iI_le, iI_eq, k_0, k_1, k_2, k_3, k_4, k_5, k_6, k_7, k_8, k_9, k_10, k_11, k_12, k_13, k_14, k_15, k_16, k_17, k_18, k_19, k_20, k_21, k_22, k_23, k_24, k_27, k_30, k_32, k_48, k_57, k_59, k_60, k_61, k_62, k_63, k_64, k_72, k_78, k_80, k_82, k_97, k_99, k_100, k_122, k_244, k_255, k_268, k_280, k_300, k_432, k_650, k_900, k_901, k_999, k_1700, k_2600, k_2601, k_2602, k_2603, k_2604, k_2610, k_2618, k_2682, k_2777, k_2844, k_2868, k_2880, k_3245, k_3250, k_9551, k_9999, k_65536, k_100000, k_999999, k_1000000, k_2147483647, lt_T, lt_F, le_T, le_F, eq_T, eq_F, ↓reduceIte, not_true_eq_false, not_false_eq_true, or_true, or_false, true_or, false_or, and_true, true_and, and_false, false_and, m_thickOf G]
      rw [← ih]
      unfold s_top
      rw [sm_s _ a])
    φ 0 (by omega) (by omega) (by omega)
  unfold fX11_allThick
  simp only [k_0]
  exact key
theorem m_leftOf {ax ay bx b_y cx cy : Int} (ha : 0 ≤ ax ∧ ax ≤ 999) (hb : 0 ≤ ay ∧ ay ≤ 999) (hc : 0 ≤ bx ∧ bx ≤ 999) (hd : 0 ≤ b_y ∧ b_y ≤ 999) (he : 0 ≤ cx ∧ cx ≤ 999) (hf : 0 ≤ cy ∧ cy ≤ 999) : fX11_leftOf (iI ax) (iI ay) (iI bx) (iI b_y) (iI cx) (iI cy) M = some (lI (tw ax ay bx b_y cx cy)) := by
  unfold fX11_leftOf tw
  simp (disch := omega) only [iI_sub, iI_l, lI_mul, lI_sub]
theorem m_isRight (w : WF F) (G : MR m 0 F M) {f h : Int} (hf : 0 ≤ f ∧ f < F 0 3 0) (hh : 0 ≤ h ∧ h < F 0 1 0) : fX11_isRight m (iI f) (iI h) M = some (bI (s_right F f h)) := by
  have h0 := w.n1
  have h3 := w.n3
  have b0 := w.fl hf (k := 0) (by omega)
  have b1 := w.fl hf (k := 1) (by omega)
  have b2 := w.fl hf (k := 2) (by omega)
  have b3 := w.fl hf (k := 3) (by omega)
  have bx := w.x hh
  have b_y := w.y hh
  have tb := tw_bd b0 b1 b2 b3 bx b_y
  unfold fX11_isRight fX11_holeRow
  simp (disch := omega) only [iI_add, iI_sub, iI_mul, iI_neg, iI_nat, addm1, ixkI, ↓sbind, sbind, ↓bdS, bdS, ↓nm_eq, ↓jn_eq, iI_lt, iI_le, iI_eq, k_0, k_1, k_2, k_3, k_4, k_5, k_6, k_7, k_8, k_9, k_10, k_11, k_12, k_13, k_14, k_15, k_16, k_17, k_18, k_19, k_20, k_21, k_22, k_23, k_24, k_27, k_30, k_32, k_48, k_57, k_59, k_60, k_61, k_62, k_63, k_64, k_72, k_78, k_80, k_82, k_97, k_99, k_100, k_122, k_244, k_255, k_268, k_280, k_300, k_432, k_650, k_900, k_901, k_999, k_1700, k_2600, k_2601, k_2602, k_2603, k_2604, k_2610, k_2618, k_2682, k_2777, k_2844, k_2868, k_2880, k_3245, k_3250, k_9551, k_9999, k_65536, k_100000, k_999999, k_1000000, k_2147483647, G.f0, G.fl, G.x, G.hw]
  rw [m_leftOf b0 b1 b2 b3 bx b_y]
  simp (disch := omega) only [iI_add, iI_sub, iI_mul, iI_neg, iI_nat, addm1, ixkI, ↓sbind, sbind, ↓bdS, bdS, ↓nm_eq, ↓jn_eq, iI_lt, iI_le, iI_eq, k_0, k_1, k_2, k_3, k_4, k_5, k_6, k_7, k_8, k_9, k_10, k_11, k_12, k_13, k_14, k_15, k_16, k_17, k_18, k_19, k_20, k_21, k_22, k_23, k_24, k_27, k_30, k_32, k_48, k_57, k_59, k_60, k_61, k_62, k_63, k_64, k_72, k_78, k_80, k_82, k_97, k_99, k_100, k_122, k_244, k_255, k_268, k_280, k_300, k_432, k_650, k_900, k_901, k_999, k_1700, k_2600, k_2601, k_2602, k_2603, k_2604, k_2610, k_2618, k_2682, k_2777, k_2844, k_2868, k_2880, k_3245, k_3250, k_9551, k_9999, k_65536, k_100000, k_999999, k_1000000, k_2147483647, lI_add, lI_sub, lI_mul, lI_neg, lI_lt, lI_le, lI_eq, iI_l, kl_0, kl_1, kl_2, kl_6, kl_9, kl_10, kl_32, kl_99, kl_999, kl_9999, kl_999999]
  rw [if_no]
  unfold s_right
  congr 2
  by_cases hc : 0 ≤ tw (F 7 f 0) (F 7 f 1) (F 7 f 2) (F 7 f 3) (F 3 h 0) (F 3 h 1)
  · rw [decide_eq_true hc, decide_eq_false (by omega)]; rfl
  · rw [decide_eq_false hc, decide_eq_true (by omega)]; rfl
theorem m_thrown (w : WF F) (G : MR m 0 F M) {h : Int} {φ : Nat} (hh : 0 ≤ h ∧ h < F 0 1 0) (hφ : 100 < φ) : fX11_thrown φ m (iI h) M = some (iI (s_thrown F h)) := by
  have h3 := w.n3
  have key := lup (N := F 0 3 0) (P := fun n i => lX11_thrown_4 m (iI h) M n (iI (sm (fun f => if s_right F f h then F 7 f 4 else 0) i)) (iI i) = some (iI (s_thrown F h)))
    (fun n => by
      rw [lX11_thrown_4_s]
      simp (disch := omega) only [iI_add, iI_sub, iI_mul, iI_neg, iI_nat, addm1, ixkI, ↓sbind, sbind, ↓bdS, bdS, ↓nm_eq, ↓jn_eq, iI_lt, iI_le, iI_eq, k_0, k_1, k_2, k_3, k_4, k_5, k_6, k_7, k_8, k_9, k_10, k_11, k_12, k_13, k_14, k_15, k_16, k_17, k_18, k_19, k_20, k_21, k_22, k_23, k_24, k_27, k_30, k_32, k_48, k_57, k_59, k_60, k_61, k_62, k_63, k_64, k_72, k_78, k_80, k_82, k_97, k_99, k_100, k_122, k_244, k_255, k_268, k_280, k_300, k_432, k_650, k_900, k_901, k_999, k_1700, k_2600, k_2601, k_2602, k_2603, k_2604, k_2610, k_2618, k_2682, k_2777, k_2844, k_2868, k_2880, k_3245, k_3250, k_9551, k_9999, k_65536, k_100000, k_999999, k_1000000, k_2147483647, lt_T, lt_F, le_T, le_F, eq_T, eq_F, ↓reduceIte, not_true_eq_false, not_false_eq_true, or_true, or_false, true_or, false_or, and_true, true_and, and_false, false_and, G.c3]
      rfl)
    (fun n i a b ih => by
      rw [lX11_thrown_4_s, m_isRight w G ⟨a, b⟩ hh]
      simp (disch := omega) only [iI_add, iI_sub, iI_mul, iI_neg, iI_nat, addm1, ixkI, ↓sbind, sbind, ↓bdS, bdS, ↓nm_eq, ↓jn_eq, iI_lt, iI_le, iI_eq, k_0, k_1, k_2, k_3, k_4, k_5, k_6, k_7, k_8, k_9, k_10, k_11, k_12, k_13, k_14, k_15, k_16, k_17, k_18, k_19, k_20, k_21, k_22, k_23, k_24, k_27, k_30, k_32, k_48, k_57, k_59, k_60, k_61, k_62, k_63, k_64, k_72, k_78, k_80, k_82, k_97, k_99, k_100, k_122, k_244, k_255, k_268, k_280, k_300, k_432, k_650, k_900, k_901, k_999, k_1700, k_2600, k_2601, k_2602, k_2603, k_2604, k_2610, k_2618, k_2682, k_2777, k_2844, k_2868, k_2880, k_3245, k_3250, k_9551, k_9999, k_65536, k_100000, k_999999, k_1000000, k_2147483647, lt_T, lt_F, le_T, le_F, eq_T, eq_F, ↓reduceIte, not_true_eq_false, not_false_eq_true, or_true, or_false, true_or, false_or, and_true, true_and, and_false, false_and, G.c3, bI_0, G.fl]
      rw [← ih, sm_s _ a]
      cases s_right F i h <;> simp)
    φ 0 (by omega) (by omega) (by omega)
  unfold fX11_thrown
  simp only [k_0]
  exact key
theorem m_depthOf (w : WF F) (G : MR m 0 F M) {h k : Int} {φ : Nat} (hh : 0 ≤ h ∧ h < F 0 1 0) (hk : 0 ≤ k ∧ k ≤ F 3 h 2) (hφ : 100 < φ) : fX11_depthOf φ m (iI h) (iI k) M = some (iI (s_depth F h k)) := by
  unfold fX11_depthOf
  rw [m_allThick w G hh hk hφ, m_thrown w G hh hφ]
  simp only [sbind, iI_add, s_depth]
theorem m_hasRock (w : WF F) (G : MR m 0 F M) {h r : Int} {φ : Nat} (hh : 0 ≤ h ∧ h < F 0 1 0) (hr : -2147483648 ≤ r ∧ r < 2147483648) (hφ : 100 < φ) : fX11_hasRock φ m (iI h) (iI r) M = some (bI (s_has F h r)) := by
  have h0 := w.n1
  have h00 := w.n0
  have h1 := w.nl hh
  have key := lup (N := F 3 h 2) (P := fun n i => lX11_hasRock_2 m (iI h) (iI r) M n (iI i) = some (bI (ff (fun l => F 4 h l == r) (F 3 h 2) i != -1)))
    (fun n => by
      rw [lX11_hasRock_2_s, ff_e]
      simp (disch := omega) only [iI_add, iI_sub, iI_mul, iI_neg, iI_nat, addm1, ixkI, ↓sbind, sbind, ↓bdS, bdS, ↓nm_eq, ↓jn_eq, iI_lt, iI_le, iI_eq, k_0, k_1, k_2, k_3, k_4, k_5, k_6, k_7, k_8, k_9, k_10, k_11, k_12, k_13, k_14, k_15, k_16, k_17, k_18, k_19, k_20, k_21, k_22, k_23, k_24, k_27, k_30, k_32, k_48, k_57, k_59, k_60, k_61, k_62, k_63, k_64, k_72, k_78, k_80, k_82, k_97, k_99, k_100, k_122, k_244, k_255, k_268, k_280, k_300, k_432, k_650, k_900, k_901, k_999, k_1700, k_2600, k_2601, k_2602, k_2603, k_2604, k_2610, k_2618, k_2682, k_2777, k_2844, k_2868, k_2880, k_3245, k_3250, k_9551, k_9999, k_65536, k_100000, k_999999, k_1000000, k_2147483647, lt_T, lt_F, le_T, le_F, eq_T, eq_F, ↓reduceIte, not_true_eq_false, not_false_eq_true, or_true, or_false, true_or, false_or, and_true, true_and, and_false, false_and, m_layersOf G]
      rfl)
    (fun n i a b ih => by
      have hb := w.rk hh (l := i) ⟨a, b⟩
      rw [lX11_hasRock_2_s]
      simp (disch := omega) only [iI_add, iI_sub, iI_mul, iI_neg, iI_nat, addm1, ixkI, ↓sbind, sbind, ↓bdS, bdS, ↓nm_eq, ↓jn_eq, iI_lt, iI_le, iI_eq, k_0, k_1, k_2, k_3, k_4, k_5, k_6, k_7, k_8, k_9, k_10, k_11, k_12, k_13, k_14, k_15, k_16, k_17, k_18, k_19, k_20, k_21, k_22, k_23, k_24, k_27, k_30, k_32, k_48, k_57, k_59, k_60, k_61, k_62, k_63, k_64, k_72, k_78, k_80, k_82, k_97, k_99, k_100, k_122, k_244, k_255, k_268, k_280, k_300, k_432, k_650, k_900, k_901, k_999, k_1700, k_2600, k_2601, k_2602, k_2603, k_2604, k_2610, k_2618, k_2682, k_2777, k_2844, k_2868, k_2880, k_3245, k_3250, k_9551, k_9999, k_65536, k_100000, k_999999, k_1000000, k_2147483647, lt_T, lt_F, le_T, le_F, eq_T, eq_F, ↓reduceIte, not_true_eq_false, not_false_eq_true, or_true, or_false, true_or, false_or, and_true, true_and, and_false, false_and, m_layersOf G, m_rockOf G]
      by_cases hc : F 4 h i = r
      · rw [if_pos hc, ff_t b (by simpa using hc), ne_m1 a]; rfl
      · rw [if_neg hc, ih, ff_f b (by simpa using hc)])
    φ 0 (by omega) (by omega) (by omega)
  unfold fX11_hasRock
  simp only [k_0]
  exact key
theorem m_corner (G : MR m 0 F M) {t k : Int} (ht : 0 ≤ t ∧ t < 8) (hk : 0 ≤ k ∧ k < 3) : fX11_corner m (iI t) (iI k) M = some (iI (F 6 t k)) := by
  unfold fX11_corner
  simp (disch := omega) only [iI_add, iI_sub, iI_mul, iI_neg, iI_nat, addm1, ixkI, ↓sbind, sbind, ↓bdS, bdS, ↓nm_eq, ↓jn_eq, iI_lt, iI_le, iI_eq, k_0, k_1, k_2, k_3, k_4, k_5, k_6, k_7, k_8, k_9, k_10, k_11, k_12, k_13, k_14, k_15, k_16, k_17, k_18, k_19, k_20, k_21, k_22, k_23, k_24, k_27, k_30, k_32, k_48, k_57, k_59, k_60, k_61, k_62, k_63, k_64, k_72, k_78, k_80, k_82, k_97, k_99, k_100, k_122, k_244, k_255, k_268, k_280, k_300, k_432, k_650, k_900, k_901, k_999, k_1700, k_2600, k_2601, k_2602, k_2603, k_2604, k_2610, k_2618, k_2682, k_2777, k_2844, k_2868, k_2880, k_3245, k_3250, k_9551, k_9999, k_65536, k_100000, k_999999, k_1000000, k_2147483647, G.co]
theorem m_twiceArea (w : WF F) (G : MR m 0 F M) {t : Int} (ht : 0 ≤ t ∧ t < F 0 2 0) : fX11_twiceArea m (iI t) M = some (lI (s_turn F t)) := by
  have h1 := w.n1
  have h2 := w.n2
  have c0 := w.co ht (k := 0) (by omega)
  have c1 := w.co ht (k := 1) (by omega)
  have c2 := w.co ht (k := 2) (by omega)
  unfold fX11_twiceArea fX11_cornersOf
  simp only [k_0, k_1, k_2]
  rw [m_corner G (by omega) (by omega), m_corner G (by omega) (by omega), m_corner G (by omega) (by omega)]
  simp (disch := omega) only [iI_add, iI_sub, iI_mul, iI_neg, iI_nat, addm1, ixkI, ↓sbind, sbind, ↓bdS, bdS, ↓nm_eq, ↓jn_eq, iI_lt, iI_le, iI_eq, k_0, k_1, k_2, k_3, k_4, k_5, k_6, k_7, k_8, k_9, k_10, k_11, k_12, k_13, k_14, k_15, k_16, k_17, k_18, k_19, k_20, k_21, k_22, k_23, k_24, k_27, k_30, k_32, k_48, k_57, k_59, k_60, k_61, k_62, k_63, k_64, k_72, k_78, k_80, k_82, k_97, k_99, k_100, k_122, k_244, k_255, k_268, k_280, k_300, k_432, k_650, k_900, k_901, k_999, k_1700, k_2600, k_2601, k_2602, k_2603, k_2604, k_2610, k_2618, k_2682, k_2777, k_2844, k_2868, k_2880, k_3245, k_3250, k_9551, k_9999, k_65536, k_100000, k_999999, k_1000000, k_2147483647, Int.zero_add, G.x, G.hw]
  rw [m_leftOf (w.x c0) (w.y c0) (w.x c1) (w.y c1) (w.x c2) (w.y c2)]
  rfl
theorem m_size {x : Int} (h : -1000000000000 ≤ x ∧ x ≤ 1000000000000) : fX11_size (lI x) M = some (lI (s_abs x)) := by
  unfold fX11_size s_abs
  simp (disch := omega) only [lI_add, lI_sub, lI_mul, lI_neg, lI_lt, lI_le, lI_eq, iI_l, kl_0, kl_1, kl_2, kl_6, kl_9, kl_10, kl_32, kl_99, kl_999, kl_9999, kl_999999]
  by_cases hc : 0 ≤ x
  · rw [if_pos hc, if_pos hc]
  · rw [if_neg hc, if_neg hc, Int.zero_sub]
theorem m_isAcross (w : WF F) (G : MR m 0 F M) {t : Int} {φ : Nat} (ht : 0 ≤ t ∧ t < F 0 2 0) (hφ : 100 < φ) : fX11_isAcross φ m (iI t) M = some (bI (s_split F t)) := by
  have h3 := w.n3
  have h2 := w.n2
  have key := lup (N := F 0 3 0) (P := fun n i => lX11_isAcross_2 m (iI t) M n (iI i) = some (bI (ff (fun f => (s_right F f (F 6 t 1) != s_right F f (F 6 t 0)) || (s_right F f (F 6 t 2) != s_right F f (F 6 t 0))) (F 0 3 0) i != -1)))
    (fun n => by
      rw [lX11_isAcross_2_s, ff_e]
      simp (disch := omega) only [iI_add, iI_sub, iI_mul, iI_neg, iI_nat, addm1, ixkI, ↓sbind, sbind, ↓bdS, bdS, ↓nm_eq, ↓jn_eq, iI_lt, iI_le, iI_eq, k_0, k_1, k_2, k_3, k_4, k_5, k_6, k_7, k_8, k_9, k_10, k_11, k_12, k_13, k_14, k_15, k_16, k_17, k_18, k_19, k_20, k_21, k_22, k_23, k_24, k_27, k_30, k_32, k_48, k_57, k_59, k_60, k_61, k_62, k_63, k_64, k_72, k_78, k_80, k_82, k_97, k_99, k_100, k_122, k_244, k_255, k_268, k_280, k_300, k_432, k_650, k_900, k_901, k_999, k_1700, k_2600, k_2601, k_2602, k_2603, k_2604, k_2610, k_2618, k_2682, k_2777, k_2844, k_2868, k_2880, k_3245, k_3250, k_9551, k_9999, k_65536, k_100000, k_999999, k_1000000, k_2147483647, lt_T, lt_F, le_T, le_F, eq_T, eq_F, ↓reduceIte, not_true_eq_false, not_false_eq_true, or_true, or_false, true_or, false_or, and_true, true_and, and_false, false_and, G.c3]
      rfl)
    (fun n i a b ih => by
      rw [lX11_isAcross_2_s]
      simp (disch := omega) only [iI_add, iI_sub, iI_mul, iI_neg, iI_nat, addm1, ixkI, ↓sbind, sbind, ↓bdS, bdS, ↓nm_eq, ↓jn_eq, iI_lt, iI_le, iI_eq, k_0, k_1, k_2, k_3, k_4, k_5, k_6, k_7, k_8, k_9, k_10, k_11, k_12, k_13, k_14, k_15, k_16, k_17, k_18, k_19, k_20, k_21, k_22, k_23, k_24, k_27, k_30, k_32, k_48, k_57, k_59, k_60, k_61, k_62, k_63, k_64, k_72, k_78, k_80, k_82, k_97, k_99, k_100, k_122, k_244, k_255, k_268, k_280, k_300, k_432, k_650, k_900, k_901, k_999, k_1700, k_2600, k_2601, k_2602, k_2603, k_2604, k_2610, k_2618, k_2682, k_2777, k_2844, k_2868, k_2880, k_3245, k_3250, k_9551, k_9999, k_65536, k_100000, k_999999, k_1000000, k_2147483647, lt_T, lt_F, le_T, le_F, eq_T, eq_F, ↓reduceIte, not_true_eq_false, not_false_eq_true, or_true, or_false, true_or, false_or, and_true, true_and, and_false, false_and, G.c3, m_corner G]
      rw [m_isRight w G ⟨a, b⟩ (w.co ht (by omega)), m_isRight w G ⟨a, b⟩ (w.co ht (by omega)), m_isRight w G ⟨a, b⟩ (w.co ht (by omega))]
      simp only [sbind, bI_eq]
      by_cases hc : s_right F i (F 6 t 1) = s_right F i (F 6 t 0)
      · rw [if_pos hc]
        by_cases hd : s_right F i (F 6 t 2) = s_right F i (F 6 t 0)
        · rw [if_pos hd, ih, ff_f b (by simp [hc, hd])]
        · rw [if_neg hd, ff_t b (by simp [hd]), ne_m1 a]; rfl
      · rw [if_neg hc, ff_t b (by simp [hc]), ne_m1 a]; rfl)
    φ 0 (by omega) (by omega) (by omega)
  unfold fX11_isAcross
  simp only [k_0]
  exact key
theorem m_isFrom {a b c : Int} (ha : -9223372036854775808 ≤ a ∧ a < 9223372036854775808) (hb : -9223372036854775808 ≤ b ∧ b < 9223372036854775808) (hc : -9223372036854775808 ≤ c ∧ c < 9223372036854775808) : fX11_isFrom (lI a) (lI b) (lI c) M = some (bI (decide (b ≤ a ∧ a ≤ c))) := by
  unfold fX11_isFrom
  simp (disch := omega) only [iI_add, iI_sub, iI_mul, iI_neg, iI_nat, addm1, ixkI, ↓sbind, sbind, ↓bdS, bdS, ↓nm_eq, ↓jn_eq, iI_lt, iI_le, iI_eq, k_0, k_1, k_2, k_3, k_4, k_5, k_6, k_7, k_8, k_9, k_10, k_11, k_12, k_13, k_14, k_15, k_16, k_17, k_18, k_19, k_20, k_21, k_22, k_23, k_24, k_27, k_30, k_32, k_48, k_57, k_59, k_60, k_61, k_62, k_63, k_64, k_72, k_78, k_80, k_82, k_97, k_99, k_100, k_122, k_244, k_255, k_268, k_280, k_300, k_432, k_650, k_900, k_901, k_999, k_1700, k_2600, k_2601, k_2602, k_2603, k_2604, k_2610, k_2618, k_2682, k_2777, k_2844, k_2868, k_2880, k_3245, k_3250, k_9551, k_9999, k_65536, k_100000, k_999999, k_1000000, k_2147483647, lI_add, lI_sub, lI_mul, lI_neg, lI_lt, lI_le, lI_eq, iI_l, kl_0, kl_1, kl_2, kl_6, kl_9, kl_10, kl_32, kl_99, kl_999, kl_9999, kl_999999]
  by_cases h1 : a < b
  · rw [if_pos h1, decide_eq_false (by omega)]; rfl
  · rw [if_neg h1]
    by_cases h2 : c < a
    · rw [if_pos h2, decide_eq_false (by omega)]; rfl
    · rw [if_neg h2, decide_eq_true (by omega)]; rfl
def s_pt (x y : Int) : Bool := decide ((0 ≤ x ∧ x ≤ 999) ∧ 0 ≤ y ∧ y ≤ 999)
theorem m_isPoint {x y : Int} (hx : -2147483648 ≤ x ∧ x < 2147483648) (hy : -2147483648 ≤ y ∧ y < 2147483648) : fX11_isPoint (iI x) (iI y) M = some (bI (s_pt x y)) := by
  unfold fX11_isPoint s_pt
  rw [iI_l hx, iI_l hy, kl_0, kl_999, m_isFrom (by omega) (by omega) (by omega), m_isFrom (by omega) (by omega) (by omega)]
  simp only [sbind, k_0, k_1, bI_0]
  by_cases h1 : 0 ≤ x ∧ x ≤ 999
  · rw [decide_eq_true h1]
    by_cases h2 : 0 ≤ y ∧ y ≤ 999
    · rw [decide_eq_true h2, decide_eq_true ⟨h1, h2⟩]; rfl
    · rw [decide_eq_false h2, decide_eq_false (fun q => h2 q.2)]; rfl
  · rw [decide_eq_false h1, decide_eq_false (p := (0 ≤ x ∧ x ≤ 999) ∧ 0 ≤ y ∧ y ≤ 999) (fun q => h1 q.1)]; rfl
theorem m_wrongLay (w : WF F) (G : MR m 0 F M) {h r k : Int} (hh : 0 ≤ h ∧ h < F 0 1 0) (hr : 0 ≤ r ∧ r < F 0 0 0) (hk : 0 ≤ k ∧ k ≤ 9999) : fX11_wrongLay m (iI h) (iI r) (iI k) M = some (iI (if 0 < F 3 h 2 ∧ F 4 h 0 = r then (if F 5 h 0 + k ≤ 999 then 0 else 7) else if F 3 h 2 = 12 then 4 else 0)) := by
  have h0 := w.n0
  have h1 := w.n1
  have h2 := w.nl hh
  unfold fX11_wrongLay
  rw [m_layersOf G (by omega), k_0, m_rockOf G (by omega) (by omega), m_thickOf G (by omega) (by omega)]
  by_cases hc : F 3 h 2 ≤ 0
  · simp (disch := omega) only [iI_add, iI_sub, iI_mul, iI_neg, iI_nat, addm1, ixkI, ↓sbind, sbind, ↓bdS, bdS, ↓nm_eq, ↓jn_eq, iI_lt, iI_le, iI_eq, k_0, k_1, k_2, k_3, k_4, k_5, k_6, k_7, k_8, k_9, k_10, k_11, k_12, k_13, k_14, k_15, k_16, k_17, k_18, k_19, k_20, k_21, k_22, k_23, k_24, k_27, k_30, k_32, k_48, k_57, k_59, k_60, k_61, k_62, k_63, k_64, k_72, k_78, k_80, k_82, k_97, k_99, k_100, k_122, k_244, k_255, k_268, k_280, k_300, k_432, k_650, k_900, k_901, k_999, k_1700, k_2600, k_2601, k_2602, k_2603, k_2604, k_2610, k_2618, k_2682, k_2777, k_2844, k_2868, k_2880, k_3245, k_3250, k_9551, k_9999, k_65536, k_100000, k_999999, k_1000000, k_2147483647, lt_T, lt_F, le_T, le_F, eq_T, eq_F, ↓reduceIte, not_true_eq_false, not_false_eq_true, or_true, or_false, true_or, false_or, and_true, true_and, and_false, false_and]
  · have h3 := w.rk hh (l := 0) (by omega)
    have h4 := w.th hh (l := 0) (by omega)
    by_cases hd : F 4 h 0 = r
    · by_cases he : F 5 h 0 + k ≤ 999 <;> simp (disch := omega) only [iI_add, iI_sub, iI_mul, iI_neg, iI_nat, addm1, ixkI, ↓sbind, sbind, ↓bdS, bdS, ↓nm_eq, ↓jn_eq, iI_lt, iI_le, iI_eq, k_0, k_1, k_2, k_3, k_4, k_5, k_6, k_7, k_8, k_9, k_10, k_11, k_12, k_13, k_14, k_15, k_16, k_17, k_18, k_19, k_20, k_21, k_22, k_23, k_24, k_27, k_30, k_32, k_48, k_57, k_59, k_60, k_61, k_62, k_63, k_64, k_72, k_78, k_80, k_82, k_97, k_99, k_100, k_122, k_244, k_255, k_268, k_280, k_300, k_432, k_650, k_900, k_901, k_999, k_1700, k_2600, k_2601, k_2602, k_2603, k_2604, k_2610, k_2618, k_2682, k_2777, k_2844, k_2868, k_2880, k_3245, k_3250, k_9551, k_9999, k_65536, k_100000, k_999999, k_1000000, k_2147483647, lt_T, lt_F, le_T, le_F, eq_T, eq_F, ↓reduceIte, not_true_eq_false, not_false_eq_true, or_true, or_false, true_or, false_or, and_true, true_and, and_false, false_and]
    · by_cases he : F 3 h 2 = 12 <;> simp (disch := omega) only [iI_add, iI_sub, iI_mul, iI_neg, iI_nat, addm1, ixkI, ↓sbind, sbind, ↓bdS, bdS, ↓nm_eq, ↓jn_eq, iI_lt, iI_le, iI_eq, k_0, k_1, k_2, k_3, k_4, k_5, k_6, k_7, k_8, k_9, k_10, k_11, k_12, k_13, k_14, k_15, k_16, k_17, k_18, k_19, k_20, k_21, k_22, k_23, k_24, k_27, k_30, k_32, k_48, k_57, k_59, k_60, k_61, k_62, k_63, k_64, k_72, k_78, k_80, k_82, k_97, k_99, k_100, k_122, k_244, k_255, k_268, k_280, k_300, k_432, k_650, k_900, k_901, k_999, k_1700, k_2600, k_2601, k_2602, k_2603, k_2604, k_2610, k_2618, k_2682, k_2777, k_2844, k_2868, k_2880, k_3245, k_3250, k_9551, k_9999, k_65536, k_100000, k_999999, k_1000000, k_2147483647, lt_T, lt_F, le_T, le_F, eq_T, eq_F, ↓reduceIte, not_true_eq_false, not_false_eq_true, or_true, or_false, true_or, false_or, and_true, true_and, and_false, false_and]
end QM
