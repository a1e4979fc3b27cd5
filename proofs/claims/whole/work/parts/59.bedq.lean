/-! questions to the beds as a whole: the class -/
def q_tree (F : Fld) (k x : Int) : Int × Int := if 0 ≤ x ∧ x ≤ 2 then (if 0 ≤ k ∧ k < s_cn F then (if x = 0 then (tQ F k.toNat).1 else if x = 1 then (tQ F k.toNat).2 else s_sq F (tQ F k.toNat).1 (tQ F k.toNat).2, 0) else (-1, 6)) else (-1, 1)
def q_bedOf (F : Fld) (h l : Int) : Int × Int := if (0 ≤ h ∧ h < F 0 1 0) ∧ 0 ≤ l ∧ l < F 3 h 2 then (bA F h l, 0) else (-1, 1)
def q_holesOf (F : Fld) (x : Int) : Int × Int := if 0 ≤ x ∧ x < bN F then ((s_set F x).toInt, 0) else (-1, 1)
def q_bed (F : Fld) (x h k : Int) : Int × Int := if (0 ≤ x ∧ x < bN F) ∧ (0 ≤ h ∧ h < F 0 1 0) ∧ 0 ≤ k ∧ k ≤ 2 then (if s_fst F x h = -1 then (-1, 6) else (if k = 0 then s_depth F h (s_fst F x h) else if k = 1 then F 5 h (s_fst F x h) else s_fst F x h, 0)) else (-1, 1)
def q_above (F : Fld) (a b : Int) : Int × Int := if (0 ≤ a ∧ a < bN F) ∧ 0 ≤ b ∧ b < bN F then (if s_hig F a b then 1 else 0, 0) else (-1, 1)
def q_order (F : Fld) (k : Int) : Int × Int := if 0 ≤ k then (if k < bN F then (if s_ho F then (oP F k.toNat, 0) else (-1, 7)) else (-1, 6)) else (-1, 1)
def q_widest (F : Fld) : Int × Int := (s_wid F, if s_wid F = -1 then 6 else 0)
def s_dp (F : Fld) (x h : Int) (q : Int × Int) : Int × Int := if s_fst F x h ≠ -1 ∧ q.2 < s_depth F h (s_fst F x h) then (h, s_depth F h (s_fst F x h)) else q
def q_deepest (F : Fld) (x : Int) : Int × Int := if 0 ≤ x ∧ x < bN F then ((fo (fun h q => s_dp F x h q) (F 0 1 0) 0 (-1, -1)).1, 0) else (-1, 1)
def q_shared (F : Fld) (a b : Int) : Int × Int := if (0 ≤ a ∧ a < F 0 1 0) ∧ (0 ≤ b ∧ b < F 0 1 0) ∧ a ≠ b then (s_both F a b, 0) else (-1, 1)
def q_gaps (F : Fld) (h : Int) : Int × Int := if 0 ≤ h ∧ h < F 0 1 0 then (s_gap F h, 0) else (-1, 1)
section BDq
variable {c g : Nat} {F : Fld} {M : Mem}
theorem QT.trans {M1 M2 : Mem} (h1 : QT c g F M M1) (h2 : QT c g F M1 M2) : QT c g F M M2 := ⟨h2.1, h1.2.trans h2.2⟩
theorem ci_refresh (I : CI c g F M) {φ : Nat} (hφ : 2000 < φ) : ∃ M1, fX0_refresh φ (c + 57) g M = some ((), M1) ∧ QT c g F M M1 ∧ BC (c + 57) F M1 ∧ OC (c + 57) F M1 := by
  obtain ⟨hg, ho, hd, w, G, hB⟩ := I
  have mk : ∀ M1, Fr (Rg (c + 57) (c + 57 + 11)) M M1 → BC (c + 57) F M1 → OC (c + 57) F M1 → M1.1 (c + 57) 1 = iI 0 → QT c g F M M1 ∧ BC (c + 57) F M1 ∧ OC (c + 57) F M1 := fun M1 f B O h1 => ⟨⟨⟨by rw [(f c (fun q => by have := q.1; omega)).2.2]; exact hg, ho, hd, w, G.fr f (fun x a b q => by have := q.1; have := q.2; omega), Or.inr ⟨h1, B, O⟩⟩, f.mono fun x q => ⟨q.1, by have := q.2; omega⟩⟩, B, O⟩
  rcases hB with h1 | ⟨h1, B, O⟩
  · obtain ⟨M1, e, f, B1, s1, s2⟩ := c_refresh (t := c + 57) w (by omega) hφ G (Or.inl h1)
    refine ⟨M1, e, mk M1 f B1 ?_ s1⟩
    rcases s2 with s2 | s2
    · exact Or.inl s2
    · rw [s2, h1, iI_eq (by omega) (by omega)] at s1
      omega
  · obtain ⟨M1, e, f, B1, s1, s2⟩ := c_refresh (t := c + 57) w (by omega) hφ G (Or.inr ⟨h1, B⟩)
    refine ⟨M1, e, mk M1 f B1 ?_ s1⟩
    rcases s2 with s2 | s2
    · exact Or.inl s2
    · rw [s2]; exact O
theorem ci_isBed (I : CI c g F M) {a : Int} (ha : -2147483648 ≤ a ∧ a < 2147483648) {φ : Nat} (hφ : 2000 < φ) : ∃ M1, fX10_isBed φ c (iI a) M = some (bI (s_in a (bN F)), M1) ∧ QT c g F M M1 ∧ BC (c + 57) F M1 ∧ OC (c + 57) F M1 := by
  obtain ⟨M1, e, Q, B, O⟩ := ci_refresh I hφ
  refine ⟨M1, ?_, Q, B, O⟩
  have hb := bN_rng I.2.2.2.1
  have h7 := B.2.2.1
  unfold fX10_isBed
  simp only [I.1, ldr_ok I.2.1, sbind, e, bdS, k_0, k_1]
  by_cases h1 : a < 0
  · rw [s_in_f (by omega)]
    simp (disch := omega) only [iI_add, iI_sub, iI_mul, iI_neg, iI_nat, addm1, ixkI, ↓sbind, sbind, ↓bdS, bdS, ↓nm_eq, ↓jn_eq, iI_lt, iI_le, iI_eq, k_0, k_1, k_2, k_3, k_4, k_5, k_6, k_7, k_8, k_9, k_10, k_11, k_12, k_13, k_14, k_15, k_16, k_17, k_18, k_19, k_20, k_21, k_22, k_23, k_24, k_27, k_30, k_32, k_48, k_57, k_59, k_60, k_61, k_62, k_63, k_64, k_72, k_78, k_80, k_82, k_97, k_99, k_100, k_122, k_244, k_255, k_268, k_280, k_300, k_432, k_650, k_900, k_901, k_999, k_1700, k_2600, k_2601, k_2602, k_2603, k_2604, k_2610, k_2618, k_2682, k_2777, k_2844, k_2868, k_2880, k_3245, k_3250, k_9551, k_9999, k_65536, k_100000, k_999999, k_1000000, k_2147483647, lt_T, lt_F, le_T, le_F, eq_T, eq_F, ↓reduceIte, not_true_eq_false, not_false_eq_true, or_true, or_false, true_or, false_or, and_true, true_and, and_false, false_and, bI_f]
  · by_cases h2 : bN F ≤ a
    · rw [s_in_f (by omega)]
      simp (disch := omega) only [iI_add, iI_sub, iI_mul, iI_neg, iI_nat, addm1, ixkI, ↓sbind, sbind, ↓bdS, bdS, ↓nm_eq, ↓jn_eq, iI_lt, iI_le, iI_eq, k_0, k_1, k_2, k_3, k_4, k_5, k_6, k_7, k_8, k_9, k_10, k_11, k_12, k_13, k_14, k_15, k_16, k_17, k_18, k_19, k_20, k_21, k_22, k_23, k_24, k_27, k_30, k_32, k_48, k_57, k_59, k_60, k_61, k_62, k_63, k_64, k_72, k_78, k_80, k_82, k_97, k_99, k_100, k_122, k_244, k_255, k_268, k_280, k_300, k_432, k_650, k_900, k_901, k_999, k_1700, k_2600, k_2601, k_2602, k_2603, k_2604, k_2610, k_2618, k_2682, k_2777, k_2844, k_2868, k_2880, k_3245, k_3250, k_9551, k_9999, k_65536, k_100000, k_999999, k_1000000, k_2147483647, lt_T, lt_F, le_T, le_F, eq_T, eq_F, ↓reduceIte, not_true_eq_false, not_false_eq_true, or_true, or_false, true_or, false_or, and_true, true_and, and_false, false_and, bI_f, h7]
    · rw [s_in_t (by omega)]
      simp (disch := omega) only [iI_add, iI_sub, iI_mul, iI_neg, iI_nat, addm1, ixkI, ↓sbind, sbind, ↓bdS, bdS, ↓nm_eq, ↓jn_eq, iI_lt, iI_le, iI_eq, k_0, k_1, k_2, k_3, k_4, k_5, k_6, k_7, k_8, k_9, k_10, k_11, k_12, k_13, k_14, k_15, k_16, k_17, k_18, k_19, k_20, k_21, k_22, k_23, k_24, k_27, k_30, k_32, k_48, k_57, k_59, k_60, k_61, k_62, k_63, k_64, k_72, k_78, k_80, k_82, k_97, k_99, k_100, k_122, k_244, k_255, k_268, k_280, k_300, k_432, k_650, k_900, k_901, k_999, k_1700, k_2600, k_2601, k_2602, k_2603, k_2604, k_2610, k_2618, k_2682, k_2777, k_2844, k_2868, k_2880, k_3245, k_3250, k_9551, k_9999, k_65536, k_100000, k_999999, k_1000000, k_2147483647, lt_T, lt_F, le_T, le_F, eq_T, eq_F, ↓reduceIte, not_true_eq_false, not_false_eq_true, or_true, or_false, true_or, false_or, and_true, true_and, and_false, false_and, bI_t, h7]
theorem cq_tree (I : CI c g F M) {k x : Int} (hk : -2147483648 ≤ k ∧ k < 2147483648) (hx : -2147483648 ≤ x ∧ x < 2147483648) {φ : Nat} (hφ : 2000 < φ) : CQ c g F M (fX10_tree φ c (iI k) (iI x) M) (q_tree F k x) := by
  have n1 := I.2.2.2.1.n1
  have hcn : ((s_cn F : Nat) : Int) ≤ 5 := by unfold s_cn; omega
  unfold fX10_tree fX10_answer fX10_refuse
  simp only [k_0, k_2]
  rw [c_isWithin hx (by omega) (by omega)]
  by_cases h : 0 ≤ x ∧ x ≤ 2
  · obtain ⟨M1, e, Q, B, O⟩ := ci_refresh I hφ
    refine ⟨M1, Q, ?_⟩
    rw [decide_eq_true h]
    have h2 := B.1
    by_cases hk' : 0 ≤ k ∧ k < s_cn F
    · have h4 := B.2.2.2.1 k.toNat (by omega)
      rw [show q_tree F k x = (if x = 0 then (tQ F k.toNat).1 else if x = 1 then (tQ F k.toNat).2 else s_sq F (tQ F k.toNat).1 (tQ F k.toNat).2, 0) from by unfold q_tree; rw [if_pos h, if_pos hk']]
      by_cases x0 : x = 0
      · rw [x0]; simp (disch := omega) only [iI_add, iI_sub, iI_mul, iI_neg, iI_nat, addm1, ixkI, ↓sbind, sbind, ↓bdS, bdS, ↓nm_eq, ↓jn_eq, iI_lt, iI_le, iI_eq, k_0, k_1, k_2, k_3, k_4, k_5, k_6, k_7, k_8, k_9, k_10, k_11, k_12, k_13, k_14, k_15, k_16, k_17, k_18, k_19, k_20, k_21, k_22, k_23, k_24, k_27, k_30, k_32, k_48, k_57, k_59, k_60, k_61, k_62, k_63, k_64, k_72, k_78, k_80, k_82, k_97, k_99, k_100, k_122, k_244, k_255, k_268, k_280, k_300, k_432, k_650, k_900, k_901, k_999, k_1700, k_2600, k_2601, k_2602, k_2603, k_2604, k_2610, k_2618, k_2682, k_2777, k_2844, k_2868, k_2880, k_3245, k_3250, k_9551, k_9999, k_65536, k_100000, k_999999, k_1000000, k_2147483647, lt_T, lt_F, le_T, le_F, eq_T, eq_F, ↓reduceIte, not_true_eq_false, not_false_eq_true, or_true, or_false, true_or, false_or, and_true, true_and, and_false, false_and, bI_t, I.1, ldr_ok I.2.1, e, h2, h4.1]
      · by_cases x1 : x = 1
        · rw [x1]; simp (disch := omega) only [iI_add, iI_sub, iI_mul, iI_neg, iI_nat, addm1, ixkI, ↓sbind, sbind, ↓bdS, bdS, ↓nm_eq, ↓jn_eq, iI_lt, iI_le, iI_eq, k_0, k_1, k_2, k_3, k_4, k_5, k_6, k_7, k_8, k_9, k_10, k_11, k_12, k_13, k_14, k_15, k_16, k_17, k_18, k_19, k_20, k_21, k_22, k_23, k_24, k_27, k_30, k_32, k_48, k_57, k_59, k_60, k_61, k_62, k_63, k_64, k_72, k_78, k_80, k_82, k_97, k_99, k_100, k_122, k_244, k_255, k_268, k_280, k_300, k_432, k_650, k_900, k_901, k_999, k_1700, k_2600, k_2601, k_2602, k_2603, k_2604, k_2610, k_2618, k_2682, k_2777, k_2844, k_2868, k_2880, k_3245, k_3250, k_9551, k_9999, k_65536, k_100000, k_999999, k_1000000, k_2147483647, lt_T, lt_F, le_T, le_F, eq_T, eq_F, ↓reduceIte, not_true_eq_false, not_false_eq_true, or_true, or_false, true_or, false_or, and_true, true_and, and_false, false_and, bI_t, I.1, ldr_ok I.2.1, e, h2, h4.2.1]
        · simp (disch := omega) only [iI_add, iI_sub, iI_mul, iI_neg, iI_nat, addm1, ixkI, ↓sbind, sbind, ↓bdS, bdS, ↓nm_eq, ↓jn_eq, iI_lt, iI_le, iI_eq, k_0, k_1, k_2, k_3, k_4, k_5, k_6, k_7, k_8, k_9, k_10, k_11, k_12, k_13, k_14, k_15, k_16, k_17, k_18, k_19, k_20, k_21, k_22, k_23, k_24, k_27, k_30, k_32, k_48, k_57, k_59, k_60, k_61, k_62, k_63, k_64, k_72, k_78, k_80, k_82, k_97, k_99, k_100, k_122, k_244, k_255, k_268, k_280, k_300, k_432, k_650, k_900, k_901, k_999, k_1700, k_2600, k_2601, k_2602, k_2603, k_2604, k_2610, k_2618, k_2682, k_2777, k_2844, k_2868, k_2880, k_3245, k_3250, k_9551, k_9999, k_65536, k_100000, k_999999, k_1000000, k_2147483647, lt_T, lt_F, le_T, le_F, eq_T, eq_F, ↓reduceIte, not_true_eq_false, not_false_eq_true, or_true, or_false, true_or, false_or, and_true, true_and, and_false, false_and, bI_t, I.1, ldr_ok I.2.1, e, h2, h4.2.2]
    · rw [show q_tree F k x = (-1, 6) from by unfold q_tree; rw [if_pos h, if_neg hk']]
      by_cases k0 : k < 0
      · simp (disch := omega) only [iI_add, iI_sub, iI_mul, iI_neg, iI_nat, addm1, ixkI, ↓sbind, sbind, ↓bdS, bdS, ↓nm_eq, ↓jn_eq, iI_lt, iI_le, iI_eq, k_0, k_1, k_2, k_3, k_4, k_5, k_6, k_7, k_8, k_9, k_10, k_11, k_12, k_13, k_14, k_15, k_16, k_17, k_18, k_19, k_20, k_21, k_22, k_23, k_24, k_27, k_30, k_32, k_48, k_57, k_59, k_60, k_61, k_62, k_63, k_64, k_72, k_78, k_80, k_82, k_97, k_99, k_100, k_122, k_244, k_255, k_268, k_280, k_300, k_432, k_650, k_900, k_901, k_999, k_1700, k_2600, k_2601, k_2602, k_2603, k_2604, k_2610, k_2618, k_2682, k_2777, k_2844, k_2868, k_2880, k_3245, k_3250, k_9551, k_9999, k_65536, k_100000, k_999999, k_1000000, k_2147483647, lt_T, lt_F, le_T, le_F, eq_T, eq_F, ↓reduceIte, not_true_eq_false, not_false_eq_true, or_true, or_false, true_or, false_or, and_true, true_and, and_false, false_and, bI_t, I.1, ldr_ok I.2.1, e, h2]
      · simp (disch := omega) only [iI_add, iI_sub, iI_mul, iI_neg, iI_nat, addm1, ixkI, ↓sbind, sbind, ↓bdS, bdS, ↓nm_eq, ↓jn_eq, iI_lt, iI_le, iI_eq, k_0, k_1, k_2, k_3, k_4, k_5, k_6, k_7, k_8, k_9, k_10, k_11, k_12, k_13, k_14, k_15, k_16, k_17, k_18, k_19, k_20, k_21, k_22, k_23, k_24, k_27, k_30, k_32, k_48, k_57, k_59, k_60, k_61, k_62, k_63, k_64, k_72, k_78, k_80, k_82, k_97, k_99, k_100, k_122, k_244, k_255, k_268, k_280, k_300, k_432, k_650, k_900, k_901, k_999, k_1700, k_2600, k_2601, k_2602, k_2603, k_2604, k_2610, k_2618, k_2682, k_2777, k_2844, k_2868, k_2880, k_3245, k_3250, k_9551, k_9999, k_65536, k_100000, k_999999, k_1000000, k_2147483647, lt_T, lt_F, le_T, le_F, eq_T, eq_F, ↓reduceIte, not_true_eq_false, not_false_eq_true, or_true, or_false, true_or, false_or, and_true, true_and, and_false, false_and, bI_t, I.1, ldr_ok I.2.1, e, h2]
  · refine ⟨M, QT.refl I, ?_⟩
    rw [decide_eq_false h, show q_tree F k x = (-1, 1) from if_neg h]
    simp (disch := omega) only [iI_add, iI_sub, iI_mul, iI_neg, iI_nat, addm1, ixkI, ↓sbind, sbind, ↓bdS, bdS, ↓nm_eq, ↓jn_eq, iI_lt, iI_le, iI_eq, k_0, k_1, k_2, k_3, k_4, k_5, k_6, k_7, k_8, k_9, k_10, k_11, k_12, k_13, k_14, k_15, k_16, k_17, k_18, k_19, k_20, k_21, k_22, k_23, k_24, k_27, k_30, k_32, k_48, k_57, k_59, k_60, k_61, k_62, k_63, k_64, k_72, k_78, k_80, k_82, k_97, k_99, k_100, k_122, k_244, k_255, k_268, k_280, k_300, k_432, k_650, k_900, k_901, k_999, k_1700, k_2600, k_2601, k_2602, k_2603, k_2604, k_2610, k_2618, k_2682, k_2777, k_2844, k_2868, k_2880, k_3245, k_3250, k_9551, k_9999, k_65536, k_100000, k_999999, k_1000000, k_2147483647, lt_T, lt_F, le_T, le_F, eq_T, eq_F, ↓reduceIte, not_true_eq_false, not_false_eq_true, or_true, or_false, true_or, false_or, and_true, true_and, and_false, false_and, bI_f]
theorem cq_treeCost (I : CI c g F M) {φ : Nat} (hφ : 2000 < φ) : CQ c g F M (fX10_treeCost φ c M) (s_cost F, 0) := by
  obtain ⟨M1, e, Q, B, O⟩ := ci_refresh I hφ
  refine ⟨M1, Q, ?_⟩
  unfold fX10_treeCost fX10_answer
  simp (disch := omega) only [iI_add, iI_sub, iI_mul, iI_neg, iI_nat, addm1, ixkI, ↓sbind, sbind, ↓bdS, bdS, ↓nm_eq, ↓jn_eq, iI_lt, iI_le, iI_eq, k_0, k_1, k_2, k_3, k_4, k_5, k_6, k_7, k_8, k_9, k_10, k_11, k_12, k_13, k_14, k_15, k_16, k_17, k_18, k_19, k_20, k_21, k_22, k_23, k_24, k_27, k_30, k_32, k_48, k_57, k_59, k_60, k_61, k_62, k_63, k_64, k_72, k_78, k_80, k_82, k_97, k_99, k_100, k_122, k_244, k_255, k_268, k_280, k_300, k_432, k_650, k_900, k_901, k_999, k_1700, k_2600, k_2601, k_2602, k_2603, k_2604, k_2610, k_2618, k_2682, k_2777, k_2844, k_2868, k_2880, k_3245, k_3250, k_9551, k_9999, k_65536, k_100000, k_999999, k_1000000, k_2147483647, I.1, ldr_ok I.2.1, e, B.2.1]
theorem cq_beds (I : CI c g F M) {φ : Nat} (hφ : 2000 < φ) : CQ c g F M (fX10_beds φ c M) (bN F, 0) := by
  obtain ⟨M1, e, Q, B, O⟩ := ci_refresh I hφ
  refine ⟨M1, Q, ?_⟩
  unfold fX10_beds fX10_answer
  simp (disch := omega) only [iI_add, iI_sub, iI_mul, iI_neg, iI_nat, addm1, ixkI, ↓sbind, sbind, ↓bdS, bdS, ↓nm_eq, ↓jn_eq, iI_lt, iI_le, iI_eq, k_0, k_1, k_2, k_3, k_4, k_5, k_6, k_7, k_8, k_9, k_10, k_11, k_12, k_13, k_14, k_15, k_16, k_17, k_18, k_19, k_20, k_21, k_22, k_23, k_24, k_27, k_30, k_32, k_48, k_57, k_59, k_60, k_61, k_62, k_63, k_64, k_72, k_78, k_80, k_82, k_97, k_99, k_100, k_122, k_244, k_255, k_268, k_280, k_300, k_432, k_650, k_900, k_901, k_999, k_1700, k_2600, k_2601, k_2602, k_2603, k_2604, k_2610, k_2618, k_2682, k_2777, k_2844, k_2868, k_2880, k_3245, k_3250, k_9551, k_9999, k_65536, k_100000, k_999999, k_1000000, k_2147483647, I.1, ldr_ok I.2.1, e, B.2.2.1]
theorem cq_bedOf (I : CI c g F M) {h l : Int} (hh : -2147483648 ≤ h ∧ h < 2147483648) (hl : -2147483648 ≤ l ∧ l < 2147483648) {φ : Nat} (hφ : 2000 < φ) : CQ c g F M (fX10_bedOf φ c (iI h) (iI l) M) (q_bedOf F h l) := by
  have n1 := I.2.2.2.1.n1
  unfold fX10_bedOf fX10_answer fX10_refuse
  simp only [I.1, ldr_ok I.2.1, sbind]
  rw [c_isLayer I.2.2.2.1 I.2.2.2.2.1 hh hl]
  unfold s_lay
  by_cases hc : (0 ≤ h ∧ h < F 0 1 0) ∧ 0 ≤ l ∧ l < F 3 h 2
  · obtain ⟨M1, e, Q, B, O⟩ := ci_refresh I hφ
    have nl := I.2.2.2.1.nl hc.1
    have e9 := B.2.2.2.2.1 h l hc
    refine ⟨M1, Q, ?_⟩
    rw [decide_eq_true hc, show q_bedOf F h l = (bA F h l, 0) from if_pos hc]
    simp (disch := omega) only [iI_add, iI_sub, iI_mul, iI_neg, iI_nat, addm1, ixkI, ↓sbind, sbind, ↓bdS, bdS, ↓nm_eq, ↓jn_eq, iI_lt, iI_le, iI_eq, k_0, k_1, k_2, k_3, k_4, k_5, k_6, k_7, k_8, k_9, k_10, k_11, k_12, k_13, k_14, k_15, k_16, k_17, k_18, k_19, k_20, k_21, k_22, k_23, k_24, k_27, k_30, k_32, k_48, k_57, k_59, k_60, k_61, k_62, k_63, k_64, k_72, k_78, k_80, k_82, k_97, k_99, k_100, k_122, k_244, k_255, k_268, k_280, k_300, k_432, k_650, k_900, k_901, k_999, k_1700, k_2600, k_2601, k_2602, k_2603, k_2604, k_2610, k_2618, k_2682, k_2777, k_2844, k_2868, k_2880, k_3245, k_3250, k_9551, k_9999, k_65536, k_100000, k_999999, k_1000000, k_2147483647, lt_T, lt_F, le_T, le_F, eq_T, eq_F, ↓reduceIte, not_true_eq_false, not_false_eq_true, or_true, or_false, true_or, false_or, and_true, true_and, and_false, false_and, bI_t, e, c_slot, e9]
  · refine ⟨M, QT.refl I, ?_⟩
    rw [decide_eq_false hc, show q_bedOf F h l = (-1, 1) from if_neg hc]
    simp (disch := omega) only [iI_add, iI_sub, iI_mul, iI_neg, iI_nat, addm1, ixkI, ↓sbind, sbind, ↓bdS, bdS, ↓nm_eq, ↓jn_eq, iI_lt, iI_le, iI_eq, k_0, k_1, k_2, k_3, k_4, k_5, k_6, k_7, k_8, k_9, k_10, k_11, k_12, k_13, k_14, k_15, k_16, k_17, k_18, k_19, k_20, k_21, k_22, k_23, k_24, k_27, k_30, k_32, k_48, k_57, k_59, k_60, k_61, k_62, k_63, k_64, k_72, k_78, k_80, k_82, k_97, k_99, k_100, k_122, k_244, k_255, k_268, k_280, k_300, k_432, k_650, k_900, k_901, k_999, k_1700, k_2600, k_2601, k_2602, k_2603, k_2604, k_2610, k_2618, k_2682, k_2777, k_2844, k_2868, k_2880, k_3245, k_3250, k_9551, k_9999, k_65536, k_100000, k_999999, k_1000000, k_2147483647, lt_T, lt_F, le_T, le_F, eq_T, eq_F, ↓reduceIte, not_true_eq_false, not_false_eq_true, or_true, or_false, true_or, false_or, and_true, true_and, and_false, false_and, bI_f]
theorem cq_holesOf (I : CI c g F M) {x : Int} (hx : -2147483648 ≤ x ∧ x < 2147483648) {φ : Nat} (hφ : 2000 < φ) : CQ c g F M (fX10_holesOf φ c (iI x) M) (q_holesOf F x) := by
  obtain ⟨M1, e, Q, B, O⟩ := ci_isBed I hx hφ
  refine ⟨M1, Q, ?_⟩
  unfold fX10_holesOf fX10_answer fX10_refuse
  rw [e]
  by_cases hc : 0 ≤ x ∧ x < bN F
  · rw [s_in_t hc, show q_holesOf F x = ((s_set F x).toInt, 0) from if_pos hc]
    simp (disch := omega) only [iI_add, iI_sub, iI_mul, iI_neg, iI_nat, addm1, ixkI, ↓sbind, sbind, ↓bdS, bdS, ↓nm_eq, ↓jn_eq, iI_lt, iI_le, iI_eq, k_0, k_1, k_2, k_3, k_4, k_5, k_6, k_7, k_8, k_9, k_10, k_11, k_12, k_13, k_14, k_15, k_16, k_17, k_18, k_19, k_20, k_21, k_22, k_23, k_24, k_27, k_30, k_32, k_48, k_57, k_59, k_60, k_61, k_62, k_63, k_64, k_72, k_78, k_80, k_82, k_97, k_99, k_100, k_122, k_244, k_255, k_268, k_280, k_300, k_432, k_650, k_900, k_901, k_999, k_1700, k_2600, k_2601, k_2602, k_2603, k_2604, k_2610, k_2618, k_2682, k_2777, k_2844, k_2868, k_2880, k_3245, k_3250, k_9551, k_9999, k_65536, k_100000, k_999999, k_1000000, k_2147483647, lt_T, lt_F, le_T, le_F, eq_T, eq_F, ↓reduceIte, not_true_eq_false, not_false_eq_true, or_true, or_false, true_or, false_or, and_true, true_and, and_false, false_and, bI_t, c_setOfHoles Q.1.2.2.2.1 B hc (φ := φ) (by omega), iI_of]
  · rw [s_in_f hc, show q_holesOf F x = (-1, 1) from if_neg hc]
    simp (disch := omega) only [iI_add, iI_sub, iI_mul, iI_neg, iI_nat, addm1, ixkI, ↓sbind, sbind, ↓bdS, bdS, ↓nm_eq, ↓jn_eq, iI_lt, iI_le, iI_eq, k_0, k_1, k_2, k_3, k_4, k_5, k_6, k_7, k_8, k_9, k_10, k_11, k_12, k_13, k_14, k_15, k_16, k_17, k_18, k_19, k_20, k_21, k_22, k_23, k_24, k_27, k_30, k_32, k_48, k_57, k_59, k_60, k_61, k_62, k_63, k_64, k_72, k_78, k_80, k_82, k_97, k_99, k_100, k_122, k_244, k_255, k_268, k_280, k_300, k_432, k_650, k_900, k_901, k_999, k_1700, k_2600, k_2601, k_2602, k_2603, k_2604, k_2610, k_2618, k_2682, k_2777, k_2844, k_2868, k_2880, k_3245, k_3250, k_9551, k_9999, k_65536, k_100000, k_999999, k_1000000, k_2147483647, lt_T, lt_F, le_T, le_F, eq_T, eq_F, ↓reduceIte, not_true_eq_false, not_false_eq_true, or_true, or_false, true_or, false_or, and_true, true_and, and_false, false_and, bI_f]
theorem cq_bed (I : CI c g F M) {x h k : Int} (hx : -2147483648 ≤ x ∧ x < 2147483648) (hh : -2147483648 ≤ h ∧ h < 2147483648) (hk : -2147483648 ≤ k ∧ k < 2147483648) {φ : Nat} (hφ : 2000 < φ) : CQ c g F M (fX10_bed φ c (iI x) (iI h) (iI k) M) (q_bed F x h k) := by
  obtain ⟨M1, e, Q, B, O⟩ := ci_isBed I hx hφ
  refine ⟨M1, Q, ?_⟩
  obtain ⟨hg, ho, hd, w, G, hB⟩ := Q.1
  have n1 := w.n1
  unfold fX10_bed fX10_answer fX10_refuse
  rw [e]
  by_cases hc : 0 ≤ x ∧ x < bN F
  · rw [s_in_t hc]
    have eh := c_isHole w G hh
    by_cases hh' : 0 ≤ h ∧ h < F 0 1 0
    · rw [s_in_t hh'] at eh
      have nl := w.nl hh'
      have ew := c_isWithin (M := M1) (b := 0) (d := 2) hk (by omega) (by omega)
      by_cases hk' : 0 ≤ k ∧ k ≤ 2
      · rw [decide_eq_true hk'] at ew
        have el := c_layerIn (t := c + 57) w B (x := x) (h := h) hc (by omega)
        rw [show s_li F x h = s_fst F x h from if_pos hh'.2] at el
        have z := s_fst_bd w (x := x) hh'
        by_cases hz : s_fst F x h = -1
        · rw [show q_bed F x h k = (-1, 6) from by unfold q_bed; rw [if_pos ⟨hc, hh', hk'⟩, if_pos hz]]
          simp (disch := omega) only [iI_add, iI_sub, iI_mul, iI_neg, iI_nat, addm1, ixkI, ↓sbind, sbind, ↓bdS, bdS, ↓nm_eq, ↓jn_eq, iI_lt, iI_le, iI_eq, k_0, k_1, k_2, k_3, k_4, k_5, k_6, k_7, k_8, k_9, k_10, k_11, k_12, k_13, k_14, k_15, k_16, k_17, k_18, k_19, k_20, k_21, k_22, k_23, k_24, k_27, k_30, k_32, k_48, k_57, k_59, k_60, k_61, k_62, k_63, k_64, k_72, k_78, k_80, k_82, k_97, k_99, k_100, k_122, k_244, k_255, k_268, k_280, k_300, k_432, k_650, k_900, k_901, k_999, k_1700, k_2600, k_2601, k_2602, k_2603, k_2604, k_2610, k_2618, k_2682, k_2777, k_2844, k_2868, k_2880, k_3245, k_3250, k_9551, k_9999, k_65536, k_100000, k_999999, k_1000000, k_2147483647, lt_T, lt_F, le_T, le_F, eq_T, eq_F, ↓reduceIte, not_true_eq_false, not_false_eq_true, or_true, or_false, true_or, false_or, and_true, true_and, and_false, false_and, bI_t, hg, ldr_ok ho, eh, ew, el]
        · have ed := c_depthOf w G (k := s_fst F x h) hh' (by omega) (φ := φ) (by omega)
          have et := w.th hh' (l := s_fst F x h) (by omega)
          rw [show q_bed F x h k = (if k = 0 then s_depth F h (s_fst F x h) else if k = 1 then F 5 h (s_fst F x h) else s_fst F x h, 0) from by unfold q_bed; rw [if_pos ⟨hc, hh', hk'⟩, if_neg hz]]
          by_cases k0 : k = 0
          · rw [k0] at ew ⊢; simp (disch := omega) only [iI_add, iI_sub, iI_mul, iI_neg, iI_nat, addm1, ixkI, ↓sbind, sbind, ↓bdS, bdS, ↓nm_eq, ↓jn_eq, iI_lt, iI_le, iI_eq, k_0, k_1, k_2, k_3, k_4, k_5, k_6, k_7, k_8, k_9, k_10, k_11, k_12, k_13, k_14, k_15, k_16, k_17, k_18, k_19, k_20, k_21, k_22, k_23, k_24, k_27, k_30, k_32, k_48, k_57, k_59, k_60, k_61, k_62, k_63, k_64, k_72, k_78, k_80, k_82, k_97, k_99, k_100, k_122, k_244, k_255, k_268, k_280, k_300, k_432, k_650, k_900, k_901, k_999, k_1700, k_2600, k_2601, k_2602, k_2603, k_2604, k_2610, k_2618, k_2682, k_2777, k_2844, k_2868, k_2880, k_3245, k_3250, k_9551, k_9999, k_65536, k_100000, k_999999, k_1000000, k_2147483647, lt_T, lt_F, le_T, le_F, eq_T, eq_F, ↓reduceIte, not_true_eq_false, not_false_eq_true, or_true, or_false, true_or, false_or, and_true, true_and, and_false, false_and, bI_t, hg, ldr_ok ho, eh, ew, el, ed]
          · by_cases k2 : k = 2
            · rw [k2] at ew ⊢; simp (disch := omega) only [iI_add, iI_sub, iI_mul, iI_neg, iI_nat, addm1, ixkI, ↓sbind, sbind, ↓bdS, bdS, ↓nm_eq, ↓jn_eq, iI_lt, iI_le, iI_eq, k_0, k_1, k_2, k_3, k_4, k_5, k_6, k_7, k_8, k_9, k_10, k_11, k_12, k_13, k_14, k_15, k_16, k_17, k_18, k_19, k_20, k_21, k_22, k_23, k_24, k_27, k_30, k_32, k_48, k_57, k_59, k_60, k_61, k_62, k_63, k_64, k_72, k_78, k_80, k_82, k_97, k_99, k_100, k_122, k_244, k_255, k_268, k_280, k_300, k_432, k_650, k_900, k_901, k_999, k_1700, k_2600, k_2601, k_2602, k_2603, k_2604, k_2610, k_2618, k_2682, k_2777, k_2844, k_2868, k_2880, k_3245, k_3250, k_9551, k_9999, k_65536, k_100000, k_999999, k_1000000, k_2147483647, lt_T, lt_F, le_T, le_F, eq_T, eq_F, ↓reduceIte, not_true_eq_false, not_false_eq_true, or_true, or_false, true_or, false_or, and_true, true_and, and_false, false_and, bI_t, hg, ldr_ok ho, eh, ew, el]
            · have k1 : k = 1 := by omega
              rw [k1] at ew ⊢; simp (disch := omega) only [iI_add, iI_sub, iI_mul, iI_neg, iI_nat, addm1, ixkI, ↓sbind, sbind, ↓bdS, bdS, ↓nm_eq, ↓jn_eq, iI_lt, iI_le, iI_eq, k_0, k_1, k_2, k_3, k_4, k_5, k_6, k_7, k_8, k_9, k_10, k_11, k_12, k_13, k_14, k_15, k_16, k_17, k_18, k_19, k_20, k_21, k_22, k_23, k_24, k_27, k_30, k_32, k_48, k_57, k_59, k_60, k_61, k_62, k_63, k_64, k_72, k_78, k_80, k_82, k_97, k_99, k_100, k_122, k_244, k_255, k_268, k_280, k_300, k_432, k_650, k_900, k_901, k_999, k_1700, k_2600, k_2601, k_2602, k_2603, k_2604, k_2610, k_2618, k_2682, k_2777, k_2844, k_2868, k_2880, k_3245, k_3250, k_9551, k_9999, k_65536, k_100000, k_999999, k_1000000, k_2147483647, lt_T, lt_F, le_T, le_F, eq_T, eq_F, ↓reduceIte, not_true_eq_false, not_false_eq_true, or_true, or_false, true_or, false_or, and_true, true_and, and_false, false_and, bI_t, hg, ldr_ok ho, eh, ew, el, c_slot, G.th]
      · rw [decide_eq_false hk'] at ew
        rw [show q_bed F x h k = (-1, 1) from if_neg (fun q => hk' q.2.2)]
        simp (disch := omega) only [iI_add, iI_sub, iI_mul, iI_neg, iI_nat, addm1, ixkI, ↓sbind, sbind, ↓bdS, bdS, ↓nm_eq, ↓jn_eq, iI_lt, iI_le, iI_eq, k_0, k_1, k_2, k_3, k_4, k_5, k_6, k_7, k_8, k_9, k_10, k_11, k_12, k_13, k_14, k_15, k_16, k_17, k_18, k_19, k_20, k_21, k_22, k_23, k_24, k_27, k_30, k_32, k_48, k_57, k_59, k_60, k_61, k_62, k_63, k_64, k_72, k_78, k_80, k_82, k_97, k_99, k_100, k_122, k_244, k_255, k_268, k_280, k_300, k_432, k_650, k_900, k_901, k_999, k_1700, k_2600, k_2601, k_2602, k_2603, k_2604, k_2610, k_2618, k_2682, k_2777, k_2844, k_2868, k_2880, k_3245, k_3250, k_9551, k_9999, k_65536, k_100000, k_999999, k_1000000, k_2147483647, lt_T, lt_F, le_T, le_F, eq_T, eq_F, ↓reduceIte, not_true_eq_false, not_false_eq_true, or_true, or_false, true_or, false_or, and_true, true_and, and_false, false_and, bI_t, bI_f, hg, ldr_ok ho, eh, ew]
    · rw [s_in_f hh'] at eh
      rw [show q_bed F x h k = (-1, 1) from if_neg (fun q => hh' q.2.1)]
      simp (disch := omega) only [iI_add, iI_sub, iI_mul, iI_neg, iI_nat, addm1, ixkI, ↓sbind, sbind, ↓bdS, bdS, ↓nm_eq, ↓jn_eq, iI_lt, iI_le, iI_eq, k_0, k_1, k_2, k_3, k_4, k_5, k_6, k_7, k_8, k_9, k_10, k_11, k_12, k_13, k_14, k_15, k_16, k_17, k_18, k_19, k_20, k_21, k_22, k_23, k_24, k_27, k_30, k_32, k_48, k_57, k_59, k_60, k_61, k_62, k_63, k_64, k_72, k_78, k_80, k_82, k_97, k_99, k_100, k_122, k_244, k_255, k_268, k_280, k_300, k_432, k_650, k_900, k_901, k_999, k_1700, k_2600, k_2601, k_2602, k_2603, k_2604, k_2610, k_2618, k_2682, k_2777, k_2844, k_2868, k_2880, k_3245, k_3250, k_9551, k_9999, k_65536, k_100000, k_999999, k_1000000, k_2147483647, lt_T, lt_F, le_T, le_F, eq_T, eq_F, ↓reduceIte, not_true_eq_false, not_false_eq_true, or_true, or_false, true_or, false_or, and_true, true_and, and_false, false_and, bI_t, bI_f, hg, ldr_ok ho, eh]
  · rw [s_in_f hc, show q_bed F x h k = (-1, 1) from if_neg (fun q => hc q.1)]
    simp (disch := omega) only [iI_add, iI_sub, iI_mul, iI_neg, iI_nat, addm1, ixkI, ↓sbind, sbind, ↓bdS, bdS, ↓nm_eq, ↓jn_eq, iI_lt, iI_le, iI_eq, k_0, k_1, k_2, k_3, k_4, k_5, k_6, k_7, k_8, k_9, k_10, k_11, k_12, k_13, k_14, k_15, k_16, k_17, k_18, k_19, k_20, k_21, k_22, k_23, k_24, k_27, k_30, k_32, k_48, k_57, k_59, k_60, k_61, k_62, k_63, k_64, k_72, k_78, k_80, k_82, k_97, k_99, k_100, k_122, k_244, k_255, k_268, k_280, k_300, k_432, k_650, k_900, k_901, k_999, k_1700, k_2600, k_2601, k_2602, k_2603, k_2604, k_2610, k_2618, k_2682, k_2777, k_2844, k_2868, k_2880, k_3245, k_3250, k_9551, k_9999, k_65536, k_100000, k_999999, k_1000000, k_2147483647, lt_T, lt_F, le_T, le_F, eq_T, eq_F, ↓reduceIte, not_true_eq_false, not_false_eq_true, or_true, or_false, true_or, false_or, and_true, true_and, and_false, false_and, bI_f]
theorem cq_above (I : CI c g F M) {a b : Int} (ha : -2147483648 ≤ a ∧ a < 2147483648) (hb : -2147483648 ≤ b ∧ b < 2147483648) {φ : Nat} (hφ : 2000 < φ) : CQ c g F M (fX10_above φ c (iI a) (iI b) M) (q_above F a b) := by
  obtain ⟨M1, e, Q, B, O⟩ := ci_isBed I ha hφ
  unfold fX10_above fX10_answerYes fX10_answer fX10_refuse
  rw [e]
  by_cases hc : 0 ≤ a ∧ a < bN F
  · obtain ⟨M2, e2, Q2, B2, O2⟩ := ci_isBed Q.1 hb hφ
    refine ⟨M2, Q.trans Q2, ?_⟩
    rw [s_in_t hc]
    by_cases hd : 0 ≤ b ∧ b < bN F
    · rw [s_in_t hd] at e2
      have eh := c_isHigher Q2.1.2.2.2.1 B2 hc hd (φ := φ) (by omega)
      cases hs : s_hig F a b <;> unfold q_above <;> simp (disch := omega) only [iI_add, iI_sub, iI_mul, iI_neg, iI_nat, addm1, ixkI, ↓sbind, sbind, ↓bdS, bdS, ↓nm_eq, ↓jn_eq, iI_lt, iI_le, iI_eq, k_0, k_1, k_2, k_3, k_4, k_5, k_6, k_7, k_8, k_9, k_10, k_11, k_12, k_13, k_14, k_15, k_16, k_17, k_18, k_19, k_20, k_21, k_22, k_23, k_24, k_27, k_30, k_32, k_48, k_57, k_59, k_60, k_61, k_62, k_63, k_64, k_72, k_78, k_80, k_82, k_97, k_99, k_100, k_122, k_244, k_255, k_268, k_280, k_300, k_432, k_650, k_900, k_901, k_999, k_1700, k_2600, k_2601, k_2602, k_2603, k_2604, k_2610, k_2618, k_2682, k_2777, k_2844, k_2868, k_2880, k_3245, k_3250, k_9551, k_9999, k_65536, k_100000, k_999999, k_1000000, k_2147483647, lt_T, lt_F, le_T, le_F, eq_T, eq_F, ↓reduceIte, not_true_eq_false, not_false_eq_true, or_true, or_false, true_or, false_or, and_true, true_and, and_false, false_and, hs, e2, eh, bI_t, bI_f, if_true, if_false, Bool.false_eq_true]
    · rw [s_in_f hd] at e2
      rw [show q_above F a b = (-1, 1) from if_neg (fun q => hd q.2)]
      simp (disch := omega) only [iI_add, iI_sub, iI_mul, iI_neg, iI_nat, addm1, ixkI, ↓sbind, sbind, ↓bdS, bdS, ↓nm_eq, ↓jn_eq, iI_lt, iI_le, iI_eq, k_0, k_1, k_2, k_3, k_4, k_5, k_6, k_7, k_8, k_9, k_10, k_11, k_12, k_13, k_14, k_15, k_16, k_17, k_18, k_19, k_20, k_21, k_22, k_23, k_24, k_27, k_30, k_32, k_48, k_57, k_59, k_60, k_61, k_62, k_63, k_64, k_72, k_78, k_80, k_82, k_97, k_99, k_100, k_122, k_244, k_255, k_268, k_280, k_300, k_432, k_650, k_900, k_901, k_999, k_1700, k_2600, k_2601, k_2602, k_2603, k_2604, k_2610, k_2618, k_2682, k_2777, k_2844, k_2868, k_2880, k_3245, k_3250, k_9551, k_9999, k_65536, k_100000, k_999999, k_1000000, k_2147483647, lt_T, lt_F, le_T, le_F, eq_T, eq_F, ↓reduceIte, not_true_eq_false, not_false_eq_true, or_true, or_false, true_or, false_or, and_true, true_and, and_false, false_and, bI_t, bI_f, e2]
  · refine ⟨M1, Q, ?_⟩
    rw [s_in_f hc, show q_above F a b = (-1, 1) from if_neg (fun q => hc q.1)]
    simp (disch := omega) only [iI_add, iI_sub, iI_mul, iI_neg, iI_nat, addm1, ixkI, ↓sbind, sbind, ↓bdS, bdS, ↓nm_eq, ↓jn_eq, iI_lt, iI_le, iI_eq, k_0, k_1, k_2, k_3, k_4, k_5, k_6, k_7, k_8, k_9, k_10, k_11, k_12, k_13, k_14, k_15, k_16, k_17, k_18, k_19, k_20, k_21, k_22, k_23, k_24, k_27, k_30, k_32, k_48, k_57, k_59, k_60, k_61, k_62, k_63, k_64, k_72, k_78, k_80, k_82, k_97, k_99, k_100, k_122, k_244, k_255, k_268, k_280, k_300, k_432, k_650, k_900, k_901, k_999, k_1700, k_2600, k_2601, k_2602, k_2603, k_2604, k_2610, k_2618, k_2682, k_2777, k_2844, k_2868, k_2880, k_3245, k_3250, k_9551, k_9999, k_65536, k_100000, k_999999, k_1000000, k_2147483647, lt_T, lt_F, le_T, le_F, eq_T, eq_F, ↓reduceIte, not_true_eq_false, not_false_eq_true, or_true, or_false, true_or, false_or, and_true, true_and, and_false, false_and, bI_f]
theorem cq_order (I : CI c g F M) {k : Int} (hk : -2147483648 ≤ k ∧ k < 2147483648) {φ : Nat} (hφ : 2000 < φ) : CQ c g F M (fX10_order φ c (iI k) M) (q_order F k) := by
  have hb := bN_rng I.2.2.2.1
  unfold fX10_order fX10_answer fX10_refuse
  by_cases h0 : 0 ≤ k
  · obtain ⟨M1, e, Q, B, O⟩ := ci_refresh I hφ
    have h7 := B.2.2.1
    by_cases h1 : k < bN F
    · obtain ⟨M2, e2, f2, B2, O2, s1, T2⟩ := c_isOrdered (t := c + 57) Q.1.2.2.2.1 B O (φ := φ) (by omega)
      have f2' : Fr (Rg (c + 57) (c + 70)) M1 M2 := f2.mono fun x q => ⟨by omega, by omega⟩
      obtain ⟨hg, ho, hd, w, G, hB⟩ := Q.1
      have st : M1.1 (c + 57) 1 = iI 0 ∨ M1.1 (c + 57) 1 = iI 1 := by
        rcases hB with h | h
        · exact Or.inr h
        · exact Or.inl h.1
      have Q2 : QT c g F M1 M2 := ⟨⟨by rw [(f2' c (fun q => by have := q.1; omega)).2.2]; exact hg, ho, hd, w, G.fr f2' (fun x a b q => by have := q.1; have := q.2; omega), by
        rcases st with h | h
        · exact Or.inr ⟨by rw [s1]; exact h, B2, O2⟩
        · exact Or.inl (by rw [s1]; exact h)⟩, f2'⟩
      refine ⟨M2, Q.trans Q2, ?_⟩
      cases hs : s_ho F
      · rw [hs] at e2
        rw [show q_order F k = (-1, 7) from by unfold q_order; rw [if_pos h0, if_pos h1, hs]; rfl]
        simp (disch := omega) only [iI_add, iI_sub, iI_mul, iI_neg, iI_nat, addm1, ixkI, ↓sbind, sbind, ↓bdS, bdS, ↓nm_eq, ↓jn_eq, iI_lt, iI_le, iI_eq, k_0, k_1, k_2, k_3, k_4, k_5, k_6, k_7, k_8, k_9, k_10, k_11, k_12, k_13, k_14, k_15, k_16, k_17, k_18, k_19, k_20, k_21, k_22, k_23, k_24, k_27, k_30, k_32, k_48, k_57, k_59, k_60, k_61, k_62, k_63, k_64, k_72, k_78, k_80, k_82, k_97, k_99, k_100, k_122, k_244, k_255, k_268, k_280, k_300, k_432, k_650, k_900, k_901, k_999, k_1700, k_2600, k_2601, k_2602, k_2603, k_2604, k_2610, k_2618, k_2682, k_2777, k_2844, k_2868, k_2880, k_3245, k_3250, k_9551, k_9999, k_65536, k_100000, k_999999, k_1000000, k_2147483647, lt_T, lt_F, le_T, le_F, eq_T, eq_F, ↓reduceIte, not_true_eq_false, not_false_eq_true, or_true, or_false, true_or, false_or, and_true, true_and, and_false, false_and, I.1, ldr_ok I.2.1, e, h7, e2, bI_f]
      · have t12 := T2 hs k.toNat (by omega)
        rw [hs] at e2
        rw [show q_order F k = (oP F k.toNat, 0) from by unfold q_order; rw [if_pos h0, if_pos h1, hs]; rfl]
        simp (disch := omega) only [iI_add, iI_sub, iI_mul, iI_neg, iI_nat, addm1, ixkI, ↓sbind, sbind, ↓bdS, bdS, ↓nm_eq, ↓jn_eq, iI_lt, iI_le, iI_eq, k_0, k_1, k_2, k_3, k_4, k_5, k_6, k_7, k_8, k_9, k_10, k_11, k_12, k_13, k_14, k_15, k_16, k_17, k_18, k_19, k_20, k_21, k_22, k_23, k_24, k_27, k_30, k_32, k_48, k_57, k_59, k_60, k_61, k_62, k_63, k_64, k_72, k_78, k_80, k_82, k_97, k_99, k_100, k_122, k_244, k_255, k_268, k_280, k_300, k_432, k_650, k_900, k_901, k_999, k_1700, k_2600, k_2601, k_2602, k_2603, k_2604, k_2610, k_2618, k_2682, k_2777, k_2844, k_2868, k_2880, k_3245, k_3250, k_9551, k_9999, k_65536, k_100000, k_999999, k_1000000, k_2147483647, lt_T, lt_F, le_T, le_F, eq_T, eq_F, ↓reduceIte, not_true_eq_false, not_false_eq_true, or_true, or_false, true_or, false_or, and_true, true_and, and_false, false_and, I.1, ldr_ok I.2.1, e, h7, e2, bI_t, t12]
    · refine ⟨M1, Q, ?_⟩
      rw [show q_order F k = (-1, 6) from by unfold q_order; rw [if_pos h0, if_neg h1]]
      simp (disch := omega) only [iI_add, iI_sub, iI_mul, iI_neg, iI_nat, addm1, ixkI, ↓sbind, sbind, ↓bdS, bdS, ↓nm_eq, ↓jn_eq, iI_lt, iI_le, iI_eq, k_0, k_1, k_2, k_3, k_4, k_5, k_6, k_7, k_8, k_9, k_10, k_11, k_12, k_13, k_14, k_15, k_16, k_17, k_18, k_19, k_20, k_21, k_22, k_23, k_24, k_27, k_30, k_32, k_48, k_57, k_59, k_60, k_61, k_62, k_63, k_64, k_72, k_78, k_80, k_82, k_97, k_99, k_100, k_122, k_244, k_255, k_268, k_280, k_300, k_432, k_650, k_900, k_901, k_999, k_1700, k_2600, k_2601, k_2602, k_2603, k_2604, k_2610, k_2618, k_2682, k_2777, k_2844, k_2868, k_2880, k_3245, k_3250, k_9551, k_9999, k_65536, k_100000, k_999999, k_1000000, k_2147483647, lt_T, lt_F, le_T, le_F, eq_T, eq_F, ↓reduceIte, not_true_eq_false, not_false_eq_true, or_true, or_false, true_or, false_or, and_true, true_and, and_false, false_and, I.1, ldr_ok I.2.1, e, h7]
  · refine ⟨M, QT.refl I, ?_⟩
    rw [show q_order F k = (-1, 1) from if_neg h0]
    simp (disch := omega) only [iI_add, iI_sub, iI_mul, iI_neg, iI_nat, addm1, ixkI, ↓sbind, sbind, ↓bdS, bdS, ↓nm_eq, ↓jn_eq, iI_lt, iI_le, iI_eq, k_0, k_1, k_2, k_3, k_4, k_5, k_6, k_7, k_8, k_9, k_10, k_11, k_12, k_13, k_14, k_15, k_16, k_17, k_18, k_19, k_20, k_21, k_22, k_23, k_24, k_27, k_30, k_32, k_48, k_57, k_59, k_60, k_61, k_62, k_63, k_64, k_72, k_78, k_80, k_82, k_97, k_99, k_100, k_122, k_244, k_255, k_268, k_280, k_300, k_432, k_650, k_900, k_901, k_999, k_1700, k_2600, k_2601, k_2602, k_2603, k_2604, k_2610, k_2618, k_2682, k_2777, k_2844, k_2868, k_2880, k_3245, k_3250, k_9551, k_9999, k_65536, k_100000, k_999999, k_1000000, k_2147483647, lt_T, lt_F, le_T, le_F, eq_T, eq_F, ↓reduceIte, not_true_eq_false, not_false_eq_true, or_true, or_false, true_or, false_or, and_true, true_and, and_false, false_and]
theorem cq_widest (I : CI c g F M) {φ : Nat} (hφ : 2000 < φ) : CQ c g F M (fX10_widest φ c M) (q_widest F) := by
  obtain ⟨M1, e, Q, B, O⟩ := ci_refresh I hφ
  refine ⟨M1, Q, ?_⟩
  obtain ⟨e2, b1, b2⟩ := c_widestBed (t := c + 57) Q.1.2.2.2.1 B (φ := φ) (by omega)
  have hb := bN_rng I.2.2.2.1
  unfold fX10_widest fX10_answerOrNoSuch fX10_answer fX10_refuse q_widest
  by_cases hz : s_wid F = -1
  · simp (disch := omega) only [iI_add, iI_sub, iI_mul, iI_neg, iI_nat, addm1, ixkI, ↓sbind, sbind, ↓bdS, bdS, ↓nm_eq, ↓jn_eq, iI_lt, iI_le, iI_eq, k_0, k_1, k_2, k_3, k_4, k_5, k_6, k_7, k_8, k_9, k_10, k_11, k_12, k_13, k_14, k_15, k_16, k_17, k_18, k_19, k_20, k_21, k_22, k_23, k_24, k_27, k_30, k_32, k_48, k_57, k_59, k_60, k_61, k_62, k_63, k_64, k_72, k_78, k_80, k_82, k_97, k_99, k_100, k_122, k_244, k_255, k_268, k_280, k_300, k_432, k_650, k_900, k_901, k_999, k_1700, k_2600, k_2601, k_2602, k_2603, k_2604, k_2610, k_2618, k_2682, k_2777, k_2844, k_2868, k_2880, k_3245, k_3250, k_9551, k_9999, k_65536, k_100000, k_999999, k_1000000, k_2147483647, lt_T, lt_F, le_T, le_F, eq_T, eq_F, ↓reduceIte, not_true_eq_false, not_false_eq_true, or_true, or_false, true_or, false_or, and_true, true_and, and_false, false_and, I.1, ldr_ok I.2.1, e, e2, hz]
  · simp (disch := omega) only [iI_add, iI_sub, iI_mul, iI_neg, iI_nat, addm1, ixkI, ↓sbind, sbind, ↓bdS, bdS, ↓nm_eq, ↓jn_eq, iI_lt, iI_le, iI_eq, k_0, k_1, k_2, k_3, k_4, k_5, k_6, k_7, k_8, k_9, k_10, k_11, k_12, k_13, k_14, k_15, k_16, k_17, k_18, k_19, k_20, k_21, k_22, k_23, k_24, k_27, k_30, k_32, k_48, k_57, k_59, k_60, k_61, k_62, k_63, k_64, k_72, k_78, k_80, k_82, k_97, k_99, k_100, k_122, k_244, k_255, k_268, k_280, k_300, k_432, k_650, k_900, k_901, k_999, k_1700, k_2600, k_2601, k_2602, k_2603, k_2604, k_2610, k_2618, k_2682, k_2777, k_2844, k_2868, k_2880, k_3245, k_3250, k_9551, k_9999, k_65536, k_100000, k_999999, k_1000000, k_2147483647, lt_T, lt_F, le_T, le_F, eq_T, eq_F, ↓reduceIte, not_true_eq_false, not_false_eq_true, or_true, or_false, true_or, false_or, and_true, true_and, and_false, false_and, I.1, ldr_ok I.2.1, e, e2]
theorem cq_deepest (I : CI c g F M) {x : Int} (hx : -2147483648 ≤ x ∧ x < 2147483648) {φ : Nat} (hφ : 2000 < φ) : CQ c g F M (fX10_deepest φ c (iI x) M) (q_deepest F x) := by
  obtain ⟨M1, e, Q, B, O⟩ := ci_isBed I hx hφ
  refine ⟨M1, Q, ?_⟩
  obtain ⟨hg, ho, hd, w, G, hB⟩ := Q.1
  have n1 := w.n1
  unfold fX10_deepest
  rw [e]
  by_cases hc : 0 ≤ x ∧ x < bN F
  · have key := lup (N := F 0 1 0) (P := fun n i => ∀ q : Int × Int, (-1 ≤ q.2 ∧ q.2 ≤ 20000) → lX10_deepest_21 φ c (iI x) M1 n (iI q.1) (iI q.2) (iI i) = some (iI (fo (fun h q => s_dp F x h q) (F 0 1 0) i q).1, stI M1 c 0 (iI 0)))
      (fun n q hq => by
        rw [lX10_deepest_21_s, fo_e _ (Int.le_refl _)]
        unfold fX10_answer
        simp (disch := omega) only [iI_add, iI_sub, iI_mul, iI_neg, iI_nat, addm1, ixkI, ↓sbind, sbind, ↓bdS, bdS, ↓nm_eq, ↓jn_eq, iI_lt, iI_le, iI_eq, k_0, k_1, k_2, k_3, k_4, k_5, k_6, k_7, k_8, k_9, k_10, k_11, k_12, k_13, k_14, k_15, k_16, k_17, k_18, k_19, k_20, k_21, k_22, k_23, k_24, k_27, k_30, k_32, k_48, k_57, k_59, k_60, k_61, k_62, k_63, k_64, k_72, k_78, k_80, k_82, k_97, k_99, k_100, k_122, k_244, k_255, k_268, k_280, k_300, k_432, k_650, k_900, k_901, k_999, k_1700, k_2600, k_2601, k_2602, k_2603, k_2604, k_2610, k_2618, k_2682, k_2777, k_2844, k_2868, k_2880, k_3245, k_3250, k_9551, k_9999, k_65536, k_100000, k_999999, k_1000000, k_2147483647, lt_T, lt_F, le_T, le_F, eq_T, eq_F, ↓reduceIte, not_true_eq_false, not_false_eq_true, or_true, or_false, true_or, false_or, and_true, true_and, and_false, false_and, hg, ldr_ok ho, G.n1])
      (fun n i i0 i1 ih q hq => by
        have z := s_fst_bd w (x := x) ⟨i0, i1⟩
        have el := c_layerIn (t := c + 57) w B (x := x) (h := i) hc (by omega)
        rw [show s_li F x i = s_fst F x i from if_pos i1] at el
        rw [lX10_deepest_21_s, fo_s _ i1]
        by_cases hz : s_fst F x i = -1
        · rw [show s_dp F x i q = q from if_neg (fun z => z.1 hz), ← ih q hq]
          simp (disch := omega) only [iI_add, iI_sub, iI_mul, iI_neg, iI_nat, addm1, ixkI, ↓sbind, sbind, ↓bdS, bdS, ↓nm_eq, ↓jn_eq, iI_lt, iI_le, iI_eq, k_0, k_1, k_2, k_3, k_4, k_5, k_6, k_7, k_8, k_9, k_10, k_11, k_12, k_13, k_14, k_15, k_16, k_17, k_18, k_19, k_20, k_21, k_22, k_23, k_24, k_27, k_30, k_32, k_48, k_57, k_59, k_60, k_61, k_62, k_63, k_64, k_72, k_78, k_80, k_82, k_97, k_99, k_100, k_122, k_244, k_255, k_268, k_280, k_300, k_432, k_650, k_900, k_901, k_999, k_1700, k_2600, k_2601, k_2602, k_2603, k_2604, k_2610, k_2618, k_2682, k_2777, k_2844, k_2868, k_2880, k_3245, k_3250, k_9551, k_9999, k_65536, k_100000, k_999999, k_1000000, k_2147483647, lt_T, lt_F, le_T, le_F, eq_T, eq_F, ↓reduceIte, not_true_eq_false, not_false_eq_true, or_true, or_false, true_or, false_or, and_true, true_and, and_false, false_and, hg, ldr_ok ho, G.n1, el]
        · have bd := w.depth ⟨i0, i1⟩ (n := s_fst F x i) (by omega)
          have ed := c_depthOf w G (k := s_fst F x i) ⟨i0, i1⟩ (by omega) (φ := φ) (by omega)
          by_cases hl : q.2 < s_depth F i (s_fst F x i)
          · rw [show s_dp F x i q = (i, s_depth F i (s_fst F x i)) from if_pos ⟨hz, hl⟩, ← ih (i, s_depth F i (s_fst F x i)) (by show -1 ≤ s_depth F i (s_fst F x i) ∧ _; omega)]
            simp (disch := omega) only [iI_add, iI_sub, iI_mul, iI_neg, iI_nat, addm1, ixkI, ↓sbind, sbind, ↓bdS, bdS, ↓nm_eq, ↓jn_eq, iI_lt, iI_le, iI_eq, k_0, k_1, k_2, k_3, k_4, k_5, k_6, k_7, k_8, k_9, k_10, k_11, k_12, k_13, k_14, k_15, k_16, k_17, k_18, k_19, k_20, k_21, k_22, k_23, k_24, k_27, k_30, k_32, k_48, k_57, k_59, k_60, k_61, k_62, k_63, k_64, k_72, k_78, k_80, k_82, k_97, k_99, k_100, k_122, k_244, k_255, k_268, k_280, k_300, k_432, k_650, k_900, k_901, k_999, k_1700, k_2600, k_2601, k_2602, k_2603, k_2604, k_2610, k_2618, k_2682, k_2777, k_2844, k_2868, k_2880, k_3245, k_3250, k_9551, k_9999, k_65536, k_100000, k_999999, k_1000000, k_2147483647, lt_T, lt_F, le_T, le_F, eq_T, eq_F, ↓reduceIte, not_true_eq_false, not_false_eq_true, or_true, or_false, true_or, false_or, and_true, true_and, and_false, false_and, hg, ldr_ok ho, G.n1, el, ed]
          · rw [show s_dp F x i q = q from if_neg (fun z => hl z.2), ← ih q hq]
            simp (disch := omega) only [iI_add, iI_sub, iI_mul, iI_neg, iI_nat, addm1, ixkI, ↓sbind, sbind, ↓bdS, bdS, ↓nm_eq, ↓jn_eq, iI_lt, iI_le, iI_eq, k_0, k_1, k_2, k_3, k_4, k_5, k_6, k_7, k_8, k_9, k_10, k_11, k_12, k_13, k_14, k_15, k_16, k_17, k_18, k_19, k_20, k_21, k_22, k_23, k_24, k_27, k_30, k_32, k_48, k_57, k_59, k_60, k_61, k_62, k_63, k_64, k_72, k_78, k_80, k_82, k_97, k_99, k_100, k_122, k_244, k_255, k_268, k_280, k_300, k_432, k_650, k_900, k_901, k_999, k_1700, k_2600, k_2601, k_2602, k_2603, k_2604, k_2610, k_2618, k_2682, k_2777, k_2844, k_2868, k_2880, k_3245, k_3250, k_9551, k_9999, k_65536, k_100000, k_999999, k_1000000, k_2147483647, lt_T, lt_F, le_T, le_F, eq_T, eq_F, ↓reduceIte, not_true_eq_false, not_false_eq_true, or_true, or_false, true_or, false_or, and_true, true_and, and_false, false_and, hg, ldr_ok ho, G.n1, el, ed])
      φ 0 (by omega) (by omega) (by omega) (-1, -1) (by omega)
    rw [s_in_t hc, show q_deepest F x = ((fo (fun h q => s_dp F x h q) (F 0 1 0) 0 (-1, -1)).1, 0) from if_pos hc, ← key]
    simp (disch := omega) only [iI_add, iI_sub, iI_mul, iI_neg, iI_nat, addm1, ixkI, ↓sbind, sbind, ↓bdS, bdS, ↓nm_eq, ↓jn_eq, iI_lt, iI_le, iI_eq, k_0, k_1, k_2, k_3, k_4, k_5, k_6, k_7, k_8, k_9, k_10, k_11, k_12, k_13, k_14, k_15, k_16, k_17, k_18, k_19, k_20, k_21, k_22, k_23, k_24, k_27, k_30, k_32, k_48, k_57, k_59, k_60, k_61, k_62, k_63, k_64, k_72, k_78, k_80, k_82, k_97, k_99, k_100, k_122, k_244, k_255, k_268, k_280, k_300, k_432, k_650, k_900, k_901, k_999, k_1700, k_2600, k_2601, k_2602, k_2603, k_2604, k_2610, k_2618, k_2682, k_2777, k_2844, k_2868, k_2880, k_3245, k_3250, k_9551, k_9999, k_65536, k_100000, k_999999, k_1000000, k_2147483647, lt_T, lt_F, le_T, le_F, eq_T, eq_F, ↓reduceIte, not_true_eq_false, not_false_eq_true, or_true, or_false, true_or, false_or, and_true, true_and, and_false, false_and, bI_t]
  · unfold fX10_refuse
    rw [s_in_f hc, show q_deepest F x = (-1, 1) from if_neg hc]
    simp (disch := omega) only [iI_add, iI_sub, iI_mul, iI_neg, iI_nat, addm1, ixkI, ↓sbind, sbind, ↓bdS, bdS, ↓nm_eq, ↓jn_eq, iI_lt, iI_le, iI_eq, k_0, k_1, k_2, k_3, k_4, k_5, k_6, k_7, k_8, k_9, k_10, k_11, k_12, k_13, k_14, k_15, k_16, k_17, k_18, k_19, k_20, k_21, k_22, k_23, k_24, k_27, k_30, k_32, k_48, k_57, k_59, k_60, k_61, k_62, k_63, k_64, k_72, k_78, k_80, k_82, k_97, k_99, k_100, k_122, k_244, k_255, k_268, k_280, k_300, k_432, k_650, k_900, k_901, k_999, k_1700, k_2600, k_2601, k_2602, k_2603, k_2604, k_2610, k_2618, k_2682, k_2777, k_2844, k_2868, k_2880, k_3245, k_3250, k_9551, k_9999, k_65536, k_100000, k_999999, k_1000000, k_2147483647, lt_T, lt_F, le_T, le_F, eq_T, eq_F, ↓reduceIte, not_true_eq_false, not_false_eq_true, or_true, or_false, true_or, false_or, and_true, true_and, and_false, false_and, bI_f]
theorem cq_shared (I : CI c g F M) {a b : Int} (ha : -2147483648 ≤ a ∧ a < 2147483648) (hb : -2147483648 ≤ b ∧ b < 2147483648) {φ : Nat} (hφ : 2000 < φ) : CQ c g F M (fX10_shared φ c (iI a) (iI b) M) (q_shared F a b) := by
  unfold fX10_shared fX10_answer fX10_refuse
  simp only [I.1, ldr_ok I.2.1, sbind]
  rw [c_isHole I.2.2.2.1 I.2.2.2.2.1 ha, c_isHole I.2.2.2.1 I.2.2.2.2.1 hb]
  by_cases h1 : 0 ≤ a ∧ a < F 0 1 0
  · by_cases h2 : 0 ≤ b ∧ b < F 0 1 0
    · rw [s_in_t h1, s_in_t h2]
      by_cases h3 : a = b
      · refine ⟨M, QT.refl I, ?_⟩
        rw [show q_shared F a b = (-1, 1) from if_neg (fun q => q.2.2 h3)]
        simp (disch := omega) only [iI_add, iI_sub, iI_mul, iI_neg, iI_nat, addm1, ixkI, ↓sbind, sbind, ↓bdS, bdS, ↓nm_eq, ↓jn_eq, iI_lt, iI_le, iI_eq, k_0, k_1, k_2, k_3, k_4, k_5, k_6, k_7, k_8, k_9, k_10, k_11, k_12, k_13, k_14, k_15, k_16, k_17, k_18, k_19, k_20, k_21, k_22, k_23, k_24, k_27, k_30, k_32, k_48, k_57, k_59, k_60, k_61, k_62, k_63, k_64, k_72, k_78, k_80, k_82, k_97, k_99, k_100, k_122, k_244, k_255, k_268, k_280, k_300, k_432, k_650, k_900, k_901, k_999, k_1700, k_2600, k_2601, k_2602, k_2603, k_2604, k_2610, k_2618, k_2682, k_2777, k_2844, k_2868, k_2880, k_3245, k_3250, k_9551, k_9999, k_65536, k_100000, k_999999, k_1000000, k_2147483647, lt_T, lt_F, le_T, le_F, eq_T, eq_F, ↓reduceIte, not_true_eq_false, not_false_eq_true, or_true, or_false, true_or, false_or, and_true, true_and, and_false, false_and, bI_t]
      · obtain ⟨M1, e, Q, B, O⟩ := ci_refresh I hφ
        refine ⟨M1, Q, ?_⟩
        have eb := c_inBoth (t := c + 57) Q.1.2.2.2.1 B h1 h2 (φ := φ) (by omega)
        rw [show q_shared F a b = (s_both F a b, 0) from if_pos ⟨h1, h2, h3⟩]
        simp (disch := omega) only [iI_add, iI_sub, iI_mul, iI_neg, iI_nat, addm1, ixkI, ↓sbind, sbind, ↓bdS, bdS, ↓nm_eq, ↓jn_eq, iI_lt, iI_le, iI_eq, k_0, k_1, k_2, k_3, k_4, k_5, k_6, k_7, k_8, k_9, k_10, k_11, k_12, k_13, k_14, k_15, k_16, k_17, k_18, k_19, k_20, k_21, k_22, k_23, k_24, k_27, k_30, k_32, k_48, k_57, k_59, k_60, k_61, k_62, k_63, k_64, k_72, k_78, k_80, k_82, k_97, k_99, k_100, k_122, k_244, k_255, k_268, k_280, k_300, k_432, k_650, k_900, k_901, k_999, k_1700, k_2600, k_2601, k_2602, k_2603, k_2604, k_2610, k_2618, k_2682, k_2777, k_2844, k_2868, k_2880, k_3245, k_3250, k_9551, k_9999, k_65536, k_100000, k_999999, k_1000000, k_2147483647, lt_T, lt_F, le_T, le_F, eq_T, eq_F, ↓reduceIte, not_true_eq_false, not_false_eq_true, or_true, or_false, true_or, false_or, and_true, true_and, and_false, false_and, bI_t, e, eb]
    · refine ⟨M, QT.refl I, ?_⟩
      rw [s_in_t h1, s_in_f h2, show q_shared F a b = (-1, 1) from if_neg (fun q => h2 q.2.1)]
      simp (disch := omega) only [iI_add, iI_sub, iI_mul, iI_neg, iI_nat, addm1, ixkI, ↓sbind, sbind, ↓bdS, bdS, ↓nm_eq, ↓jn_eq, iI_lt, iI_le, iI_eq, k_0, k_1, k_2, k_3, k_4, k_5, k_6, k_7, k_8, k_9, k_10, k_11, k_12, k_13, k_14, k_15, k_16, k_17, k_18, k_19, k_20, k_21, k_22, k_23, k_24, k_27, k_30, k_32, k_48, k_57, k_59, k_60, k_61, k_62, k_63, k_64, k_72, k_78, k_80, k_82, k_97, k_99, k_100, k_122, k_244, k_255, k_268, k_280, k_300, k_432, k_650, k_900, k_901, k_999, k_1700, k_2600, k_2601, k_2602, k_2603, k_2604, k_2610, k_2618, k_2682, k_2777, k_2844, k_2868, k_2880, k_3245, k_3250, k_9551, k_9999, k_65536, k_100000, k_999999, k_1000000, k_2147483647, lt_T, lt_F, le_T, le_F, eq_T, eq_F, ↓reduceIte, not_true_eq_false, not_false_eq_true, or_true, or_false, true_or, false_or, and_true, true_and, and_false, false_and, bI_t, bI_f]
  · refine ⟨M, QT.refl I, ?_⟩
    rw [s_in_f h1, show q_shared F a b = (-1, 1) from if_neg (fun q => h1 q.1)]
    simp (disch := omega) only [iI_add, iI_sub, iI_mul, iI_neg, iI_nat, addm1, ixkI, ↓sbind, sbind, ↓bdS, bdS, ↓nm_eq, ↓jn_eq, iI_lt, iI_le, iI_eq, k_0, k_1, k_2, k_3, k_4, k_5, k_6, k_7, k_8, k_9, k_10, k_11, k_12, k_13, k_14, k_15, k_16, k_17, k_18, k_19, k_20, k_21, k_22, k_23, k_24, k_27, k_30, k_32, k_48, k_57, k_59, k_60, k_61, k_62, k_63, k_64, k_72, k_78, k_80, k_82, k_97, k_99, k_100, k_122, k_244, k_255, k_268, k_280, k_300, k_432, k_650, k_900, k_901, k_999, k_1700, k_2600, k_2601, k_2602, k_2603, k_2604, k_2610, k_2618, k_2682, k_2777, k_2844, k_2868, k_2880, k_3245, k_3250, k_9551, k_9999, k_65536, k_100000, k_999999, k_1000000, k_2147483647, lt_T, lt_F, le_T, le_F, eq_T, eq_F, ↓reduceIte, not_true_eq_false, not_false_eq_true, or_true, or_false, true_or, false_or, and_true, true_and, and_false, false_and, bI_f]
theorem cq_gaps (I : CI c g F M) {h : Int} (hh : -2147483648 ≤ h ∧ h < 2147483648) {φ : Nat} (hφ : 2000 < φ) : CQ c g F M (fX10_gaps φ c (iI h) M) (q_gaps F h) := by
  unfold fX10_gaps fX10_answer fX10_refuse
  simp only [I.1, ldr_ok I.2.1, sbind]
  rw [c_isHole I.2.2.2.1 I.2.2.2.2.1 hh]
  by_cases h1 : 0 ≤ h ∧ h < F 0 1 0
  · obtain ⟨M1, e, Q, B, O⟩ := ci_refresh I hφ
    refine ⟨M1, Q, ?_⟩
    have eb := c_gapsIn (t := c + 57) Q.1.2.2.2.1 B h1 (φ := φ) (by omega)
    rw [s_in_t h1, show q_gaps F h = (s_gap F h, 0) from if_pos h1]
    simp (disch := omega) only [iI_add, iI_sub, iI_mul, iI_neg, iI_nat, addm1, ixkI, ↓sbind, sbind, ↓bdS, bdS, ↓nm_eq, ↓jn_eq, iI_lt, iI_le, iI_eq, k_0, k_1, k_2, k_3, k_4, k_5, k_6, k_7, k_8, k_9, k_10, k_11, k_12, k_13, k_14, k_15, k_16, k_17, k_18, k_19, k_20, k_21, k_22, k_23, k_24, k_27, k_30, k_32, k_48, k_57, k_59, k_60, k_61, k_62, k_63, k_64, k_72, k_78, k_80, k_82, k_97, k_99, k_100, k_122, k_244, k_255, k_268, k_280, k_300, k_432, k_650, k_900, k_901, k_999, k_1700, k_2600, k_2601, k_2602, k_2603, k_2604, k_2610, k_2618, k_2682, k_2777, k_2844, k_2868, k_2880, k_3245, k_3250, k_9551, k_9999, k_65536, k_100000, k_999999, k_1000000, k_2147483647, lt_T, lt_F, le_T, le_F, eq_T, eq_F, ↓reduceIte, not_true_eq_false, not_false_eq_true, or_true, or_false, true_or, false_or, and_true, true_and, and_false, false_and, bI_t, e, eb]
  · refine ⟨M, QT.refl I, ?_⟩
    rw [s_in_f h1, show q_gaps F h = (-1, 1) from if_neg h1]
    simp (disch := omega) only [iI_add, iI_sub, iI_mul, iI_neg, iI_nat, addm1, ixkI, ↓sbind, sbind, ↓bdS, bdS, ↓nm_eq, ↓jn_eq, iI_lt, iI_le, iI_eq, k_0, k_1, k_2, k_3, k_4, k_5, k_6, k_7, k_8, k_9, k_10, k_11, k_12, k_13, k_14, k_15, k_16, k_17, k_18, k_19, k_20, k_21, k_22, k_23, k_24, k_27, k_30, k_32, k_48, k_57, k_59, k_60, k_61, k_62, k_63, k_64, k_72, k_78, k_80, k_82, k_97, k_99, k_100, k_122, k_244, k_255, k_268, k_280, k_300, k_432, k_650, k_900, k_901, k_999, k_1700, k_2600, k_2601, k_2602, k_2603, k_2604, k_2610, k_2618, k_2682, k_2777, k_2844, k_2868, k_2880, k_3245, k_3250, k_9551, k_9999, k_65536, k_100000, k_999999, k_1000000, k_2147483647, lt_T, lt_F, le_T, le_F, eq_T, eq_F, ↓reduceIte, not_true_eq_false, not_false_eq_true, or_true, or_false, true_or, false_or, and_true, true_and, and_false, false_and, bI_f]
end BDq
