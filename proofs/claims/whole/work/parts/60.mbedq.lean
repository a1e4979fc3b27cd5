/-! questions to the beds as a whole: the reference -/
section MBq
variable {m : Nat} {F : Fld} {M : Mem}
theorem QM.trans {M1 M2 : Mem} (h1 : QM m M M1) (h2 : QM m M1 M2) : QM m M M2 := ⟨h1.1.trans h2.1, fun j a b => (h2.2.1 j a b).trans (h1.2.1 j a b), h2.2.2.trans h1.2.2⟩
theorem QM.mr {M1 : Mem} (h : QM m M M1) (G : MR m 0 F M) : MR m 0 F M1 := G.fr h.1 (fun q => by omega)
theorem mi_lays (w : WF F) (G : MR m 0 F M) {φ : Nat} (hφ : 100 < φ) : ∃ M1, fX11_laysBeds φ m M = some ((), M1) ∧ QM m M M1 ∧ MR m 0 F M1 ∧ BM m F M1 := by
  obtain ⟨M1, e, f, B, u, v⟩ := m_laysBeds w hφ G
  have q : QM m M M1 := ⟨f.mono fun x q => by omega, u, v⟩
  exact ⟨M1, e, q, q.mr G, B⟩
theorem mi_tree (w : WF F) (G : MR m 0 F M) {φ : Nat} (hφ : 100 < φ) : ∃ M1, fX11_laysTree φ m M = some ((), M1) ∧ QM m M M1 ∧ MR m 0 F M1 ∧ TM m F (s_cn F) M1 := by
  obtain ⟨M1, e, f, B, u, v⟩ := m_laysTree w hφ G
  have q : QM m M M1 := ⟨f.mono fun x q => by omega, fun j a _ => u j a, v⟩
  exact ⟨M1, e, q, q.mr G, B⟩
theorem mq_tree (w : WF F) (G : MR m 0 F M) {k x : Int} (hk : -2147483648 ≤ k ∧ k < 2147483648) (hx : -2147483648 ≤ x ∧ x < 2147483648) {φ : Nat} (hφ : 100 < φ) : mQ m M (fX11_tree φ m (iI k) (iI x) M) (q_tree F k x) := by
  have n1 := w.n1
  have hcn : ((s_cn F : Nat) : Int) ≤ 5 := by unfold s_cn; omega
  unfold fX11_tree fX11_gives fX11_refuse
  by_cases h : 0 ≤ x ∧ x ≤ 2
  · obtain ⟨M1, e, Q, G1, T⟩ := mi_tree w G hφ
    refine ⟨M1, Q, ?_⟩
    have h2 := T.1
    by_cases hk' : 0 ≤ k ∧ k < s_cn F
    · have h4 := T.2.2 k.toNat (by omega)
      rw [show q_tree F k x = (if x = 0 then (tQ F k.toNat).1 else if x = 1 then (tQ F k.toNat).2 else s_sq F (tQ F k.toNat).1 (tQ F k.toNat).2, 0) from by unfold q_tree; rw [if_pos h, if_pos hk']]
      by_cases x0 : x = 0
      · rw [x0]; simp (disch := omega) only [iI_add, iI_sub, iI_mul, iI_neg, iI_nat, addm1, ixkI, ↓sbind, sbind, ↓bdS, bdS, ↓nm_eq, ↓jn_eq, iI_lt, iI_le, iI_eq, k_0, k_1, k_2, k_3, k_4, k_5, k_6, k_7, k_8, k_9, k_10, k_11, k_12, k_13, k_14, k_15, k_16, k_17, k_18, k_19, k_20, k_21, k_22, k_23, k_24, k_27, k_30, k_32, k_48, k_57, k_59, k_60, k_61, k_62, k_63, k_64, k_72, k_78, k_80, k_82, k_97, k_99, k_100, k_122, k_244, k_255, k_268, k_280, k_300, k_432, k_650, k_900, k_901, k_999, k_1700, k_2600, k_2601, k_2602, k_2603, k_2604, k_2610, k_2618, k_2682, k_2777, k_2844, k_2868, k_2880, k_3245, k_3250, k_9551, k_9999, k_65536, k_100000, k_999999, k_1000000, k_2147483647, lt_T, lt_F, le_T, le_F, eq_T, eq_F, ↓reduceIte, not_true_eq_false, not_false_eq_true, or_true, or_false, true_or, false_or, and_true, true_and, and_false, false_and, e, h2, h4.1]
      · by_cases x1 : x = 1
        · rw [x1]; simp (disch := omega) only [iI_add, iI_sub, iI_mul, iI_neg, iI_nat, addm1, ixkI, ↓sbind, sbind, ↓bdS, bdS, ↓nm_eq, ↓jn_eq, iI_lt, iI_le, iI_eq, k_0, k_1, k_2, k_3, k_4, k_5, k_6, k_7, k_8, k_9, k_10, k_11, k_12, k_13, k_14, k_15, k_16, k_17, k_18, k_19, k_20, k_21, k_22, k_23, k_24, k_27, k_30, k_32, k_48, k_57, k_59, k_60, k_61, k_62, k_63, k_64, k_72, k_78, k_80, k_82, k_97, k_99, k_100, k_122, k_244, k_255, k_268, k_280, k_300, k_432, k_650, k_900, k_901, k_999, k_1700, k_2600, k_2601, k_2602, k_2603, k_2604, k_2610, k_2618, k_2682, k_2777, k_2844, k_2868, k_2880, k_3245, k_3250, k_9551, k_9999, k_65536, k_100000, k_999999, k_1000000, k_2147483647, lt_T, lt_F, le_T, le_F, eq_T, eq_F, ↓reduceIte, not_true_eq_false, not_false_eq_true, or_true, or_false, true_or, false_or, and_true, true_and, and_false, false_and, e, h2, h4.2]
        · obtain ⟨q1, q2, q3, q4⟩ := tQ_ok w (k := k.toNat) (by unfold s_cn at hk'; omega)
          have es := m_square w G1 (a := (tQ F k.toNat).1) (b := (tQ F k.toNat).2) (by omega) (by omega)
          simp (disch := omega) only [iI_add, iI_sub, iI_mul, iI_neg, iI_nat, addm1, ixkI, ↓sbind, sbind, ↓bdS, bdS, ↓nm_eq, ↓jn_eq, iI_lt, iI_le, iI_eq, k_0, k_1, k_2, k_3, k_4, k_5, k_6, k_7, k_8, k_9, k_10, k_11, k_12, k_13, k_14, k_15, k_16, k_17, k_18, k_19, k_20, k_21, k_22, k_23, k_24, k_27, k_30, k_32, k_48, k_57, k_59, k_60, k_61, k_62, k_63, k_64, k_72, k_78, k_80, k_82, k_97, k_99, k_100, k_122, k_244, k_255, k_268, k_280, k_300, k_432, k_650, k_900, k_901, k_999, k_1700, k_2600, k_2601, k_2602, k_2603, k_2604, k_2610, k_2618, k_2682, k_2777, k_2844, k_2868, k_2880, k_3245, k_3250, k_9551, k_9999, k_65536, k_100000, k_999999, k_1000000, k_2147483647, lt_T, lt_F, le_T, le_F, eq_T, eq_F, ↓reduceIte, not_true_eq_false, not_false_eq_true, or_true, or_false, true_or, false_or, and_true, true_and, and_false, false_and, e, h2, h4.1, h4.2, es]
    · rw [show q_tree F k x = (-1, 6) from by unfold q_tree; rw [if_pos h, if_neg hk']]
      by_cases k0 : k < 0
      · simp (disch := omega) only [iI_add, iI_sub, iI_mul, iI_neg, iI_nat, addm1, ixkI, ↓sbind, sbind, ↓bdS, bdS, ↓nm_eq, ↓jn_eq, iI_lt, iI_le, iI_eq, k_0, k_1, k_2, k_3, k_4, k_5, k_6, k_7, k_8, k_9, k_10, k_11, k_12, k_13, k_14, k_15, k_16, k_17, k_18, k_19, k_20, k_21, k_22, k_23, k_24, k_27, k_30, k_32, k_48, k_57, k_59, k_60, k_61, k_62, k_63, k_64, k_72, k_78, k_80, k_82, k_97, k_99, k_100, k_122, k_244, k_255, k_268, k_280, k_300, k_432, k_650, k_900, k_901, k_999, k_1700, k_2600, k_2601, k_2602, k_2603, k_2604, k_2610, k_2618, k_2682, k_2777, k_2844, k_2868, k_2880, k_3245, k_3250, k_9551, k_9999, k_65536, k_100000, k_999999, k_1000000, k_2147483647, lt_T, lt_F, le_T, le_F, eq_T, eq_F, ↓reduceIte, not_true_eq_false, not_false_eq_true, or_true, or_false, true_or, false_or, and_true, true_and, and_false, false_and, e, h2]
      · simp (disch := omega) only [iI_add, iI_sub, iI_mul, iI_neg, iI_nat, addm1, ixkI, ↓sbind, sbind, ↓bdS, bdS, ↓nm_eq, ↓jn_eq, iI_lt, iI_le, iI_eq, k_0, k_1, k_2, k_3, k_4, k_5, k_6, k_7, k_8, k_9, k_10, k_11, k_12, k_13, k_14, k_15, k_16, k_17, k_18, k_19, k_20, k_21, k_22, k_23, k_24, k_27, k_30, k_32, k_48, k_57, k_59, k_60, k_61, k_62, k_63, k_64, k_72, k_78, k_80, k_82, k_97, k_99, k_100, k_122, k_244, k_255, k_268, k_280, k_300, k_432, k_650, k_900, k_901, k_999, k_1700, k_2600, k_2601, k_2602, k_2603, k_2604, k_2610, k_2618, k_2682, k_2777, k_2844, k_2868, k_2880, k_3245, k_3250, k_9551, k_9999, k_65536, k_100000, k_999999, k_1000000, k_2147483647, lt_T, lt_F, le_T, le_F, eq_T, eq_F, ↓reduceIte, not_true_eq_false, not_false_eq_true, or_true, or_false, true_or, false_or, and_true, true_and, and_false, false_and, e, h2]
  · refine ⟨M, QM.refl m M, ?_⟩
    rw [show q_tree F k x = (-1, 1) from if_neg h]
    by_cases x0 : x < 0
    · simp (disch := omega) only [iI_add, iI_sub, iI_mul, iI_neg, iI_nat, addm1, ixkI, ↓sbind, sbind, ↓bdS, bdS, ↓nm_eq, ↓jn_eq, iI_lt, iI_le, iI_eq, k_0, k_1, k_2, k_3, k_4, k_5, k_6, k_7, k_8, k_9, k_10, k_11, k_12, k_13, k_14, k_15, k_16, k_17, k_18, k_19, k_20, k_21, k_22, k_23, k_24, k_27, k_30, k_32, k_48, k_57, k_59, k_60, k_61, k_62, k_63, k_64, k_72, k_78, k_80, k_82, k_97, k_99, k_100, k_122, k_244, k_255, k_268, k_280, k_300, k_432, k_650, k_900, k_901, k_999, k_1700, k_2600, k_2601, k_2602, k_2603, k_2604, k_2610, k_2618, k_2682, k_2777, k_2844, k_2868, k_2880, k_3245, k_3250, k_9551, k_9999, k_65536, k_100000, k_999999, k_1000000, k_2147483647, lt_T, lt_F, le_T, le_F, eq_T, eq_F, ↓reduceIte, not_true_eq_false, not_false_eq_true, or_true, or_false, true_or, false_or, and_true, true_and, and_false, false_and]
    · simp (disch := omega) only [iI_add, iI_sub, iI_mul, iI_neg, iI_nat, addm1, ixkI, ↓sbind, sbind, ↓bdS, bdS, ↓nm_eq, ↓jn_eq, iI_lt, iI_le, iI_eq, k_0, k_1, k_2, k_3, k_4, k_5, k_6, k_7, k_8, k_9, k_10, k_11, k_12, k_13, k_14, k_15, k_16, k_17, k_18, k_19, k_20, k_21, k_22, k_23, k_24, k_27, k_30, k_32, k_48, k_57, k_59, k_60, k_61, k_62, k_63, k_64, k_72, k_78, k_80, k_82, k_97, k_99, k_100, k_122, k_244, k_255, k_268, k_280, k_300, k_432, k_650, k_900, k_901, k_999, k_1700, k_2600, k_2601, k_2602, k_2603, k_2604, k_2610, k_2618, k_2682, k_2777, k_2844, k_2868, k_2880, k_3245, k_3250, k_9551, k_9999, k_65536, k_100000, k_999999, k_1000000, k_2147483647, lt_T, lt_F, le_T, le_F, eq_T, eq_F, ↓reduceIte, not_true_eq_false, not_false_eq_true, or_true, or_false, true_or, false_or, and_true, true_and, and_false, false_and]
theorem mq_treeCost (w : WF F) (G : MR m 0 F M) {φ : Nat} (hφ : 100 < φ) : mQ m M (fX11_treeCost φ m M) (s_cost F, 0) := by
  have n1 := w.n1
  have hcn : ((s_cn F : Nat) : Int) ≤ 5 := by unfold s_cn; omega
  obtain ⟨M1, e, Q, G1, T⟩ := mi_tree w G hφ
  have key : ∀ (n k : Nat) (M : Mem), k ≤ s_cn F → s_cn F < n + k → MR m 0 F M → M.1 m 30 = iI (s_cn F : Nat) → (∀ j : Nat, j < s_cn F → M.1 (m + 12) j = iI (tQ F j).1 ∧ M.1 (m + 13) j = iI (tQ F j).2) → ∃ M', lX11_treeCost_8 φ m n (iI (sm (fun k => cT F (tQ F k.toNat).1 (tQ F k.toNat).2 0 0) k)) (iI (k : Nat)) M = some (iI (s_cost F), stI M' m 2 (iI 0)) ∧ QM m M M' := by
    intro n
    induction n with
    | zero => intro k M hk hn; omega
    | succ n ih =>
      intro k M hk hn hG h30 hT
      by_cases hlt : k < s_cn F
      · have hq : (k : Int) < F 0 1 0 - 1 := by unfold s_cn at hlt; omega
        obtain ⟨q1, q2, q3, q4⟩ := tQ_ok w hq
        obtain ⟨r1, r2⟩ := hT k hlt
        obtain ⟨M2, e2, f2, a3⟩ := m_matches (a := (tQ F k).1) (b := (tQ F k).2) w (by omega) (by omega) hφ hG
        have Q2 : QM m M M2 := ⟨f2.mono fun x q => Or.inr (Or.inl q), fun j _ _ => by rw [(f2 m (fun q => by have := q.1; omega)).1], (f2 m (fun q => by have := q.1; omega)).2.1⟩
        obtain ⟨M', e3, Q3⟩ := ih (k + 1) M2 (by omega) (by omega) (Q2.mr hG) (by rw [(f2 m (fun q => by have := q.1; omega)).1]; exact h30) (by rw [(f2 (m + 12) (fun q => by have := q.2; omega)).1, (f2 (m + 13) (fun q => by have := q.2; omega)).1]; exact hT)
        refine ⟨M', ?_, Q2.trans Q3⟩
        have es := sm_s (fun k => cT F (tQ F k.toNat).1 (tQ F k.toNat).2 0 0) (i := k) (by omega)
        rw [← e3, lX11_treeCost_8_s]
        rw [show ((k + 1 : Nat) : Int) = (k : Int) + 1 from by omega, es]
        simp (disch := omega) only [iI_add, iI_sub, iI_mul, iI_neg, iI_nat, addm1, ixkI, ↓sbind, sbind, ↓bdS, bdS, ↓nm_eq, ↓jn_eq, iI_lt, iI_le, iI_eq, k_0, k_1, k_2, k_3, k_4, k_5, k_6, k_7, k_8, k_9, k_10, k_11, k_12, k_13, k_14, k_15, k_16, k_17, k_18, k_19, k_20, k_21, k_22, k_23, k_24, k_27, k_30, k_32, k_48, k_57, k_59, k_60, k_61, k_62, k_63, k_64, k_72, k_78, k_80, k_82, k_97, k_99, k_100, k_122, k_244, k_255, k_268, k_280, k_300, k_432, k_650, k_900, k_901, k_999, k_1700, k_2600, k_2601, k_2602, k_2603, k_2604, k_2610, k_2618, k_2682, k_2777, k_2844, k_2868, k_2880, k_3245, k_3250, k_9551, k_9999, k_65536, k_100000, k_999999, k_1000000, k_2147483647, lt_T, lt_F, le_T, le_F, eq_T, eq_F, ↓reduceIte, not_true_eq_false, not_false_eq_true, or_true, or_false, true_or, false_or, and_true, true_and, and_false, false_and, h30, Int.toNat_natCast, r1, r2, e2]
      · have hkk : k = s_cn F := by omega
        refine ⟨M, ?_, QM.refl m M⟩
        rw [lX11_treeCost_8_s, hkk]
        unfold fX11_gives
        simp (disch := omega) only [iI_add, iI_sub, iI_mul, iI_neg, iI_nat, addm1, ixkI, ↓sbind, sbind, ↓bdS, bdS, ↓nm_eq, ↓jn_eq, iI_lt, iI_le, iI_eq, k_0, k_1, k_2, k_3, k_4, k_5, k_6, k_7, k_8, k_9, k_10, k_11, k_12, k_13, k_14, k_15, k_16, k_17, k_18, k_19, k_20, k_21, k_22, k_23, k_24, k_27, k_30, k_32, k_48, k_57, k_59, k_60, k_61, k_62, k_63, k_64, k_72, k_78, k_80, k_82, k_97, k_99, k_100, k_122, k_244, k_255, k_268, k_280, k_300, k_432, k_650, k_900, k_901, k_999, k_1700, k_2600, k_2601, k_2602, k_2603, k_2604, k_2610, k_2618, k_2682, k_2777, k_2844, k_2868, k_2880, k_3245, k_3250, k_9551, k_9999, k_65536, k_100000, k_999999, k_1000000, k_2147483647, lt_T, lt_F, le_T, le_F, eq_T, eq_F, ↓reduceIte, not_true_eq_false, not_false_eq_true, or_true, or_false, true_or, false_or, and_true, true_and, and_false, false_and, h30]
        rfl
  obtain ⟨M', e', Q'⟩ := key φ 0 M1 (by omega) (by omega) G1 T.1 T.2.2
  refine ⟨M', Q.trans Q', ?_⟩
  unfold fX11_treeCost
  rw [e]
  simp only [bdS, k_0]
  exact e'
theorem mq_beds (w : WF F) (G : MR m 0 F M) {φ : Nat} (hφ : 100 < φ) : mQ m M (fX11_beds φ m M) (bN F, 0) := by
  obtain ⟨M1, e, Q, G1, B⟩ := mi_lays w G hφ
  refine ⟨M1, Q, ?_⟩
  unfold fX11_beds fX11_gives
  simp (disch := omega) only [iI_add, iI_sub, iI_mul, iI_neg, iI_nat, addm1, ixkI, ↓sbind, sbind, ↓bdS, bdS, ↓nm_eq, ↓jn_eq, iI_lt, iI_le, iI_eq, k_0, k_1, k_2, k_3, k_4, k_5, k_6, k_7, k_8, k_9, k_10, k_11, k_12, k_13, k_14, k_15, k_16, k_17, k_18, k_19, k_20, k_21, k_22, k_23, k_24, k_27, k_30, k_32, k_48, k_57, k_59, k_60, k_61, k_62, k_63, k_64, k_72, k_78, k_80, k_82, k_97, k_99, k_100, k_122, k_244, k_255, k_268, k_280, k_300, k_432, k_650, k_900, k_901, k_999, k_1700, k_2600, k_2601, k_2602, k_2603, k_2604, k_2610, k_2618, k_2682, k_2777, k_2844, k_2868, k_2880, k_3245, k_3250, k_9551, k_9999, k_65536, k_100000, k_999999, k_1000000, k_2147483647, e, B.2.1]
theorem mq_bedOf (w : WF F) (G : MR m 0 F M) {h l : Int} (hh : -2147483648 ≤ h ∧ h < 2147483648) (hl : -2147483648 ≤ l ∧ l < 2147483648) {φ : Nat} (hφ : 100 < φ) : mQ m M (fX11_bedOf φ m (iI h) (iI l) M) (q_bedOf F h l) := by
  have n1 := w.n1
  unfold fX11_bedOf fX11_gives fX11_refuse
  rw [m_isLayer w G hh hl]
  unfold s_lay
  by_cases hc : (0 ≤ h ∧ h < F 0 1 0) ∧ 0 ≤ l ∧ l < F 3 h 2
  · obtain ⟨M1, e, Q, G1, B⟩ := mi_lays w G hφ
    have nl := w.nl hc.1
    have e9 := B.2.2.2 h l (by omega) (by omega) (by omega) (by omega)
    rw [show fv2 F h l = bA F h l from if_pos ⟨hc.1.2, hc.2.2⟩] at e9
    refine ⟨M1, Q, ?_⟩
    rw [decide_eq_true hc, show q_bedOf F h l = (bA F h l, 0) from if_pos hc]
    simp (disch := omega) only [iI_add, iI_sub, iI_mul, iI_neg, iI_nat, addm1, ixkI, ↓sbind, sbind, ↓bdS, bdS, ↓nm_eq, ↓jn_eq, iI_lt, iI_le, iI_eq, k_0, k_1, k_2, k_3, k_4, k_5, k_6, k_7, k_8, k_9, k_10, k_11, k_12, k_13, k_14, k_15, k_16, k_17, k_18, k_19, k_20, k_21, k_22, k_23, k_24, k_27, k_30, k_32, k_48, k_57, k_59, k_60, k_61, k_62, k_63, k_64, k_72, k_78, k_80, k_82, k_97, k_99, k_100, k_122, k_244, k_255, k_268, k_280, k_300, k_432, k_650, k_900, k_901, k_999, k_1700, k_2600, k_2601, k_2602, k_2603, k_2604, k_2610, k_2618, k_2682, k_2777, k_2844, k_2868, k_2880, k_3245, k_3250, k_9551, k_9999, k_65536, k_100000, k_999999, k_1000000, k_2147483647, lt_T, lt_F, le_T, le_F, eq_T, eq_F, ↓reduceIte, not_true_eq_false, not_false_eq_true, or_true, or_false, true_or, false_or, and_true, true_and, and_false, false_and, bI_t, e, e9]
  · refine ⟨M, QM.refl m M, ?_⟩
    rw [decide_eq_false hc, show q_bedOf F h l = (-1, 1) from if_neg hc]
    simp (disch := omega) only [iI_add, iI_sub, iI_mul, iI_neg, iI_nat, addm1, ixkI, ↓sbind, sbind, ↓bdS, bdS, ↓nm_eq, ↓jn_eq, iI_lt, iI_le, iI_eq, k_0, k_1, k_2, k_3, k_4, k_5, k_6, k_7, k_8, k_9, k_10, k_11, k_12, k_13, k_14, k_15, k_16, k_17, k_18, k_19, k_20, k_21, k_22, k_23, k_24, k_27, k_30, k_32, k_48, k_57, k_59, k_60, k_61, k_62, k_63, k_64, k_72, k_78, k_80, k_82, k_97, k_99, k_100, k_122, k_244, k_255, k_268, k_280, k_300, k_432, k_650, k_900, k_901, k_999, k_1700, k_2600, k_2601, k_2602, k_2603, k_2604, k_2610, k_2618, k_2682, k_2777, k_2844, k_2868, k_2880, k_3245, k_3250, k_9551, k_9999, k_65536, k_100000, k_999999, k_1000000, k_2147483647, lt_T, lt_F, le_T, le_F, eq_T, eq_F, ↓reduceIte, not_true_eq_false, not_false_eq_true, or_true, or_false, true_or, false_or, and_true, true_and, and_false, false_and, bI_f]
theorem mq_holesOf (w : WF F) (G : MR m 0 F M) {x : Int} (hx : -2147483648 ≤ x ∧ x < 2147483648) {φ : Nat} (hφ : 100 < φ) : mQ m M (fX11_holesOf φ m (iI x) M) (q_holesOf F x) := by
  obtain ⟨M1, e, Q, G1, B⟩ := mi_lays w G hφ
  refine ⟨M1, Q, ?_⟩
  have eb := m_isBed w B hx
  unfold fX11_holesOf fX11_gives fX11_refuse
  rw [e]
  by_cases hc : 0 ≤ x ∧ x < bN F
  · have es := m_holesWith w G1 B hc hφ
    rw [s_in_t hc] at eb
    rw [show q_holesOf F x = ((s_set F x).toInt, 0) from if_pos hc]
    simp (disch := omega) only [iI_add, iI_sub, iI_mul, iI_neg, iI_nat, addm1, ixkI, ↓sbind, sbind, ↓bdS, bdS, ↓nm_eq, ↓jn_eq, iI_lt, iI_le, iI_eq, k_0, k_1, k_2, k_3, k_4, k_5, k_6, k_7, k_8, k_9, k_10, k_11, k_12, k_13, k_14, k_15, k_16, k_17, k_18, k_19, k_20, k_21, k_22, k_23, k_24, k_27, k_30, k_32, k_48, k_57, k_59, k_60, k_61, k_62, k_63, k_64, k_72, k_78, k_80, k_82, k_97, k_99, k_100, k_122, k_244, k_255, k_268, k_280, k_300, k_432, k_650, k_900, k_901, k_999, k_1700, k_2600, k_2601, k_2602, k_2603, k_2604, k_2610, k_2618, k_2682, k_2777, k_2844, k_2868, k_2880, k_3245, k_3250, k_9551, k_9999, k_65536, k_100000, k_999999, k_1000000, k_2147483647, lt_T, lt_F, le_T, le_F, eq_T, eq_F, ↓reduceIte, not_true_eq_false, not_false_eq_true, or_true, or_false, true_or, false_or, and_true, true_and, and_false, false_and, bI_t, eb, es, iI_of]
  · rw [s_in_f hc] at eb
    rw [show q_holesOf F x = (-1, 1) from if_neg hc]
    simp (disch := omega) only [iI_add, iI_sub, iI_mul, iI_neg, iI_nat, addm1, ixkI, ↓sbind, sbind, ↓bdS, bdS, ↓nm_eq, ↓jn_eq, iI_lt, iI_le, iI_eq, k_0, k_1, k_2, k_3, k_4, k_5, k_6, k_7, k_8, k_9, k_10, k_11, k_12, k_13, k_14, k_15, k_16, k_17, k_18, k_19, k_20, k_21, k_22, k_23, k_24, k_27, k_30, k_32, k_48, k_57, k_59, k_60, k_61, k_62, k_63, k_64, k_72, k_78, k_80, k_82, k_97, k_99, k_100, k_122, k_244, k_255, k_268, k_280, k_300, k_432, k_650, k_900, k_901, k_999, k_1700, k_2600, k_2601, k_2602, k_2603, k_2604, k_2610, k_2618, k_2682, k_2777, k_2844, k_2868, k_2880, k_3245, k_3250, k_9551, k_9999, k_65536, k_100000, k_999999, k_1000000, k_2147483647, lt_T, lt_F, le_T, le_F, eq_T, eq_F, ↓reduceIte, not_true_eq_false, not_false_eq_true, or_true, or_false, true_or, false_or, and_true, true_and, and_false, false_and, bI_f, eb]
theorem mq_bed (w : WF F) (G : MR m 0 F M) {x h k : Int} (hx : -2147483648 ≤ x ∧ x < 2147483648) (hh : -2147483648 ≤ h ∧ h < 2147483648) (hk : -2147483648 ≤ k ∧ k < 2147483648) {φ : Nat} (hφ : 100 < φ) : mQ m M (fX11_bed φ m (iI x) (iI h) (iI k) M) (q_bed F x h k) := by
  obtain ⟨M1, e, Q, G1, B⟩ := mi_lays w G hφ
  refine ⟨M1, Q, ?_⟩
  have eb := m_isBed w B hx
  have eh := m_isHole w G1 hh
  unfold fX11_bed fX11_gives fX11_refuse
  rw [e]
  by_cases hc : 0 ≤ x ∧ x < bN F
  · rw [s_in_t hc] at eb
    by_cases hh' : 0 ≤ h ∧ h < F 0 1 0
    · rw [s_in_t hh'] at eh
      by_cases hk' : 0 ≤ k ∧ k ≤ 2
      · have el := m_firstOf w G1 B hc hh' hφ
        have z := s_fst_bd w (x := x) hh'
        by_cases hz : s_fst F x h = -1
        · rw [show q_bed F x h k = (-1, 6) from by unfold q_bed; rw [if_pos ⟨hc, hh', hk'⟩, if_pos hz]]
          simp (disch := omega) only [iI_add, iI_sub, iI_mul, iI_neg, iI_nat, addm1, ixkI, ↓sbind, sbind, ↓bdS, bdS, ↓nm_eq, ↓jn_eq, iI_lt, iI_le, iI_eq, k_0, k_1, k_2, k_3, k_4, k_5, k_6, k_7, k_8, k_9, k_10, k_11, k_12, k_13, k_14, k_15, k_16, k_17, k_18, k_19, k_20, k_21, k_22, k_23, k_24, k_27, k_30, k_32, k_48, k_57, k_59, k_60, k_61, k_62, k_63, k_64, k_72, k_78, k_80, k_82, k_97, k_99, k_100, k_122, k_244, k_255, k_268, k_280, k_300, k_432, k_650, k_900, k_901, k_999, k_1700, k_2600, k_2601, k_2602, k_2603, k_2604, k_2610, k_2618, k_2682, k_2777, k_2844, k_2868, k_2880, k_3245, k_3250, k_9551, k_9999, k_65536, k_100000, k_999999, k_1000000, k_2147483647, lt_T, lt_F, le_T, le_F, eq_T, eq_F, ↓reduceIte, not_true_eq_false, not_false_eq_true, or_true, or_false, true_or, false_or, and_true, true_and, and_false, false_and, bI_t, eb, eh, el]
        · have ed := m_depthOf w G1 (k := s_fst F x h) hh' (by omega) hφ
          have et := m_thickIn w G1 B hc hh' hφ
          rw [show s_thk F x h = F 5 h (s_fst F x h) from if_neg hz] at et
          rw [show q_bed F x h k = (if k = 0 then s_depth F h (s_fst F x h) else if k = 1 then F 5 h (s_fst F x h) else s_fst F x h, 0) from by unfold q_bed; rw [if_pos ⟨hc, hh', hk'⟩, if_neg hz]]
          by_cases k0 : k = 0
          · rw [k0]; simp (disch := omega) only [iI_add, iI_sub, iI_mul, iI_neg, iI_nat, addm1, ixkI, ↓sbind, sbind, ↓bdS, bdS, ↓nm_eq, ↓jn_eq, iI_lt, iI_le, iI_eq, k_0, k_1, k_2, k_3, k_4, k_5, k_6, k_7, k_8, k_9, k_10, k_11, k_12, k_13, k_14, k_15, k_16, k_17, k_18, k_19, k_20, k_21, k_22, k_23, k_24, k_27, k_30, k_32, k_48, k_57, k_59, k_60, k_61, k_62, k_63, k_64, k_72, k_78, k_80, k_82, k_97, k_99, k_100, k_122, k_244, k_255, k_268, k_280, k_300, k_432, k_650, k_900, k_901, k_999, k_1700, k_2600, k_2601, k_2602, k_2603, k_2604, k_2610, k_2618, k_2682, k_2777, k_2844, k_2868, k_2880, k_3245, k_3250, k_9551, k_9999, k_65536, k_100000, k_999999, k_1000000, k_2147483647, lt_T, lt_F, le_T, le_F, eq_T, eq_F, ↓reduceIte, not_true_eq_false, not_false_eq_true, or_true, or_false, true_or, false_or, and_true, true_and, and_false, false_and, bI_t, eb, eh, el, ed]
          · by_cases k1 : k = 1
            · rw [k1]; simp (disch := omega) only [iI_add, iI_sub, iI_mul, iI_neg, iI_nat, addm1, ixkI, ↓sbind, sbind, ↓bdS, bdS, ↓nm_eq, ↓jn_eq, iI_lt, iI_le, iI_eq, k_0, k_1, k_2, k_3, k_4, k_5, k_6, k_7, k_8, k_9, k_10, k_11, k_12, k_13, k_14, k_15, k_16, k_17, k_18, k_19, k_20, k_21, k_22, k_23, k_24, k_27, k_30, k_32, k_48, k_57, k_59, k_60, k_61, k_62, k_63, k_64, k_72, k_78, k_80, k_82, k_97, k_99, k_100, k_122, k_244, k_255, k_268, k_280, k_300, k_432, k_650, k_900, k_901, k_999, k_1700, k_2600, k_2601, k_2602, k_2603, k_2604, k_2610, k_2618, k_2682, k_2777, k_2844, k_2868, k_2880, k_3245, k_3250, k_9551, k_9999, k_65536, k_100000, k_999999, k_1000000, k_2147483647, lt_T, lt_F, le_T, le_F, eq_T, eq_F, ↓reduceIte, not_true_eq_false, not_false_eq_true, or_true, or_false, true_or, false_or, and_true, true_and, and_false, false_and, bI_t, eb, eh, el, et]
            · simp (disch := omega) only [iI_add, iI_sub, iI_mul, iI_neg, iI_nat, addm1, ixkI, ↓sbind, sbind, ↓bdS, bdS, ↓nm_eq, ↓jn_eq, iI_lt, iI_le, iI_eq, k_0, k_1, k_2, k_3, k_4, k_5, k_6, k_7, k_8, k_9, k_10, k_11, k_12, k_13, k_14, k_15, k_16, k_17, k_18, k_19, k_20, k_21, k_22, k_23, k_24, k_27, k_30, k_32, k_48, k_57, k_59, k_60, k_61, k_62, k_63, k_64, k_72, k_78, k_80, k_82, k_97, k_99, k_100, k_122, k_244, k_255, k_268, k_280, k_300, k_432, k_650, k_900, k_901, k_999, k_1700, k_2600, k_2601, k_2602, k_2603, k_2604, k_2610, k_2618, k_2682, k_2777, k_2844, k_2868, k_2880, k_3245, k_3250, k_9551, k_9999, k_65536, k_100000, k_999999, k_1000000, k_2147483647, lt_T, lt_F, le_T, le_F, eq_T, eq_F, ↓reduceIte, not_true_eq_false, not_false_eq_true, or_true, or_false, true_or, false_or, and_true, true_and, and_false, false_and, bI_t, eb, eh, el]
      · rw [show q_bed F x h k = (-1, 1) from if_neg (fun q => hk' q.2.2)]
        by_cases k0 : k < 0 <;> simp (disch := omega) only [iI_add, iI_sub, iI_mul, iI_neg, iI_nat, addm1, ixkI, ↓sbind, sbind, ↓bdS, bdS, ↓nm_eq, ↓jn_eq, iI_lt, iI_le, iI_eq, k_0, k_1, k_2, k_3, k_4, k_5, k_6, k_7, k_8, k_9, k_10, k_11, k_12, k_13, k_14, k_15, k_16, k_17, k_18, k_19, k_20, k_21, k_22, k_23, k_24, k_27, k_30, k_32, k_48, k_57, k_59, k_60, k_61, k_62, k_63, k_64, k_72, k_78, k_80, k_82, k_97, k_99, k_100, k_122, k_244, k_255, k_268, k_280, k_300, k_432, k_650, k_900, k_901, k_999, k_1700, k_2600, k_2601, k_2602, k_2603, k_2604, k_2610, k_2618, k_2682, k_2777, k_2844, k_2868, k_2880, k_3245, k_3250, k_9551, k_9999, k_65536, k_100000, k_999999, k_1000000, k_2147483647, lt_T, lt_F, le_T, le_F, eq_T, eq_F, ↓reduceIte, not_true_eq_false, not_false_eq_true, or_true, or_false, true_or, false_or, and_true, true_and, and_false, false_and, bI_t, eb, eh]
    · rw [s_in_f hh'] at eh
      rw [show q_bed F x h k = (-1, 1) from if_neg (fun q => hh' q.2.1)]
      simp (disch := omega) only [iI_add, iI_sub, iI_mul, iI_neg, iI_nat, addm1, ixkI, ↓sbind, sbind, ↓bdS, bdS, ↓nm_eq, ↓jn_eq, iI_lt, iI_le, iI_eq, k_0, k_1, k_2, k_3, k_4, k_5, k_6, k_7, k_8, k_9, k_10, k_11, k_12, k_13, k_14, k_15, k_16, k_17, k_18, k_19, k_20, k_21, k_22, k_23, k_24, k_27, k_30, k_32, k_48, k_57, k_59, k_60, k_61, k_62, k_63, k_64, k_72, k_78, k_80, k_82, k_97, k_99, k_100, k_122, k_244, k_255, k_268, k_280, k_300, k_432, k_650, k_900, k_901, k_999, k_1700, k_2600, k_2601, k_2602, k_2603, k_2604, k_2610, k_2618, k_2682, k_2777, k_2844, k_2868, k_2880, k_3245, k_3250, k_9551, k_9999, k_65536, k_100000, k_999999, k_1000000, k_2147483647, lt_T, lt_F, le_T, le_F, eq_T, eq_F, ↓reduceIte, not_true_eq_false, not_false_eq_true, or_true, or_false, true_or, false_or, and_true, true_and, and_false, false_and, bI_t, bI_f, eb, eh]
  · rw [s_in_f hc] at eb
    rw [show q_bed F x h k = (-1, 1) from if_neg (fun q => hc q.1)]
    simp (disch := omega) only [iI_add, iI_sub, iI_mul, iI_neg, iI_nat, addm1, ixkI, ↓sbind, sbind, ↓bdS, bdS, ↓nm_eq, ↓jn_eq, iI_lt, iI_le, iI_eq, k_0, k_1, k_2, k_3, k_4, k_5, k_6, k_7, k_8, k_9, k_10, k_11, k_12, k_13, k_14, k_15, k_16, k_17, k_18, k_19, k_20, k_21, k_22, k_23, k_24, k_27, k_30, k_32, k_48, k_57, k_59, k_60, k_61, k_62, k_63, k_64, k_72, k_78, k_80, k_82, k_97, k_99, k_100, k_122, k_244, k_255, k_268, k_280, k_300, k_432, k_650, k_900, k_901, k_999, k_1700, k_2600, k_2601, k_2602, k_2603, k_2604, k_2610, k_2618, k_2682, k_2777, k_2844, k_2868, k_2880, k_3245, k_3250, k_9551, k_9999, k_65536, k_100000, k_999999, k_1000000, k_2147483647, lt_T, lt_F, le_T, le_F, eq_T, eq_F, ↓reduceIte, not_true_eq_false, not_false_eq_true, or_true, or_false, true_or, false_or, and_true, true_and, and_false, false_and, bI_f, eb]
theorem mq_above (w : WF F) (G : MR m 0 F M) {a b : Int} (ha : -2147483648 ≤ a ∧ a < 2147483648) (hb : -2147483648 ≤ b ∧ b < 2147483648) {φ : Nat} (hφ : 100 < φ) : mQ m M (fX11_above φ m (iI a) (iI b) M) (q_above F a b) := by
  obtain ⟨M1, e, Q, G1, B⟩ := mi_lays w G hφ
  refine ⟨M1, Q, ?_⟩
  have ea := m_isBed w B ha
  have eb := m_isBed w B hb
  unfold fX11_above fX11_gives fX11_refuse
  rw [e]
  by_cases hc : 0 ≤ a ∧ a < bN F
  · rw [s_in_t hc] at ea
    by_cases hd : 0 ≤ b ∧ b < bN F
    · rw [s_in_t hd] at eb
      have eh := m_isAbove w G1 B hc hd hφ
      cases hs : s_hig F a b <;> unfold q_above <;> simp (disch := omega) only [iI_add, iI_sub, iI_mul, iI_neg, iI_nat, addm1, ixkI, ↓sbind, sbind, ↓bdS, bdS, ↓nm_eq, ↓jn_eq, iI_lt, iI_le, iI_eq, k_0, k_1, k_2, k_3, k_4, k_5, k_6, k_7, k_8, k_9, k_10, k_11, k_12, k_13, k_14, k_15, k_16, k_17, k_18, k_19, k_20, k_21, k_22, k_23, k_24, k_27, k_30, k_32, k_48, k_57, k_59, k_60, k_61, k_62, k_63, k_64, k_72, k_78, k_80, k_82, k_97, k_99, k_100, k_122, k_244, k_255, k_268, k_280, k_300, k_432, k_650, k_900, k_901, k_999, k_1700, k_2600, k_2601, k_2602, k_2603, k_2604, k_2610, k_2618, k_2682, k_2777, k_2844, k_2868, k_2880, k_3245, k_3250, k_9551, k_9999, k_65536, k_100000, k_999999, k_1000000, k_2147483647, lt_T, lt_F, le_T, le_F, eq_T, eq_F, ↓reduceIte, not_true_eq_false, not_false_eq_true, or_true, or_false, true_or, false_or, and_true, true_and, and_false, false_and, hs, ea, eb, eh, bI_t, bI_f, if_true, if_false, Bool.false_eq_true]
    · rw [s_in_f hd] at eb
      rw [show q_above F a b = (-1, 1) from if_neg (fun q => hd q.2)]
      simp (disch := omega) only [iI_add, iI_sub, iI_mul, iI_neg, iI_nat, addm1, ixkI, ↓sbind, sbind, ↓bdS, bdS, ↓nm_eq, ↓jn_eq, iI_lt, iI_le, iI_eq, k_0, k_1, k_2, k_3, k_4, k_5, k_6, k_7, k_8, k_9, k_10, k_11, k_12, k_13, k_14, k_15, k_16, k_17, k_18, k_19, k_20, k_21, k_22, k_23, k_24, k_27, k_30, k_32, k_48, k_57, k_59, k_60, k_61, k_62, k_63, k_64, k_72, k_78, k_80, k_82, k_97, k_99, k_100, k_122, k_244, k_255, k_268, k_280, k_300, k_432, k_650, k_900, k_901, k_999, k_1700, k_2600, k_2601, k_2602, k_2603, k_2604, k_2610, k_2618, k_2682, k_2777, k_2844, k_2868, k_2880, k_3245, k_3250, k_9551, k_9999, k_65536, k_100000, k_999999, k_1000000, k_2147483647, lt_T, lt_F, le_T, le_F, eq_T, eq_F, ↓reduceIte, not_true_eq_false, not_false_eq_true, or_true, or_false, true_or, false_or, and_true, true_and, and_false, false_and, bI_t, bI_f, ea, eb]
  · rw [s_in_f hc] at ea
    rw [show q_above F a b = (-1, 1) from if_neg (fun q => hc q.1)]
    simp (disch := omega) only [iI_add, iI_sub, iI_mul, iI_neg, iI_nat, addm1, ixkI, ↓sbind, sbind, ↓bdS, bdS, ↓nm_eq, ↓jn_eq, iI_lt, iI_le, iI_eq, k_0, k_1, k_2, k_3, k_4, k_5, k_6, k_7, k_8, k_9, k_10, k_11, k_12, k_13, k_14, k_15, k_16, k_17, k_18, k_19, k_20, k_21, k_22, k_23, k_24, k_27, k_30, k_32, k_48, k_57, k_59, k_60, k_61, k_62, k_63, k_64, k_72, k_78, k_80, k_82, k_97, k_99, k_100, k_122, k_244, k_255, k_268, k_280, k_300, k_432, k_650, k_900, k_901, k_999, k_1700, k_2600, k_2601, k_2602, k_2603, k_2604, k_2610, k_2618, k_2682, k_2777, k_2844, k_2868, k_2880, k_3245, k_3250, k_9551, k_9999, k_65536, k_100000, k_999999, k_1000000, k_2147483647, lt_T, lt_F, le_T, le_F, eq_T, eq_F, ↓reduceIte, not_true_eq_false, not_false_eq_true, or_true, or_false, true_or, false_or, and_true, true_and, and_false, false_and, bI_f, ea]
theorem mq_order (w : WF F) (G : MR m 0 F M) {k : Int} (hk : -2147483648 ≤ k ∧ k < 2147483648) {φ : Nat} (hφ : 100 < φ) : mQ m M (fX11_order φ m (iI k) M) (q_order F k) := by
  have hb := bN_rng w
  unfold fX11_order fX11_gives fX11_refuse
  by_cases h0 : 0 ≤ k
  · obtain ⟨M1, e, Q, G1, B⟩ := mi_lays w G hφ
    have h7 := B.2.1
    by_cases h1 : k < bN F
    · obtain ⟨M2, e2, f2, T2⟩ := m_orders w G1 B hφ
      have Q2 : QM m M1 M2 := ⟨f2.mono fun x q => Or.inr (Or.inr ⟨by have := q.1; omega, by have := q.2; omega⟩), fun j _ _ => by rw [(f2 m (fun q => by have := q.1; omega)).1], (f2 m (fun q => by have := q.1; omega)).2.1⟩
      refine ⟨M2, Q.trans Q2, ?_⟩
      cases hs : s_ho F
      · rw [hs] at e2
        rw [show q_order F k = (-1, 7) from by unfold q_order; rw [if_pos h0, if_pos h1, hs]; rfl]
        simp (disch := omega) only [iI_add, iI_sub, iI_mul, iI_neg, iI_nat, addm1, ixkI, ↓sbind, sbind, ↓bdS, bdS, ↓nm_eq, ↓jn_eq, iI_lt, iI_le, iI_eq, k_0, k_1, k_2, k_3, k_4, k_5, k_6, k_7, k_8, k_9, k_10, k_11, k_12, k_13, k_14, k_15, k_16, k_17, k_18, k_19, k_20, k_21, k_22, k_23, k_24, k_27, k_30, k_32, k_48, k_57, k_59, k_60, k_61, k_62, k_63, k_64, k_72, k_78, k_80, k_82, k_97, k_99, k_100, k_122, k_244, k_255, k_268, k_280, k_300, k_432, k_650, k_900, k_901, k_999, k_1700, k_2600, k_2601, k_2602, k_2603, k_2604, k_2610, k_2618, k_2682, k_2777, k_2844, k_2868, k_2880, k_3245, k_3250, k_9551, k_9999, k_65536, k_100000, k_999999, k_1000000, k_2147483647, lt_T, lt_F, le_T, le_F, eq_T, eq_F, ↓reduceIte, not_true_eq_false, not_false_eq_true, or_true, or_false, true_or, false_or, and_true, true_and, and_false, false_and, e, h7, e2, bI_f]
      · have t12 := T2 hs k.toNat (by omega)
        rw [hs] at e2
        rw [show q_order F k = (oP F k.toNat, 0) from by unfold q_order; rw [if_pos h0, if_pos h1, hs]; rfl]
        simp (disch := omega) only [iI_add, iI_sub, iI_mul, iI_neg, iI_nat, addm1, ixkI, ↓sbind, sbind, ↓bdS, bdS, ↓nm_eq, ↓jn_eq, iI_lt, iI_le, iI_eq, k_0, k_1, k_2, k_3, k_4, k_5, k_6, k_7, k_8, k_9, k_10, k_11, k_12, k_13, k_14, k_15, k_16, k_17, k_18, k_19, k_20, k_21, k_22, k_23, k_24, k_27, k_30, k_32, k_48, k_57, k_59, k_60, k_61, k_62, k_63, k_64, k_72, k_78, k_80, k_82, k_97, k_99, k_100, k_122, k_244, k_255, k_268, k_280, k_300, k_432, k_650, k_900, k_901, k_999, k_1700, k_2600, k_2601, k_2602, k_2603, k_2604, k_2610, k_2618, k_2682, k_2777, k_2844, k_2868, k_2880, k_3245, k_3250, k_9551, k_9999, k_65536, k_100000, k_999999, k_1000000, k_2147483647, lt_T, lt_F, le_T, le_F, eq_T, eq_F, ↓reduceIte, not_true_eq_false, not_false_eq_true, or_true, or_false, true_or, false_or, and_true, true_and, and_false, false_and, e, h7, e2, bI_t, t12]
    · refine ⟨M1, Q, ?_⟩
      rw [show q_order F k = (-1, 6) from by unfold q_order; rw [if_pos h0, if_neg h1]]
      simp (disch := omega) only [iI_add, iI_sub, iI_mul, iI_neg, iI_nat, addm1, ixkI, ↓sbind, sbind, ↓bdS, bdS, ↓nm_eq, ↓jn_eq, iI_lt, iI_le, iI_eq, k_0, k_1, k_2, k_3, k_4, k_5, k_6, k_7, k_8, k_9, k_10, k_11, k_12, k_13, k_14, k_15, k_16, k_17, k_18, k_19, k_20, k_21, k_22, k_23, k_24, k_27, k_30, k_32, k_48, k_57, k_59, k_60, k_61, k_62, k_63, k_64, k_72, k_78, k_80, k_82, k_97, k_99, k_100, k_122, k_244, k_255, k_268, k_280, k_300, k_432, k_650, k_900, k_901, k_999, k_1700, k_2600, k_2601, k_2602, k_2603, k_2604, k_2610, k_2618, k_2682, k_2777, k_2844, k_2868, k_2880, k_3245, k_3250, k_9551, k_9999, k_65536, k_100000, k_999999, k_1000000, k_2147483647, lt_T, lt_F, le_T, le_F, eq_T, eq_F, ↓reduceIte, not_true_eq_false, not_false_eq_true, or_true, or_false, true_or, false_or, and_true, true_and, and_false, false_and, e, h7]
  · refine ⟨M, QM.refl m M, ?_⟩
    rw [show q_order F k = (-1, 1) from if_neg h0]
    simp (disch := omega) only [iI_add, iI_sub, iI_mul, iI_neg, iI_nat, addm1, ixkI, ↓sbind, sbind, ↓bdS, bdS, ↓nm_eq, ↓jn_eq, iI_lt, iI_le, iI_eq, k_0, k_1, k_2, k_3, k_4, k_5, k_6, k_7, k_8, k_9, k_10, k_11, k_12, k_13, k_14, k_15, k_16, k_17, k_18, k_19, k_20, k_21, k_22, k_23, k_24, k_27, k_30, k_32, k_48, k_57, k_59, k_60, k_61, k_62, k_63, k_64, k_72, k_78, k_80, k_82, k_97, k_99, k_100, k_122, k_244, k_255, k_268, k_280, k_300, k_432, k_650, k_900, k_901, k_999, k_1700, k_2600, k_2601, k_2602, k_2603, k_2604, k_2610, k_2618, k_2682, k_2777, k_2844, k_2868, k_2880, k_3245, k_3250, k_9551, k_9999, k_65536, k_100000, k_999999, k_1000000, k_2147483647, lt_T, lt_F, le_T, le_F, eq_T, eq_F, ↓reduceIte, not_true_eq_false, not_false_eq_true, or_true, or_false, true_or, false_or, and_true, true_and, and_false, false_and]
theorem mq_widest (w : WF F) (G : MR m 0 F M) {φ : Nat} (hφ : 100 < φ) : mQ m M (fX11_widest φ m M) (q_widest F) := by
  have hb := bN_rng w
  obtain ⟨M1, e, Q, G1, B⟩ := mi_lays w G hφ
  refine ⟨M1, Q, ?_⟩
  have h7 := B.2.1
  have key := lup (N := bN F) (P := fun n i => ∀ best, (best = -1 ∨ (0 ≤ best ∧ best < bN F)) → lX11_widest_8 φ m M1 n (iI best) (iI i) = some (iI (fo (fun b best => s_bst F b best) (bN F) i best), stI M1 m 2 (iI (if fo (fun b best => s_bst F b best) (bN F) i best = -1 then 6 else 0))))
    (fun n best hbest => by
      rw [lX11_widest_8_s, fo_e _ (Int.le_refl _)]
      unfold fX11_orNone fX11_gives fX11_refuse
      by_cases hz : best = -1
      · simp (disch := omega) only [iI_add, iI_sub, iI_mul, iI_neg, iI_nat, addm1, ixkI, ↓sbind, sbind, ↓bdS, bdS, ↓nm_eq, ↓jn_eq, iI_lt, iI_le, iI_eq, k_0, k_1, k_2, k_3, k_4, k_5, k_6, k_7, k_8, k_9, k_10, k_11, k_12, k_13, k_14, k_15, k_16, k_17, k_18, k_19, k_20, k_21, k_22, k_23, k_24, k_27, k_30, k_32, k_48, k_57, k_59, k_60, k_61, k_62, k_63, k_64, k_72, k_78, k_80, k_82, k_97, k_99, k_100, k_122, k_244, k_255, k_268, k_280, k_300, k_432, k_650, k_900, k_901, k_999, k_1700, k_2600, k_2601, k_2602, k_2603, k_2604, k_2610, k_2618, k_2682, k_2777, k_2844, k_2868, k_2880, k_3245, k_3250, k_9551, k_9999, k_65536, k_100000, k_999999, k_1000000, k_2147483647, lt_T, lt_F, le_T, le_F, eq_T, eq_F, ↓reduceIte, not_true_eq_false, not_false_eq_true, or_true, or_false, true_or, false_or, and_true, true_and, and_false, false_and, h7, hz]
      · simp (disch := omega) only [iI_add, iI_sub, iI_mul, iI_neg, iI_nat, addm1, ixkI, ↓sbind, sbind, ↓bdS, bdS, ↓nm_eq, ↓jn_eq, iI_lt, iI_le, iI_eq, k_0, k_1, k_2, k_3, k_4, k_5, k_6, k_7, k_8, k_9, k_10, k_11, k_12, k_13, k_14, k_15, k_16, k_17, k_18, k_19, k_20, k_21, k_22, k_23, k_24, k_27, k_30, k_32, k_48, k_57, k_59, k_60, k_61, k_62, k_63, k_64, k_72, k_78, k_80, k_82, k_97, k_99, k_100, k_122, k_244, k_255, k_268, k_280, k_300, k_432, k_650, k_900, k_901, k_999, k_1700, k_2600, k_2601, k_2602, k_2603, k_2604, k_2610, k_2618, k_2682, k_2777, k_2844, k_2868, k_2880, k_3245, k_3250, k_9551, k_9999, k_65536, k_100000, k_999999, k_1000000, k_2147483647, lt_T, lt_F, le_T, le_F, eq_T, eq_F, ↓reduceIte, not_true_eq_false, not_false_eq_true, or_true, or_false, true_or, false_or, and_true, true_and, and_false, false_and, h7])
    (fun n i i0 i1 ih best hbest => by
      have hc := s_cnt_bd F i
      have hc2 := s_cnt_bd F best
      have hbest2 : s_bst F i best = -1 ∨ (0 ≤ s_bst F i best ∧ s_bst F i best < bN F) := by
        unfold s_bst
        by_cases hd : best = -1 ∨ s_cnt F best < s_cnt F i
        · rw [if_pos hd]; exact Or.inr ⟨i0, i1⟩
        · rw [if_neg hd]; exact hbest
      rw [fo_s _ i1, ← ih _ hbest2, lX11_widest_8_s]
      have e1 := m_holesWith w G1 B ⟨i0, i1⟩ hφ
      have e2 := m_setBits (M := M1) w (x := i) hφ
      by_cases h1 : best = -1
      · rw [show s_bst F i best = i from if_pos (Or.inl h1)]
        simp (disch := omega) only [iI_add, iI_sub, iI_mul, iI_neg, iI_nat, addm1, ixkI, ↓sbind, sbind, ↓bdS, bdS, ↓nm_eq, ↓jn_eq, iI_lt, iI_le, iI_eq, k_0, k_1, k_2, k_3, k_4, k_5, k_6, k_7, k_8, k_9, k_10, k_11, k_12, k_13, k_14, k_15, k_16, k_17, k_18, k_19, k_20, k_21, k_22, k_23, k_24, k_27, k_30, k_32, k_48, k_57, k_59, k_60, k_61, k_62, k_63, k_64, k_72, k_78, k_80, k_82, k_97, k_99, k_100, k_122, k_244, k_255, k_268, k_280, k_300, k_432, k_650, k_900, k_901, k_999, k_1700, k_2600, k_2601, k_2602, k_2603, k_2604, k_2610, k_2618, k_2682, k_2777, k_2844, k_2868, k_2880, k_3245, k_3250, k_9551, k_9999, k_65536, k_100000, k_999999, k_1000000, k_2147483647, lt_T, lt_F, le_T, le_F, eq_T, eq_F, ↓reduceIte, not_true_eq_false, not_false_eq_true, or_true, or_false, true_or, false_or, and_true, true_and, and_false, false_and, h7]
      · have e3 := m_holesWith w G1 B (x := best) (by omega) hφ
        have e4 := m_setBits (M := M1) w (x := best) hφ
        by_cases h2 : s_cnt F best < s_cnt F i
        · rw [show s_bst F i best = i from if_pos (Or.inr h2)]
          simp (disch := omega) only [iI_add, iI_sub, iI_mul, iI_neg, iI_nat, addm1, ixkI, ↓sbind, sbind, ↓bdS, bdS, ↓nm_eq, ↓jn_eq, iI_lt, iI_le, iI_eq, k_0, k_1, k_2, k_3, k_4, k_5, k_6, k_7, k_8, k_9, k_10, k_11, k_12, k_13, k_14, k_15, k_16, k_17, k_18, k_19, k_20, k_21, k_22, k_23, k_24, k_27, k_30, k_32, k_48, k_57, k_59, k_60, k_61, k_62, k_63, k_64, k_72, k_78, k_80, k_82, k_97, k_99, k_100, k_122, k_244, k_255, k_268, k_280, k_300, k_432, k_650, k_900, k_901, k_999, k_1700, k_2600, k_2601, k_2602, k_2603, k_2604, k_2610, k_2618, k_2682, k_2777, k_2844, k_2868, k_2880, k_3245, k_3250, k_9551, k_9999, k_65536, k_100000, k_999999, k_1000000, k_2147483647, lt_T, lt_F, le_T, le_F, eq_T, eq_F, ↓reduceIte, not_true_eq_false, not_false_eq_true, or_true, or_false, true_or, false_or, and_true, true_and, and_false, false_and, h7, e1, e2, e3, e4]
        · rw [show s_bst F i best = best from if_neg (by omega)]
          simp (disch := omega) only [iI_add, iI_sub, iI_mul, iI_neg, iI_nat, addm1, ixkI, ↓sbind, sbind, ↓bdS, bdS, ↓nm_eq, ↓jn_eq, iI_lt, iI_le, iI_eq, k_0, k_1, k_2, k_3, k_4, k_5, k_6, k_7, k_8, k_9, k_10, k_11, k_12, k_13, k_14, k_15, k_16, k_17, k_18, k_19, k_20, k_21, k_22, k_23, k_24, k_27, k_30, k_32, k_48, k_57, k_59, k_60, k_61, k_62, k_63, k_64, k_72, k_78, k_80, k_82, k_97, k_99, k_100, k_122, k_244, k_255, k_268, k_280, k_300, k_432, k_650, k_900, k_901, k_999, k_1700, k_2600, k_2601, k_2602, k_2603, k_2604, k_2610, k_2618, k_2682, k_2777, k_2844, k_2868, k_2880, k_3245, k_3250, k_9551, k_9999, k_65536, k_100000, k_999999, k_1000000, k_2147483647, lt_T, lt_F, le_T, le_F, eq_T, eq_F, ↓reduceIte, not_true_eq_false, not_false_eq_true, or_true, or_false, true_or, false_or, and_true, true_and, and_false, false_and, h7, e1, e2, e3, e4])
    φ 0 (by omega) (by omega) (by omega) (-1) (Or.inl rfl)
  unfold fX11_widest q_widest
  rw [e]
  simp only [bdS, k_0, k_1, iI_neg]
  exact key
theorem mq_deepest (w : WF F) (G : MR m 0 F M) {x : Int} (hx : -2147483648 ≤ x ∧ x < 2147483648) {φ : Nat} (hφ : 100 < φ) : mQ m M (fX11_deepest φ m (iI x) M) (q_deepest F x) := by
  obtain ⟨M1, e, Q, G1, B⟩ := mi_lays w G hφ
  refine ⟨M1, Q, ?_⟩
  have n1 := w.n1
  have eb := m_isBed w B hx
  unfold fX11_deepest
  rw [e]
  by_cases hc : 0 ≤ x ∧ x < bN F
  · have key := lup (N := F 0 1 0) (P := fun n i => ∀ q : Int × Int, (-1 ≤ q.2 ∧ q.2 ≤ 20000) → lX11_deepest_25 φ m (iI x) M1 n (iI q.1) (iI q.2) (iI i) = some (iI (fo (fun h q => s_dp F x h q) (F 0 1 0) i q).1, stI M1 m 2 (iI 0)))
      (fun n q hq => by
        rw [lX11_deepest_25_s, fo_e _ (Int.le_refl _)]
        unfold fX11_gives
        simp (disch := omega) only [iI_add, iI_sub, iI_mul, iI_neg, iI_nat, addm1, ixkI, ↓sbind, sbind, ↓bdS, bdS, ↓nm_eq, ↓jn_eq, iI_lt, iI_le, iI_eq, k_0, k_1, k_2, k_3, k_4, k_5, k_6, k_7, k_8, k_9, k_10, k_11, k_12, k_13, k_14, k_15, k_16, k_17, k_18, k_19, k_20, k_21, k_22, k_23, k_24, k_27, k_30, k_32, k_48, k_57, k_59, k_60, k_61, k_62, k_63, k_64, k_72, k_78, k_80, k_82, k_97, k_99, k_100, k_122, k_244, k_255, k_268, k_280, k_300, k_432, k_650, k_900, k_901, k_999, k_1700, k_2600, k_2601, k_2602, k_2603, k_2604, k_2610, k_2618, k_2682, k_2777, k_2844, k_2868, k_2880, k_3245, k_3250, k_9551, k_9999, k_65536, k_100000, k_999999, k_1000000, k_2147483647, lt_T, lt_F, le_T, le_F, eq_T, eq_F, ↓reduceIte, not_true_eq_false, not_false_eq_true, or_true, or_false, true_or, false_or, and_true, true_and, and_false, false_and, G1.c1])
      (fun n i i0 i1 ih q hq => by
        have z := s_fst_bd w (x := x) ⟨i0, i1⟩
        have el := m_firstOf w G1 B hc ⟨i0, i1⟩ hφ
        rw [lX11_deepest_25_s, fo_s _ i1]
        by_cases hz : s_fst F x i = -1
        · rw [show s_dp F x i q = q from if_neg (fun z => z.1 hz), ← ih q hq]
          simp (disch := omega) only [iI_add, iI_sub, iI_mul, iI_neg, iI_nat, addm1, ixkI, ↓sbind, sbind, ↓bdS, bdS, ↓nm_eq, ↓jn_eq, iI_lt, iI_le, iI_eq, k_0, k_1, k_2, k_3, k_4, k_5, k_6, k_7, k_8, k_9, k_10, k_11, k_12, k_13, k_14, k_15, k_16, k_17, k_18, k_19, k_20, k_21, k_22, k_23, k_24, k_27, k_30, k_32, k_48, k_57, k_59, k_60, k_61, k_62, k_63, k_64, k_72, k_78, k_80, k_82, k_97, k_99, k_100, k_122, k_244, k_255, k_268, k_280, k_300, k_432, k_650, k_900, k_901, k_999, k_1700, k_2600, k_2601, k_2602, k_2603, k_2604, k_2610, k_2618, k_2682, k_2777, k_2844, k_2868, k_2880, k_3245, k_3250, k_9551, k_9999, k_65536, k_100000, k_999999, k_1000000, k_2147483647, lt_T, lt_F, le_T, le_F, eq_T, eq_F, ↓reduceIte, not_true_eq_false, not_false_eq_true, or_true, or_false, true_or, false_or, and_true, true_and, and_false, false_and, G1.c1, el]
        · have bd := w.depth ⟨i0, i1⟩ (n := s_fst F x i) (by omega)
          have ed := m_depthOf w G1 (k := s_fst F x i) ⟨i0, i1⟩ (by omega) hφ
          by_cases hl : q.2 < s_depth F i (s_fst F x i)
          · rw [show s_dp F x i q = (i, s_depth F i (s_fst F x i)) from if_pos ⟨hz, hl⟩, ← ih (i, s_depth F i (s_fst F x i)) (by show -1 ≤ s_depth F i (s_fst F x i) ∧ _; omega)]
            simp (disch := omega) only [iI_add, iI_sub, iI_mul, iI_neg, iI_nat, addm1, ixkI, ↓sbind, sbind, ↓bdS, bdS, ↓nm_eq, ↓jn_eq, iI_lt, iI_le, iI_eq, k_0, k_1, k_2, k_3, k_4, k_5, k_6, k_7, k_8, k_9, k_10, k_11, k_12, k_13, k_14, k_15, k_16, k_17, k_18, k_19, k_20, k_21, k_22, k_23, k_24, k_27, k_30, k_32, k_48, k_57, k_59, k_60, k_61, k_62, k_63, k_64, k_72, k_78, k_80, k_82, k_97, k_99, k_100, k_122, k_244, k_255, k_268, k_280, k_300, k_432, k_650, k_900, k_901, k_999, k_1700, k_2600, k_2601, k_2602, k_2603, k_2604, k_2610, k_2618, k_2682, k_2777, k_2844, k_2868, k_2880, k_3245, k_3250, k_9551, k_9999, k_65536, k_100000, k_999999, k_1000000, k_2147483647, lt_T, lt_F, le_T, le_F, eq_T, eq_F, ↓reduceIte, not_true_eq_false, not_false_eq_true, or_true, or_false, true_or, false_or, and_true, true_and, and_false, false_and, G1.c1, el, ed]
          · rw [show s_dp F x i q = q from if_neg (fun z => hl z.2), ← ih q hq]
            simp (disch := omega) only [iI_add, iI_sub, iI_mul, iI_neg, iI_nat, addm1, ixkI, ↓sbind, sbind, ↓bdS, bdS, ↓nm_eq, ↓jn_eq, iI_lt, iI_le, iI_eq, k_0, k_1, k_2, k_3, k_4, k_5, k_6, k_7, k_8, k_9, k_10, k_11, k_12, k_13, k_14, k_15, k_16, k_17, k_18, k_19, k_20, k_21, k_22, k_23, k_24, k_27, k_30, k_32, k_48, k_57, k_59, k_60, k_61, k_62, k_63, k_64, k_72, k_78, k_80, k_82, k_97, k_99, k_100, k_122, k_244, k_255, k_268, k_280, k_300, k_432, k_650, k_900, k_901, k_999, k_1700, k_2600, k_2601, k_2602, k_2603, k_2604, k_2610, k_2618, k_2682, k_2777, k_2844, k_2868, k_2880, k_3245, k_3250, k_9551, k_9999, k_65536, k_100000, k_999999, k_1000000, k_2147483647, lt_T, lt_F, le_T, le_F, eq_T, eq_F, ↓reduceIte, not_true_eq_false, not_false_eq_true, or_true, or_false, true_or, false_or, and_true, true_and, and_false, false_and, G1.c1, el, ed])
      φ 0 (by omega) (by omega) (by omega) (-1, -1) (by omega)
    rw [s_in_t hc] at eb
    rw [show q_deepest F x = ((fo (fun h q => s_dp F x h q) (F 0 1 0) 0 (-1, -1)).1, 0) from if_pos hc, ← key]
    simp (disch := omega) only [iI_add, iI_sub, iI_mul, iI_neg, iI_nat, addm1, ixkI, ↓sbind, sbind, ↓bdS, bdS, ↓nm_eq, ↓jn_eq, iI_lt, iI_le, iI_eq, k_0, k_1, k_2, k_3, k_4, k_5, k_6, k_7, k_8, k_9, k_10, k_11, k_12, k_13, k_14, k_15, k_16, k_17, k_18, k_19, k_20, k_21, k_22, k_23, k_24, k_27, k_30, k_32, k_48, k_57, k_59, k_60, k_61, k_62, k_63, k_64, k_72, k_78, k_80, k_82, k_97, k_99, k_100, k_122, k_244, k_255, k_268, k_280, k_300, k_432, k_650, k_900, k_901, k_999, k_1700, k_2600, k_2601, k_2602, k_2603, k_2604, k_2610, k_2618, k_2682, k_2777, k_2844, k_2868, k_2880, k_3245, k_3250, k_9551, k_9999, k_65536, k_100000, k_999999, k_1000000, k_2147483647, lt_T, lt_F, le_T, le_F, eq_T, eq_F, ↓reduceIte, not_true_eq_false, not_false_eq_true, or_true, or_false, true_or, false_or, and_true, true_and, and_false, false_and, bI_t, eb]
  · unfold fX11_refuse
    rw [s_in_f hc] at eb
    rw [show q_deepest F x = (-1, 1) from if_neg hc]
    simp (disch := omega) only [iI_add, iI_sub, iI_mul, iI_neg, iI_nat, addm1, ixkI, ↓sbind, sbind, ↓bdS, bdS, ↓nm_eq, ↓jn_eq, iI_lt, iI_le, iI_eq, k_0, k_1, k_2, k_3, k_4, k_5, k_6, k_7, k_8, k_9, k_10, k_11, k_12, k_13, k_14, k_15, k_16, k_17, k_18, k_19, k_20, k_21, k_22, k_23, k_24, k_27, k_30, k_32, k_48, k_57, k_59, k_60, k_61, k_62, k_63, k_64, k_72, k_78, k_80, k_82, k_97, k_99, k_100, k_122, k_244, k_255, k_268, k_280, k_300, k_432, k_650, k_900, k_901, k_999, k_1700, k_2600, k_2601, k_2602, k_2603, k_2604, k_2610, k_2618, k_2682, k_2777, k_2844, k_2868, k_2880, k_3245, k_3250, k_9551, k_9999, k_65536, k_100000, k_999999, k_1000000, k_2147483647, lt_T, lt_F, le_T, le_F, eq_T, eq_F, ↓reduceIte, not_true_eq_false, not_false_eq_true, or_true, or_false, true_or, false_or, and_true, true_and, and_false, false_and, bI_f, eb]
theorem mq_shared (w : WF F) (G : MR m 0 F M) {a b : Int} (ha : -2147483648 ≤ a ∧ a < 2147483648) (hb : -2147483648 ≤ b ∧ b < 2147483648) {φ : Nat} (hφ : 100 < φ) : mQ m M (fX11_shared φ m (iI a) (iI b) M) (q_shared F a b) := by
  unfold fX11_shared
  rw [m_isHole w G ha, m_isHole w G hb]
  by_cases h1 : 0 ≤ a ∧ a < F 0 1 0
  · by_cases h2 : 0 ≤ b ∧ b < F 0 1 0
    · rw [s_in_t h1, s_in_t h2]
      by_cases h3 : a = b
      · refine ⟨M, QM.refl m M, ?_⟩
        rw [show q_shared F a b = (-1, 1) from if_neg (fun q => q.2.2 h3)]
        unfold fX11_refuse
        simp (disch := omega) only [iI_add, iI_sub, iI_mul, iI_neg, iI_nat, addm1, ixkI, ↓sbind, sbind, ↓bdS, bdS, ↓nm_eq, ↓jn_eq, iI_lt, iI_le, iI_eq, k_0, k_1, k_2, k_3, k_4, k_5, k_6, k_7, k_8, k_9, k_10, k_11, k_12, k_13, k_14, k_15, k_16, k_17, k_18, k_19, k_20, k_21, k_22, k_23, k_24, k_27, k_30, k_32, k_48, k_57, k_59, k_60, k_61, k_62, k_63, k_64, k_72, k_78, k_80, k_82, k_97, k_99, k_100, k_122, k_244, k_255, k_268, k_280, k_300, k_432, k_650, k_900, k_901, k_999, k_1700, k_2600, k_2601, k_2602, k_2603, k_2604, k_2610, k_2618, k_2682, k_2777, k_2844, k_2868, k_2880, k_3245, k_3250, k_9551, k_9999, k_65536, k_100000, k_999999, k_1000000, k_2147483647, lt_T, lt_F, le_T, le_F, eq_T, eq_F, ↓reduceIte, not_true_eq_false, not_false_eq_true, or_true, or_false, true_or, false_or, and_true, true_and, and_false, false_and, bI_t]
      · obtain ⟨M1, e, Q, G1, B⟩ := mi_lays w G hφ
        refine ⟨M1, Q, ?_⟩
        have n1 := w.n1
        have hn := bN_rng w
        have h7 := B.2.1
        have key := lup (N := bN F) (P := fun n i => lX11_shared_36 φ m (iI a) (iI b) M1 n (iI (sm (fun k => if s_fst F k a ≠ -1 ∧ s_fst F k b ≠ -1 then 1 else 0) i)) (iI i) = some (iI (s_both F a b), stI M1 m 2 (iI 0)))
          (fun n => by
            rw [lX11_shared_36_s]
            unfold fX11_gives
            simp (disch := omega) only [iI_add, iI_sub, iI_mul, iI_neg, iI_nat, addm1, ixkI, ↓sbind, sbind, ↓bdS, bdS, ↓nm_eq, ↓jn_eq, iI_lt, iI_le, iI_eq, k_0, k_1, k_2, k_3, k_4, k_5, k_6, k_7, k_8, k_9, k_10, k_11, k_12, k_13, k_14, k_15, k_16, k_17, k_18, k_19, k_20, k_21, k_22, k_23, k_24, k_27, k_30, k_32, k_48, k_57, k_59, k_60, k_61, k_62, k_63, k_64, k_72, k_78, k_80, k_82, k_97, k_99, k_100, k_122, k_244, k_255, k_268, k_280, k_300, k_432, k_650, k_900, k_901, k_999, k_1700, k_2600, k_2601, k_2602, k_2603, k_2604, k_2610, k_2618, k_2682, k_2777, k_2844, k_2868, k_2880, k_3245, k_3250, k_9551, k_9999, k_65536, k_100000, k_999999, k_1000000, k_2147483647, lt_T, lt_F, le_T, le_F, eq_T, eq_F, ↓reduceIte, not_true_eq_false, not_false_eq_true, or_true, or_false, true_or, false_or, and_true, true_and, and_false, false_and, h7]
            rfl)
          (fun n i i0 i1 ih => by
            have z1 := s_fst_bd w (x := i) h1
            have z2 := s_fst_bd w (x := i) h2
            have e1 := m_firstOf w G1 B ⟨i0, i1⟩ h1 hφ
            have e2 := m_firstOf w G1 B ⟨i0, i1⟩ h2 hφ
            rw [lX11_shared_36_s, ← ih, sm_s _ i0]
            by_cases hc : s_fst F i a = -1
            · rw [show (if s_fst F i a ≠ -1 ∧ s_fst F i b ≠ -1 then (1 : Int) else 0) = 0 from if_neg (fun q => q.1 hc)]
              simp (disch := omega) only [iI_add, iI_sub, iI_mul, iI_neg, iI_nat, addm1, ixkI, ↓sbind, sbind, ↓bdS, bdS, ↓nm_eq, ↓jn_eq, iI_lt, iI_le, iI_eq, k_0, k_1, k_2, k_3, k_4, k_5, k_6, k_7, k_8, k_9, k_10, k_11, k_12, k_13, k_14, k_15, k_16, k_17, k_18, k_19, k_20, k_21, k_22, k_23, k_24, k_27, k_30, k_32, k_48, k_57, k_59, k_60, k_61, k_62, k_63, k_64, k_72, k_78, k_80, k_82, k_97, k_99, k_100, k_122, k_244, k_255, k_268, k_280, k_300, k_432, k_650, k_900, k_901, k_999, k_1700, k_2600, k_2601, k_2602, k_2603, k_2604, k_2610, k_2618, k_2682, k_2777, k_2844, k_2868, k_2880, k_3245, k_3250, k_9551, k_9999, k_65536, k_100000, k_999999, k_1000000, k_2147483647, lt_T, lt_F, le_T, le_F, eq_T, eq_F, ↓reduceIte, not_true_eq_false, not_false_eq_true, or_true, or_false, true_or, false_or, and_true, true_and, and_false, false_and, h7, e1]
            · by_cases hd : s_fst F i b = -1
              · rw [show (if s_fst F i a ≠ -1 ∧ s_fst F i b ≠ -1 then (1 : Int) else 0) = 0 from if_neg (fun q => q.2 hd)]
                simp (disch := omega) only [iI_add, iI_sub, iI_mul, iI_neg, iI_nat, addm1, ixkI, ↓sbind, sbind, ↓bdS, bdS, ↓nm_eq, ↓jn_eq, iI_lt, iI_le, iI_eq, k_0, k_1, k_2, k_3, k_4, k_5, k_6, k_7, k_8, k_9, k_10, k_11, k_12, k_13, k_14, k_15, k_16, k_17, k_18, k_19, k_20, k_21, k_22, k_23, k_24, k_27, k_30, k_32, k_48, k_57, k_59, k_60, k_61, k_62, k_63, k_64, k_72, k_78, k_80, k_82, k_97, k_99, k_100, k_122, k_244, k_255, k_268, k_280, k_300, k_432, k_650, k_900, k_901, k_999, k_1700, k_2600, k_2601, k_2602, k_2603, k_2604, k_2610, k_2618, k_2682, k_2777, k_2844, k_2868, k_2880, k_3245, k_3250, k_9551, k_9999, k_65536, k_100000, k_999999, k_1000000, k_2147483647, lt_T, lt_F, le_T, le_F, eq_T, eq_F, ↓reduceIte, not_true_eq_false, not_false_eq_true, or_true, or_false, true_or, false_or, and_true, true_and, and_false, false_and, h7, e1, e2]
              · rw [show (if s_fst F i a ≠ -1 ∧ s_fst F i b ≠ -1 then (1 : Int) else 0) = 1 from if_pos ⟨hc, hd⟩]
                simp (disch := omega) only [iI_add, iI_sub, iI_mul, iI_neg, iI_nat, addm1, ixkI, ↓sbind, sbind, ↓bdS, bdS, ↓nm_eq, ↓jn_eq, iI_lt, iI_le, iI_eq, k_0, k_1, k_2, k_3, k_4, k_5, k_6, k_7, k_8, k_9, k_10, k_11, k_12, k_13, k_14, k_15, k_16, k_17, k_18, k_19, k_20, k_21, k_22, k_23, k_24, k_27, k_30, k_32, k_48, k_57, k_59, k_60, k_61, k_62, k_63, k_64, k_72, k_78, k_80, k_82, k_97, k_99, k_100, k_122, k_244, k_255, k_268, k_280, k_300, k_432, k_650, k_900, k_901, k_999, k_1700, k_2600, k_2601, k_2602, k_2603, k_2604, k_2610, k_2618, k_2682, k_2777, k_2844, k_2868, k_2880, k_3245, k_3250, k_9551, k_9999, k_65536, k_100000, k_999999, k_1000000, k_2147483647, lt_T, lt_F, le_T, le_F, eq_T, eq_F, ↓reduceIte, not_true_eq_false, not_false_eq_true, or_true, or_false, true_or, false_or, and_true, true_and, and_false, false_and, h7, e1, e2])
          φ 0 (by omega) (by omega) (by omega)
        rw [show q_shared F a b = (s_both F a b, 0) from if_pos ⟨h1, h2, h3⟩, ← key]
        simp (disch := omega) only [iI_add, iI_sub, iI_mul, iI_neg, iI_nat, addm1, ixkI, ↓sbind, sbind, ↓bdS, bdS, ↓nm_eq, ↓jn_eq, iI_lt, iI_le, iI_eq, k_0, k_1, k_2, k_3, k_4, k_5, k_6, k_7, k_8, k_9, k_10, k_11, k_12, k_13, k_14, k_15, k_16, k_17, k_18, k_19, k_20, k_21, k_22, k_23, k_24, k_27, k_30, k_32, k_48, k_57, k_59, k_60, k_61, k_62, k_63, k_64, k_72, k_78, k_80, k_82, k_97, k_99, k_100, k_122, k_244, k_255, k_268, k_280, k_300, k_432, k_650, k_900, k_901, k_999, k_1700, k_2600, k_2601, k_2602, k_2603, k_2604, k_2610, k_2618, k_2682, k_2777, k_2844, k_2868, k_2880, k_3245, k_3250, k_9551, k_9999, k_65536, k_100000, k_999999, k_1000000, k_2147483647, lt_T, lt_F, le_T, le_F, eq_T, eq_F, ↓reduceIte, not_true_eq_false, not_false_eq_true, or_true, or_false, true_or, false_or, and_true, true_and, and_false, false_and, bI_t, e]
        rfl
    · refine ⟨M, QM.refl m M, ?_⟩
      unfold fX11_refuse
      rw [s_in_t h1, s_in_f h2, show q_shared F a b = (-1, 1) from if_neg (fun q => h2 q.2.1)]
      simp (disch := omega) only [iI_add, iI_sub, iI_mul, iI_neg, iI_nat, addm1, ixkI, ↓sbind, sbind, ↓bdS, bdS, ↓nm_eq, ↓jn_eq, iI_lt, iI_le, iI_eq, k_0, k_1, k_2, k_3, k_4, k_5, k_6, k_7, k_8, k_9, k_10, k_11, k_12, k_13, k_14, k_15, k_16, k_17, k_18, k_19, k_20, k_21, k_22, k_23, k_24, k_27, k_30, k_32, k_48, k_57, k_59, k_60, k_61, k_62, k_63, k_64, k_72, k_78, k_80, k_82, k_97, k_99, k_100, k_122, k_244, k_255, k_268, k_280, k_300, k_432, k_650, k_900, k_901, k_999, k_1700, k_2600, k_2601, k_2602, k_2603, k_2604, k_2610, k_2618, k_2682, k_2777, k_2844, k_2868, k_2880, k_3245, k_3250, k_9551, k_9999, k_65536, k_100000, k_999999, k_1000000, k_2147483647, lt_T, lt_F, le_T, le_F, eq_T, eq_F, ↓reduceIte, not_true_eq_false, not_false_eq_true, or_true, or_false, true_or, false_or, and_true, true_and, and_false, false_and, bI_t, bI_f]
  · refine ⟨M, QM.refl m M, ?_⟩
    unfold fX11_refuse
    rw [s_in_f h1, show q_shared F a b = (-1, 1) from if_neg (fun q => h1 q.1)]
    simp (disch := omega) only [iI_add, iI_sub, iI_mul, iI_neg, iI_nat, addm1, ixkI, ↓sbind, sbind, ↓bdS, bdS, ↓nm_eq, ↓jn_eq, iI_lt, iI_le, iI_eq, k_0, k_1, k_2, k_3, k_4, k_5, k_6, k_7, k_8, k_9, k_10, k_11, k_12, k_13, k_14, k_15, k_16, k_17, k_18, k_19, k_20, k_21, k_22, k_23, k_24, k_27, k_30, k_32, k_48, k_57, k_59, k_60, k_61, k_62, k_63, k_64, k_72, k_78, k_80, k_82, k_97, k_99, k_100, k_122, k_244, k_255, k_268, k_280, k_300, k_432, k_650, k_900, k_901, k_999, k_1700, k_2600, k_2601, k_2602, k_2603, k_2604, k_2610, k_2618, k_2682, k_2777, k_2844, k_2868, k_2880, k_3245, k_3250, k_9551, k_9999, k_65536, k_100000, k_999999, k_1000000, k_2147483647, lt_T, lt_F, le_T, le_F, eq_T, eq_F, ↓reduceIte, not_true_eq_false, not_false_eq_true, or_true, or_false, true_or, false_or, and_true, true_and, and_false, false_and, bI_f]
theorem m_gaps39 (w : WF F) (G : MR m 0 F M) (B : BM m F M) {k h : Int} (hk : 0 ≤ k ∧ k < bN F) (hh : 0 ≤ h ∧ h < F 0 1 0) {φ : Nat} (hφ : 100 < φ) (x2 : Int32) (K : Int32 → Int32 → Option (Int32 × Mem)) : lX11_gaps_39 K φ m (iI h) x2 (iI k) M φ (iI 0) (iI 0) (iI 0) = K (bI (s_ov F h k)) (bI (s_ud F h k)) := by
  have hn := bN_rng w
  have h7 := B.2.1
  exact lup (N := bN F) (P := fun n i => lX11_gaps_39 K φ m (iI h) x2 (iI k) M n (bI (an (fun o => s_fst F o h != -1 && s_hig F o k) i)) (bI (an (fun o => s_fst F o h != -1 && s_hig F k o) i)) (iI i) = K (bI (s_ov F h k)) (bI (s_ud F h k)))
    (fun n => by
      rw [lX11_gaps_39_s]
      simp (disch := omega) only [iI_add, iI_sub, iI_mul, iI_neg, iI_nat, addm1, ixkI, ↓sbind, sbind, ↓bdS, bdS, ↓nm_eq, ↓jn_eq, iI_lt, iI_le, iI_eq, k_0, k_1, k_2, k_3, k_4, k_5, k_6, k_7, k_8, k_9, k_10, k_11, k_12, k_13, k_14, k_15, k_16, k_17, k_18, k_19, k_20, k_21, k_22, k_23, k_24, k_27, k_30, k_32, k_48, k_57, k_59, k_60, k_61, k_62, k_63, k_64, k_72, k_78, k_80, k_82, k_97, k_99, k_100, k_122, k_244, k_255, k_268, k_280, k_300, k_432, k_650, k_900, k_901, k_999, k_1700, k_2600, k_2601, k_2602, k_2603, k_2604, k_2610, k_2618, k_2682, k_2777, k_2844, k_2868, k_2880, k_3245, k_3250, k_9551, k_9999, k_65536, k_100000, k_999999, k_1000000, k_2147483647, lt_T, lt_F, le_T, le_F, eq_T, eq_F, ↓reduceIte, not_true_eq_false, not_false_eq_true, or_true, or_false, true_or, false_or, and_true, true_and, and_false, false_and, h7]
      rfl)
    (fun n i i0 i1 ih => by
      have z1 := s_fst_bd w (x := i) hh
      rw [lX11_gaps_39_s, m_firstOf w G B ⟨i0, i1⟩ hh hφ, m_isAbove w G B hk ⟨i0, i1⟩ hφ, m_isAbove w G B ⟨i0, i1⟩ hk hφ, ← ih, an_s _ i0, an_s _ i0]
      by_cases hc : s_fst F i h = -1
      · rw [show (s_fst F i h != -1) = false from by simp [hc]]
        simp (disch := omega) only [iI_add, iI_sub, iI_mul, iI_neg, iI_nat, addm1, ixkI, ↓sbind, sbind, ↓bdS, bdS, ↓nm_eq, ↓jn_eq, iI_lt, iI_le, iI_eq, k_0, k_1, k_2, k_3, k_4, k_5, k_6, k_7, k_8, k_9, k_10, k_11, k_12, k_13, k_14, k_15, k_16, k_17, k_18, k_19, k_20, k_21, k_22, k_23, k_24, k_27, k_30, k_32, k_48, k_57, k_59, k_60, k_61, k_62, k_63, k_64, k_72, k_78, k_80, k_82, k_97, k_99, k_100, k_122, k_244, k_255, k_268, k_280, k_300, k_432, k_650, k_900, k_901, k_999, k_1700, k_2600, k_2601, k_2602, k_2603, k_2604, k_2610, k_2618, k_2682, k_2777, k_2844, k_2868, k_2880, k_3245, k_3250, k_9551, k_9999, k_65536, k_100000, k_999999, k_1000000, k_2147483647, lt_T, lt_F, le_T, le_F, eq_T, eq_F, ↓reduceIte, not_true_eq_false, not_false_eq_true, or_true, or_false, true_or, false_or, and_true, true_and, and_false, false_and, h7, Bool.false_and, Bool.or_false]
      · rw [show (s_fst F i h != -1) = true from by simp [hc]]
        simp (disch := omega) only [iI_add, iI_sub, iI_mul, iI_neg, iI_nat, addm1, ixkI, ↓sbind, sbind, ↓bdS, bdS, ↓nm_eq, ↓jn_eq, iI_lt, iI_le, iI_eq, k_0, k_1, k_2, k_3, k_4, k_5, k_6, k_7, k_8, k_9, k_10, k_11, k_12, k_13, k_14, k_15, k_16, k_17, k_18, k_19, k_20, k_21, k_22, k_23, k_24, k_27, k_30, k_32, k_48, k_57, k_59, k_60, k_61, k_62, k_63, k_64, k_72, k_78, k_80, k_82, k_97, k_99, k_100, k_122, k_244, k_255, k_268, k_280, k_300, k_432, k_650, k_900, k_901, k_999, k_1700, k_2600, k_2601, k_2602, k_2603, k_2604, k_2610, k_2618, k_2682, k_2777, k_2844, k_2868, k_2880, k_3245, k_3250, k_9551, k_9999, k_65536, k_100000, k_999999, k_1000000, k_2147483647, lt_T, lt_F, le_T, le_F, eq_T, eq_F, ↓reduceIte, not_true_eq_false, not_false_eq_true, or_true, or_false, true_or, false_or, and_true, true_and, and_false, false_and, h7, Bool.true_and, bI_0]
        cases an (fun o => s_fst F o h != -1 && s_hig F o k) i <;> cases an (fun o => s_fst F o h != -1 && s_hig F k o) i <;> cases s_hig F i k <;> cases s_hig F k i <;> rfl)
    φ 0 (by omega) (by omega) (by omega)
theorem mq_gaps (w : WF F) (G : MR m 0 F M) {h : Int} (hh : -2147483648 ≤ h ∧ h < 2147483648) {φ : Nat} (hφ : 100 < φ) : mQ m M (fX11_gaps φ m (iI h) M) (q_gaps F h) := by
  unfold fX11_gaps
  rw [m_isHole w G hh]
  by_cases h1 : 0 ≤ h ∧ h < F 0 1 0
  · obtain ⟨M1, e, Q, G1, B⟩ := mi_lays w G hφ
    refine ⟨M1, Q, ?_⟩
    have hn := bN_rng w
    have h7 := B.2.1
    have key := lup (N := bN F) (P := fun n i => lX11_gaps_22 φ m (iI h) M1 n (iI (sm (fun k => if s_fst F k h = -1 ∧ s_ov F h k = true ∧ s_ud F h k = true then 1 else 0) i)) (iI i) = some (iI (s_gap F h), stI M1 m 2 (iI 0)))
      (fun n => by
        rw [lX11_gaps_22_s]
        unfold fX11_gives
        simp (disch := omega) only [iI_add, iI_sub, iI_mul, iI_neg, iI_nat, addm1, ixkI, ↓sbind, sbind, ↓bdS, bdS, ↓nm_eq, ↓jn_eq, iI_lt, iI_le, iI_eq, k_0, k_1, k_2, k_3, k_4, k_5, k_6, k_7, k_8, k_9, k_10, k_11, k_12, k_13, k_14, k_15, k_16, k_17, k_18, k_19, k_20, k_21, k_22, k_23, k_24, k_27, k_30, k_32, k_48, k_57, k_59, k_60, k_61, k_62, k_63, k_64, k_72, k_78, k_80, k_82, k_97, k_99, k_100, k_122, k_244, k_255, k_268, k_280, k_300, k_432, k_650, k_900, k_901, k_999, k_1700, k_2600, k_2601, k_2602, k_2603, k_2604, k_2610, k_2618, k_2682, k_2777, k_2844, k_2868, k_2880, k_3245, k_3250, k_9551, k_9999, k_65536, k_100000, k_999999, k_1000000, k_2147483647, lt_T, lt_F, le_T, le_F, eq_T, eq_F, ↓reduceIte, not_true_eq_false, not_false_eq_true, or_true, or_false, true_or, false_or, and_true, true_and, and_false, false_and, h7]
        rfl)
      (fun n i i0 i1 ih => by
        have z1 := s_fst_bd w (x := i) h1
        have e1 := m_firstOf w G1 B ⟨i0, i1⟩ h1 hφ
        rw [lX11_gaps_22_s]
        simp (disch := omega) only [k_0, k_1, iI_neg, h7, iI_le, lt_T, lt_F, le_T, le_F, eq_T, eq_F, ↓reduceIte, not_true_eq_false, not_false_eq_true, or_true, or_false, true_or, false_or, and_true, true_and, and_false, false_and]
        rw [m_gaps39 w G1 B ⟨i0, i1⟩ h1 hφ, ← ih, sm_s _ i0]
        by_cases hc : s_fst F i h = -1
        · simp (disch := omega) only [iI_add, iI_sub, iI_mul, iI_neg, iI_nat, addm1, ixkI, ↓sbind, sbind, ↓bdS, bdS, ↓nm_eq, ↓jn_eq, iI_lt, iI_le, iI_eq, k_0, k_1, k_2, k_3, k_4, k_5, k_6, k_7, k_8, k_9, k_10, k_11, k_12, k_13, k_14, k_15, k_16, k_17, k_18, k_19, k_20, k_21, k_22, k_23, k_24, k_27, k_30, k_32, k_48, k_57, k_59, k_60, k_61, k_62, k_63, k_64, k_72, k_78, k_80, k_82, k_97, k_99, k_100, k_122, k_244, k_255, k_268, k_280, k_300, k_432, k_650, k_900, k_901, k_999, k_1700, k_2600, k_2601, k_2602, k_2603, k_2604, k_2610, k_2618, k_2682, k_2777, k_2844, k_2868, k_2880, k_3245, k_3250, k_9551, k_9999, k_65536, k_100000, k_999999, k_1000000, k_2147483647, lt_T, lt_F, le_T, le_F, eq_T, eq_F, ↓reduceIte, not_true_eq_false, not_false_eq_true, or_true, or_false, true_or, false_or, and_true, true_and, and_false, false_and, e1, bI_0]
          cases s_ov F h i <;> cases s_ud F h i <;> simp
        · rw [show (if s_fst F i h = -1 ∧ s_ov F h i = true ∧ s_ud F h i = true then (1 : Int) else 0) = 0 from if_neg (fun q => hc q.1)]
          simp (disch := omega) only [iI_add, iI_sub, iI_mul, iI_neg, iI_nat, addm1, ixkI, ↓sbind, sbind, ↓bdS, bdS, ↓nm_eq, ↓jn_eq, iI_lt, iI_le, iI_eq, k_0, k_1, k_2, k_3, k_4, k_5, k_6, k_7, k_8, k_9, k_10, k_11, k_12, k_13, k_14, k_15, k_16, k_17, k_18, k_19, k_20, k_21, k_22, k_23, k_24, k_27, k_30, k_32, k_48, k_57, k_59, k_60, k_61, k_62, k_63, k_64, k_72, k_78, k_80, k_82, k_97, k_99, k_100, k_122, k_244, k_255, k_268, k_280, k_300, k_432, k_650, k_900, k_901, k_999, k_1700, k_2600, k_2601, k_2602, k_2603, k_2604, k_2610, k_2618, k_2682, k_2777, k_2844, k_2868, k_2880, k_3245, k_3250, k_9551, k_9999, k_65536, k_100000, k_999999, k_1000000, k_2147483647, lt_T, lt_F, le_T, le_F, eq_T, eq_F, ↓reduceIte, not_true_eq_false, not_false_eq_true, or_true, or_false, true_or, false_or, and_true, true_and, and_false, false_and, e1])
      φ 0 (by omega) (by omega) (by omega)
    rw [s_in_t h1, show q_gaps F h = (s_gap F h, 0) from if_pos h1, ← key]
    simp (disch := omega) only [iI_add, iI_sub, iI_mul, iI_neg, iI_nat, addm1, ixkI, ↓sbind, sbind, ↓bdS, bdS, ↓nm_eq, ↓jn_eq, iI_lt, iI_le, iI_eq, k_0, k_1, k_2, k_3, k_4, k_5, k_6, k_7, k_8, k_9, k_10, k_11, k_12, k_13, k_14, k_15, k_16, k_17, k_18, k_19, k_20, k_21, k_22, k_23, k_24, k_27, k_30, k_32, k_48, k_57, k_59, k_60, k_61, k_62, k_63, k_64, k_72, k_78, k_80, k_82, k_97, k_99, k_100, k_122, k_244, k_255, k_268, k_280, k_300, k_432, k_650, k_900, k_901, k_999, k_1700, k_2600, k_2601, k_2602, k_2603, k_2604, k_2610, k_2618, k_2682, k_2777, k_2844, k_2868, k_2880, k_3245, k_3250, k_9551, k_9999, k_65536, k_100000, k_999999, k_1000000, k_2147483647, lt_T, lt_F, le_T, le_F, eq_T, eq_F, ↓reduceIte, not_true_eq_false, not_false_eq_true, or_true, or_false, true_or, false_or, and_true, true_and, and_false, false_and, bI_t, e]
    rfl
  · refine ⟨M, QM.refl m M, ?_⟩
    unfold fX11_refuse
    rw [s_in_f h1, show q_gaps F h = (-1, 1) from if_neg h1]
    simp (disch := omega) only [iI_add, iI_sub, iI_mul, iI_neg, iI_nat, addm1, ixkI, ↓sbind, sbind, ↓bdS, bdS, ↓nm_eq, ↓jn_eq, iI_lt, iI_le, iI_eq, k_0, k_1, k_2, k_3, k_4, k_5, k_6, k_7, k_8, k_9, k_10, k_11, k_12, k_13, k_14, k_15, k_16, k_17, k_18, k_19, k_20, k_21, k_22, k_23, k_24, k_27, k_30, k_32, k_48, k_57, k_59, k_60, k_61, k_62, k_63, k_64, k_72, k_78, k_80, k_82, k_97, k_99, k_100, k_122, k_244, k_255, k_268, k_280, k_300, k_432, k_650, k_900, k_901, k_999, k_1700, k_2600, k_2601, k_2602, k_2603, k_2604, k_2610, k_2618, k_2682, k_2777, k_2844, k_2868, k_2880, k_3245, k_3250, k_9551, k_9999, k_65536, k_100000, k_999999, k_1000000, k_2147483647, lt_T, lt_F, le_T, le_F, eq_T, eq_F, ↓reduceIte, not_true_eq_false, not_false_eq_true, or_true, or_false, true_or, false_or, and_true, true_and, and_false, false_and, bI_f]
end MBq
