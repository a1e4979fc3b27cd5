/-! logs held against holes: alike units, agrees, shift, likest -/
section AY
variable {m g : Nat} {F : Fld} {T : TS} {M : Mem}
def s_hit (T : TS) (a : Int) (F : Fld) (h sh i : Int) : Int := if s_rk F h (i + sh) ≠ -1 ∧ T.2.2 a i = s_rk F h (i + sh) then 1 else 0
def s_ag (T : TS) (a n : Int) (F : Fld) (h sh : Int) : Int := sm (s_hit T a F h sh) n
theorem s_ag_bd (T : TS) (a : Int) {n : Int} (F : Fld) (h sh : Int) (hn : 0 ≤ n ∧ n ≤ 60) {i : Int} (hi : 0 ≤ i ∧ i ≤ n) : 0 ≤ sm (s_hit T a F h sh) i ∧ sm (s_hit T a F h sh) i ≤ 60 := by
  have := sm_bd (f := s_hit T a F h sh) (N := n) (B := 1) (fun k a b => by
    unfold s_hit
    split <;> omega) i hi.1 hi.2
  omega
abbrev LG (T : TS) (a n : Int) : Prop := (0 ≤ a ∧ a < 4) ∧ (1 ≤ n ∧ n ≤ 60) ∧ n ≤ T.2.1 a ∧ ∀ k, 0 ≤ k → k < n → -1 ≤ T.2.2 a k ∧ T.2.2 a k ≤ 1000000
theorem m_agreeing (w : WF F) (G : MR m 0 F M) (h : TM1 m T M) {a n b sh : Int} (L : LG T a n) (hb : 0 ≤ b ∧ b < F 0 1 0) (hs : -20 ≤ sh ∧ sh ≤ 20) {φ : Nat} (hφ : 1000 ≤ φ) : fX11_agreeing φ m (iI a) (iI n) (iI b) (iI sh) M = some (iI (s_ag T a n F b sh)) := by
  obtain ⟨ha, hn, hm, hv⟩ := L
  unfold fX11_agreeing s_ag
  rw [k_0]
  refine lup (P := fun k i => lX11_agreeing_6 φ m (iI a) (iI n) (iI b) (iI sh) M k (iI (sm (s_hit T a F b sh) i)) (iI i) = some (iI (sm (s_hit T a F b sh) n))) (N := n) (fun k => ?_) (fun k i i0 i1 ih => ?_) φ 0 (by omega) (by omega) (by omega)
  · rw [lX11_agreeing_6]
    simp (disch := omega) only [iI_add, iI_sub, iI_mul, iI_neg, iI_nat, addm1, ixkI, ↓sbind, sbind, ↓bdS, bdS, ↓nm_eq, ↓jn_eq, iI_lt, iI_le, iI_eq, k_0, k_1, k_2, k_3, k_4, k_5, k_6, k_7, k_8, k_9, k_10, k_11, k_12, k_13, k_14, k_15, k_16, k_17, k_18, k_19, k_20, k_21, k_22, k_23, k_24, k_27, k_30, k_32, k_48, k_57, k_59, k_60, k_61, k_62, k_63, k_64, k_72, k_78, k_80, k_82, k_97, k_99, k_100, k_122, k_244, k_255, k_268, k_280, k_300, k_432, k_650, k_900, k_901, k_999, k_1700, k_2600, k_2601, k_2602, k_2603, k_2604, k_2610, k_2618, k_2682, k_2777, k_2844, k_2868, k_2880, k_3245, k_3250, k_9551, k_9999, k_65536, k_100000, k_999999, k_1000000, k_2147483647, lt_T, lt_F, le_T, le_F, eq_T, eq_F, ↓reduceIte, not_true_eq_false, not_false_eq_true, or_true, or_false, true_or, false_or, and_true, true_and, and_false, false_and]
  · have e1 := m_rockAt w G (h := b) (d := i + sh) hb (by omega) (φ := φ) (by omega)
    have e2 := (h a ha.1 ha.2).2.2 i i0 (by omega)
    have e3 := hv i i0 i1
    have e4 := s_rk_bd w (h := b) (d := i + sh) hb
    have e5 := s_ag_bd T a F b sh (n := n) (by omega) (i := i) (by omega)
    have e6 := sm_s (s_hit T a F b sh) i0
    have ev := (fun (q : s_hit T a F b sh i = 0) => (show sm (s_hit T a F b sh) (i + 1) = sm (s_hit T a F b sh) i + 0 from by rw [e6, q]))
    have ew := (fun (q : s_hit T a F b sh i = 1) => (show sm (s_hit T a F b sh) (i + 1) = sm (s_hit T a F b sh) i + 1 from by rw [e6, q]))
    rw [lX11_agreeing_6]
    unfold fX11_logAt
    by_cases h1 : s_rk F b (i + sh) = -1
    · rw [ev (if_neg (fun q => q.1 h1))] at ih
      simp (disch := omega) only [iI_add, iI_sub, iI_mul, iI_neg, iI_nat, addm1, ixkI, ↓sbind, sbind, ↓bdS, bdS, ↓nm_eq, ↓jn_eq, iI_lt, iI_le, iI_eq, k_0, k_1, k_2, k_3, k_4, k_5, k_6, k_7, k_8, k_9, k_10, k_11, k_12, k_13, k_14, k_15, k_16, k_17, k_18, k_19, k_20, k_21, k_22, k_23, k_24, k_27, k_30, k_32, k_48, k_57, k_59, k_60, k_61, k_62, k_63, k_64, k_72, k_78, k_80, k_82, k_97, k_99, k_100, k_122, k_244, k_255, k_268, k_280, k_300, k_432, k_650, k_900, k_901, k_999, k_1700, k_2600, k_2601, k_2602, k_2603, k_2604, k_2610, k_2618, k_2682, k_2777, k_2844, k_2868, k_2880, k_3245, k_3250, k_9551, k_9999, k_65536, k_100000, k_999999, k_1000000, k_2147483647, lI_add, lI_sub, lI_mul, lI_neg, lI_lt, lI_le, lI_eq, iI_l, kl_0, kl_1, kl_2, kl_6, kl_9, kl_10, kl_32, kl_99, kl_999, kl_9999, kl_999999, lt_T, lt_F, le_T, le_F, eq_T, eq_F, ↓reduceIte, not_true_eq_false, not_false_eq_true, or_true, or_false, true_or, false_or, and_true, true_and, and_false, false_and, e1, ih]
    · by_cases h2 : T.2.2 a i = s_rk F b (i + sh)
      · rw [ew (if_pos ⟨h1, h2⟩)] at ih
        simp (disch := omega) only [iI_add, iI_sub, iI_mul, iI_neg, iI_nat, addm1, ixkI, ↓sbind, sbind, ↓bdS, bdS, ↓nm_eq, ↓jn_eq, iI_lt, iI_le, iI_eq, k_0, k_1, k_2, k_3, k_4, k_5, k_6, k_7, k_8, k_9, k_10, k_11, k_12, k_13, k_14, k_15, k_16, k_17, k_18, k_19, k_20, k_21, k_22, k_23, k_24, k_27, k_30, k_32, k_48, k_57, k_59, k_60, k_61, k_62, k_63, k_64, k_72, k_78, k_80, k_82, k_97, k_99, k_100, k_122, k_244, k_255, k_268, k_280, k_300, k_432, k_650, k_900, k_901, k_999, k_1700, k_2600, k_2601, k_2602, k_2603, k_2604, k_2610, k_2618, k_2682, k_2777, k_2844, k_2868, k_2880, k_3245, k_3250, k_9551, k_9999, k_65536, k_100000, k_999999, k_1000000, k_2147483647, lI_add, lI_sub, lI_mul, lI_neg, lI_lt, lI_le, lI_eq, iI_l, kl_0, kl_1, kl_2, kl_6, kl_9, kl_10, kl_32, kl_99, kl_999, kl_9999, kl_999999, lt_T, lt_F, le_T, le_F, eq_T, eq_F, ↓reduceIte, not_true_eq_false, not_false_eq_true, or_true, or_false, true_or, false_or, and_true, true_and, and_false, false_and, e1, e2, ih]
      · rw [ev (if_neg (fun q => h2 q.2))] at ih
        simp (disch := omega) only [iI_add, iI_sub, iI_mul, iI_neg, iI_nat, addm1, ixkI, ↓sbind, sbind, ↓bdS, bdS, ↓nm_eq, ↓jn_eq, iI_lt, iI_le, iI_eq, k_0, k_1, k_2, k_3, k_4, k_5, k_6, k_7, k_8, k_9, k_10, k_11, k_12, k_13, k_14, k_15, k_16, k_17, k_18, k_19, k_20, k_21, k_22, k_23, k_24, k_27, k_30, k_32, k_48, k_57, k_59, k_60, k_61, k_62, k_63, k_64, k_72, k_78, k_80, k_82, k_97, k_99, k_100, k_122, k_244, k_255, k_268, k_280, k_300, k_432, k_650, k_900, k_901, k_999, k_1700, k_2600, k_2601, k_2602, k_2603, k_2604, k_2610, k_2618, k_2682, k_2777, k_2844, k_2868, k_2880, k_3245, k_3250, k_9551, k_9999, k_65536, k_100000, k_999999, k_1000000, k_2147483647, lI_add, lI_sub, lI_mul, lI_neg, lI_lt, lI_le, lI_eq, iI_l, kl_0, kl_1, kl_2, kl_6, kl_9, kl_10, kl_32, kl_99, kl_999, kl_9999, kl_999999, lt_T, lt_F, le_T, le_F, eq_T, eq_F, ↓reduceIte, not_true_eq_false, not_false_eq_true, or_true, or_false, true_or, false_or, and_true, true_and, and_false, false_and, e1, e2, ih]
theorem c_alike (w : WF F) (h : TC1 T M) {t : Nat} {a n b sh : Int} (U : UR t F b M) (L : LG T a n) (hb : 0 ≤ b ∧ b < F 0 1 0) (hs : -20 ≤ sh ∧ sh ≤ 20) {φ : Nat} (hφ : 1000 ≤ φ) : fX4_alike φ t (78 + 2 * a.toNat) (iI n) (iI sh) M = some (iI (s_ag T a n F b sh)) := by
  obtain ⟨ha, hn, hm, hv⟩ := L
  unfold fX4_alike s_ag
  rw [k_0]
  refine lup (P := fun k i => lX4_alike_6 t (78 + 2 * a.toNat) (iI n) (iI sh) M k (iI (sm (s_hit T a F b sh) i)) (iI i) = some (iI (sm (s_hit T a F b sh) n))) (N := n) (fun k => ?_) (fun k i i0 i1 ih => ?_) φ 0 (by omega) (by omega) (by omega)
  · rw [lX4_alike_6]
    simp (disch := omega) only [iI_add, iI_sub, iI_mul, iI_neg, iI_nat, addm1, ixkI, ↓sbind, sbind, ↓bdS, bdS, ↓nm_eq, ↓jn_eq, iI_lt, iI_le, iI_eq, k_0, k_1, k_2, k_3, k_4, k_5, k_6, k_7, k_8, k_9, k_10, k_11, k_12, k_13, k_14, k_15, k_16, k_17, k_18, k_19, k_20, k_21, k_22, k_23, k_24, k_27, k_30, k_32, k_48, k_57, k_59, k_60, k_61, k_62, k_63, k_64, k_72, k_78, k_80, k_82, k_97, k_99, k_100, k_122, k_244, k_255, k_268, k_280, k_300, k_432, k_650, k_900, k_901, k_999, k_1700, k_2600, k_2601, k_2602, k_2603, k_2604, k_2610, k_2618, k_2682, k_2777, k_2844, k_2868, k_2880, k_3245, k_3250, k_9551, k_9999, k_65536, k_100000, k_999999, k_1000000, k_2147483647, lt_T, lt_F, le_T, le_F, eq_T, eq_F, ↓reduceIte, not_true_eq_false, not_false_eq_true, or_true, or_false, true_or, false_or, and_true, true_and, and_false, false_and]
  · have e2 := (h a ha.1 ha.2).2.2 i i0 (by omega)
    have e3 := hv i i0 i1
    have e4 := s_rk_bd w (h := b) (d := i + sh) hb
    have e5 := s_ag_bd T a F b sh (n := n) (by omega) (i := i) (by omega)
    have e6 := sm_s (s_hit T a F b sh) i0
    have ev := (fun (q : s_hit T a F b sh i = 0) => (show sm (s_hit T a F b sh) (i + 1) = sm (s_hit T a F b sh) i from by rw [e6, q, Int.add_zero]))
    have ew := (fun (q : s_hit T a F b sh i = 1) => (show sm (s_hit T a F b sh) (i + 1) = sm (s_hit T a F b sh) i + 1 from by rw [e6, q]))
    rw [lX4_alike_6]
    by_cases h0 : i + sh < 0
    · have hq : s_rk F b (i + sh) = -1 := if_neg (by omega)
      rw [ev (if_neg (fun q => q.1 hq))] at ih
      simp (disch := omega) only [iI_add, iI_sub, iI_mul, iI_neg, iI_nat, addm1, ixkI, ↓sbind, sbind, ↓bdS, bdS, ↓nm_eq, ↓jn_eq, iI_lt, iI_le, iI_eq, k_0, k_1, k_2, k_3, k_4, k_5, k_6, k_7, k_8, k_9, k_10, k_11, k_12, k_13, k_14, k_15, k_16, k_17, k_18, k_19, k_20, k_21, k_22, k_23, k_24, k_27, k_30, k_32, k_48, k_57, k_59, k_60, k_61, k_62, k_63, k_64, k_72, k_78, k_80, k_82, k_97, k_99, k_100, k_122, k_244, k_255, k_268, k_280, k_300, k_432, k_650, k_900, k_901, k_999, k_1700, k_2600, k_2601, k_2602, k_2603, k_2604, k_2610, k_2618, k_2682, k_2777, k_2844, k_2868, k_2880, k_3245, k_3250, k_9551, k_9999, k_65536, k_100000, k_999999, k_1000000, k_2147483647, lI_add, lI_sub, lI_mul, lI_neg, lI_lt, lI_le, lI_eq, iI_l, kl_0, kl_1, kl_2, kl_6, kl_9, kl_10, kl_32, kl_99, kl_999, kl_9999, kl_999999, lt_T, lt_F, le_T, le_F, eq_T, eq_F, ↓reduceIte, not_true_eq_false, not_false_eq_true, or_true, or_false, true_or, false_or, and_true, true_and, and_false, false_and, ih]
    · have e7 := U (i + sh) (by omega) (by omega)
      by_cases h1 : s_rk F b (i + sh) = -1
      · rw [ev (if_neg (fun q => q.1 h1))] at ih
        rw [show u_rk F b (i + sh) = -2 from if_pos h1] at e7
        simp (disch := omega) only [iI_add, iI_sub, iI_mul, iI_neg, iI_nat, addm1, ixkI, ↓sbind, sbind, ↓bdS, bdS, ↓nm_eq, ↓jn_eq, iI_lt, iI_le, iI_eq, k_0, k_1, k_2, k_3, k_4, k_5, k_6, k_7, k_8, k_9, k_10, k_11, k_12, k_13, k_14, k_15, k_16, k_17, k_18, k_19, k_20, k_21, k_22, k_23, k_24, k_27, k_30, k_32, k_48, k_57, k_59, k_60, k_61, k_62, k_63, k_64, k_72, k_78, k_80, k_82, k_97, k_99, k_100, k_122, k_244, k_255, k_268, k_280, k_300, k_432, k_650, k_900, k_901, k_999, k_1700, k_2600, k_2601, k_2602, k_2603, k_2604, k_2610, k_2618, k_2682, k_2777, k_2844, k_2868, k_2880, k_3245, k_3250, k_9551, k_9999, k_65536, k_100000, k_999999, k_1000000, k_2147483647, lI_add, lI_sub, lI_mul, lI_neg, lI_lt, lI_le, lI_eq, iI_l, kl_0, kl_1, kl_2, kl_6, kl_9, kl_10, kl_32, kl_99, kl_999, kl_9999, kl_999999, lt_T, lt_F, le_T, le_F, eq_T, eq_F, ↓reduceIte, not_true_eq_false, not_false_eq_true, or_true, or_false, true_or, false_or, and_true, true_and, and_false, false_and, e2, e7, ih]
      · rw [show u_rk F b (i + sh) = s_rk F b (i + sh) from if_neg h1] at e7
        by_cases h2 : T.2.2 a i = s_rk F b (i + sh)
        · rw [ew (if_pos ⟨h1, h2⟩)] at ih
          simp (disch := omega) only [iI_add, iI_sub, iI_mul, iI_neg, iI_nat, addm1, ixkI, ↓sbind, sbind, ↓bdS, bdS, ↓nm_eq, ↓jn_eq, iI_lt, iI_le, iI_eq, k_0, k_1, k_2, k_3, k_4, k_5, k_6, k_7, k_8, k_9, k_10, k_11, k_12, k_13, k_14, k_15, k_16, k_17, k_18, k_19, k_20, k_21, k_22, k_23, k_24, k_27, k_30, k_32, k_48, k_57, k_59, k_60, k_61, k_62, k_63, k_64, k_72, k_78, k_80, k_82, k_97, k_99, k_100, k_122, k_244, k_255, k_268, k_280, k_300, k_432, k_650, k_900, k_901, k_999, k_1700, k_2600, k_2601, k_2602, k_2603, k_2604, k_2610, k_2618, k_2682, k_2777, k_2844, k_2868, k_2880, k_3245, k_3250, k_9551, k_9999, k_65536, k_100000, k_999999, k_1000000, k_2147483647, lI_add, lI_sub, lI_mul, lI_neg, lI_lt, lI_le, lI_eq, iI_l, kl_0, kl_1, kl_2, kl_6, kl_9, kl_10, kl_32, kl_99, kl_999, kl_9999, kl_999999, lt_T, lt_F, le_T, le_F, eq_T, eq_F, ↓reduceIte, not_true_eq_false, not_false_eq_true, or_true, or_false, true_or, false_or, and_true, true_and, and_false, false_and, e2, e7, ih]
        · rw [ev (if_neg (fun q => h2 q.2))] at ih
          simp (disch := omega) only [iI_add, iI_sub, iI_mul, iI_neg, iI_nat, addm1, ixkI, ↓sbind, sbind, ↓bdS, bdS, ↓nm_eq, ↓jn_eq, iI_lt, iI_le, iI_eq, k_0, k_1, k_2, k_3, k_4, k_5, k_6, k_7, k_8, k_9, k_10, k_11, k_12, k_13, k_14, k_15, k_16, k_17, k_18, k_19, k_20, k_21, k_22, k_23, k_24, k_27, k_30, k_32, k_48, k_57, k_59, k_60, k_61, k_62, k_63, k_64, k_72, k_78, k_80, k_82, k_97, k_99, k_100, k_122, k_244, k_255, k_268, k_280, k_300, k_432, k_650, k_900, k_901, k_999, k_1700, k_2600, k_2601, k_2602, k_2603, k_2604, k_2610, k_2618, k_2682, k_2777, k_2844, k_2868, k_2880, k_3245, k_3250, k_9551, k_9999, k_65536, k_100000, k_999999, k_1000000, k_2147483647, lI_add, lI_sub, lI_mul, lI_neg, lI_lt, lI_le, lI_eq, iI_l, kl_0, kl_1, kl_2, kl_6, kl_9, kl_10, kl_32, kl_99, kl_999, kl_9999, kl_999999, lt_T, lt_F, le_T, le_F, eq_T, eq_F, ↓reduceIte, not_true_eq_false, not_false_eq_true, or_true, or_false, true_or, false_or, and_true, true_and, and_false, false_and, e2, e7, ih]
theorem l_st_LG (w : WF F) {a n : Int} (h : l_st T a n (F 0 0 0 - 1) = 0) : LG T a n := by
  obtain ⟨h1, h2, h3, h4⟩ := l_st_0 h
  have h5 := w.n0
  exact ⟨h1, h2, h3, fun k a b => by have := h4 k a b; omega⟩
def q_agrees (T : TS) (F : Fld) (a n h : Int) : Int × Int := if 0 ≤ h ∧ h < F 0 1 0 then (if l_st T a n (F 0 0 0 - 1) = 0 then (s_ag T a n F h 0, 0) else (-1, l_st T a n (F 0 0 0 - 1))) else (-1, 1)
theorem cq_agrees (hx : g + 13 < 57 ∨ 86 ≤ g) (I : CI 0 g F M) (wT : WT T) (hT : TC1 T M) {a n h : Int} (ha : -2147483648 ≤ a ∧ a < 2147483648) (hn : -2147483648 ≤ n ∧ n < 2147483648) (hh : -2147483648 ≤ h ∧ h < 2147483648) {φ : Nat} (hφ : 20000 ≤ φ) : ∃ M1, Fr (Rg 73 73) M M1 ∧ fX10_agrees φ 0 (iI a) (iI n) (iI h) M = some (iI (q_agrees T F a n h).1, stI M1 0 0 (iI (q_agrees T F a n h).2)) := by
  obtain ⟨hg, ho, hd, w, G, hB⟩ := I
  have h0 := w.n0
  have e1 := c_isHole w G hh
  unfold fX10_agrees fX10_refuse fX10_answer
  by_cases h1 : 0 ≤ h ∧ h < F 0 1 0
  · rw [s_in_t h1] at e1
    have e2 := c_logStatus wT hT (hi := F 0 0 0 - 1) ha hn (by omega) (φ := φ) (by omega)
    have e3 := G.n0
    by_cases h2 : l_st T a n (F 0 0 0 - 1) = 0
    · have L := l_st_LG w h2
      have La := L.1
      obtain ⟨M1, r1, r2, r3⟩ := c_unfold w G (0 + 71) h1 (by omega) hφ
      have e4 := c_alike w (hT.fr r3 (fun x a b q => by have := q.1; have := q.2; omega)) r2 L h1 (sh := 0) (by omega) (φ := φ) (by omega)
      rw [h2] at e2
      refine ⟨M1, r3, ?_⟩
      rw [show q_agrees T F a n h = (s_ag T a n F h 0, 0) from by unfold q_agrees; rw [if_pos h1, if_pos h2]]
      simp (disch := omega) only [iI_add, iI_sub, iI_mul, iI_neg, iI_nat, addm1, ixkI, ↓sbind, sbind, ↓bdS, bdS, ↓nm_eq, ↓jn_eq, iI_lt, iI_le, iI_eq, k_0, k_1, k_2, k_3, k_4, k_5, k_6, k_7, k_8, k_9, k_10, k_11, k_12, k_13, k_14, k_15, k_16, k_17, k_18, k_19, k_20, k_21, k_22, k_23, k_24, k_27, k_30, k_32, k_48, k_57, k_59, k_60, k_61, k_62, k_63, k_64, k_72, k_78, k_80, k_82, k_97, k_99, k_100, k_122, k_244, k_255, k_268, k_280, k_300, k_432, k_650, k_900, k_901, k_999, k_1700, k_2600, k_2601, k_2602, k_2603, k_2604, k_2610, k_2618, k_2682, k_2777, k_2844, k_2868, k_2880, k_3245, k_3250, k_9551, k_9999, k_65536, k_100000, k_999999, k_1000000, k_2147483647, lt_T, lt_F, le_T, le_F, eq_T, eq_F, ↓reduceIte, not_true_eq_false, not_false_eq_true, or_true, or_false, true_or, false_or, and_true, true_and, and_false, false_and, hg, ldr_ok ho, bI_t, srf_t, e1, e2, e3, e4, r1]
    · refine ⟨M, Fr.refl M, ?_⟩
      have pv := l_st_vals T a n (F 0 0 0 - 1)
      rw [show q_agrees T F a n h = (-1, l_st T a n (F 0 0 0 - 1)) from by unfold q_agrees; rw [if_pos h1, if_neg h2]]
      simp (disch := omega) only [iI_add, iI_sub, iI_mul, iI_neg, iI_nat, addm1, ixkI, ↓sbind, sbind, ↓bdS, bdS, ↓nm_eq, ↓jn_eq, iI_lt, iI_le, iI_eq, k_0, k_1, k_2, k_3, k_4, k_5, k_6, k_7, k_8, k_9, k_10, k_11, k_12, k_13, k_14, k_15, k_16, k_17, k_18, k_19, k_20, k_21, k_22, k_23, k_24, k_27, k_30, k_32, k_48, k_57, k_59, k_60, k_61, k_62, k_63, k_64, k_72, k_78, k_80, k_82, k_97, k_99, k_100, k_122, k_244, k_255, k_268, k_280, k_300, k_432, k_650, k_900, k_901, k_999, k_1700, k_2600, k_2601, k_2602, k_2603, k_2604, k_2610, k_2618, k_2682, k_2777, k_2844, k_2868, k_2880, k_3245, k_3250, k_9551, k_9999, k_65536, k_100000, k_999999, k_1000000, k_2147483647, lt_T, lt_F, le_T, le_F, eq_T, eq_F, ↓reduceIte, not_true_eq_false, not_false_eq_true, or_true, or_false, true_or, false_or, and_true, true_and, and_false, false_and, hg, ldr_ok ho, bI_t, e1, e2, e3]
  · rw [s_in_f h1] at e1
    refine ⟨M, Fr.refl M, ?_⟩
    rw [show q_agrees T F a n h = (-1, 1) from if_neg h1]
    simp (disch := omega) only [iI_add, iI_sub, iI_mul, iI_neg, iI_nat, addm1, ixkI, ↓sbind, sbind, ↓bdS, bdS, ↓nm_eq, ↓jn_eq, iI_lt, iI_le, iI_eq, k_0, k_1, k_2, k_3, k_4, k_5, k_6, k_7, k_8, k_9, k_10, k_11, k_12, k_13, k_14, k_15, k_16, k_17, k_18, k_19, k_20, k_21, k_22, k_23, k_24, k_27, k_30, k_32, k_48, k_57, k_59, k_60, k_61, k_62, k_63, k_64, k_72, k_78, k_80, k_82, k_97, k_99, k_100, k_122, k_244, k_255, k_268, k_280, k_300, k_432, k_650, k_900, k_901, k_999, k_1700, k_2600, k_2601, k_2602, k_2603, k_2604, k_2610, k_2618, k_2682, k_2777, k_2844, k_2868, k_2880, k_3245, k_3250, k_9551, k_9999, k_65536, k_100000, k_999999, k_1000000, k_2147483647, lt_T, lt_F, le_T, le_F, eq_T, eq_F, ↓reduceIte, not_true_eq_false, not_false_eq_true, or_true, or_false, true_or, false_or, and_true, true_and, and_false, false_and, hg, ldr_ok ho, bI_f, e1]
theorem mq_agrees (w : WF F) (G : MR m 0 F M) (wT : WT T) (hT : TM1 m T M) {a n h : Int} (ha : -2147483648 ≤ a ∧ a < 2147483648) (hn : -2147483648 ≤ n ∧ n < 2147483648) (hh : -2147483648 ≤ h ∧ h < 2147483648) {φ : Nat} (hφ : 20000 ≤ φ) : fX11_agrees φ m (iI a) (iI n) (iI h) M = some (iI (q_agrees T F a n h).1, stI M m 2 (iI (q_agrees T F a n h).2)) := by
  have h0 := w.n0
  have e1 := m_isHole w G hh
  unfold fX11_agrees fX11_refuse fX11_gives
  by_cases h1 : 0 ≤ h ∧ h < F 0 1 0
  · rw [s_in_t h1] at e1
    have e2 := m_wrongLog wT hT (hi := F 0 0 0 - 1) ha hn (by omega) (φ := φ) (by omega)
    have e3 := G.c0
    by_cases h2 : l_st T a n (F 0 0 0 - 1) = 0
    · have L := l_st_LG w h2
      have e4 := m_agreeing w G hT L h1 (sh := 0) (by omega) (φ := φ) (by omega)
      rw [h2] at e2
      rw [show q_agrees T F a n h = (s_ag T a n F h 0, 0) from by unfold q_agrees; rw [if_pos h1, if_pos h2]]
      simp (disch := omega) only [iI_add, iI_sub, iI_mul, iI_neg, iI_nat, addm1, ixkI, ↓sbind, sbind, ↓bdS, bdS, ↓nm_eq, ↓jn_eq, iI_lt, iI_le, iI_eq, k_0, k_1, k_2, k_3, k_4, k_5, k_6, k_7, k_8, k_9, k_10, k_11, k_12, k_13, k_14, k_15, k_16, k_17, k_18, k_19, k_20, k_21, k_22, k_23, k_24, k_27, k_30, k_32, k_48, k_57, k_59, k_60, k_61, k_62, k_63, k_64, k_72, k_78, k_80, k_82, k_97, k_99, k_100, k_122, k_244, k_255, k_268, k_280, k_300, k_432, k_650, k_900, k_901, k_999, k_1700, k_2600, k_2601, k_2602, k_2603, k_2604, k_2610, k_2618, k_2682, k_2777, k_2844, k_2868, k_2880, k_3245, k_3250, k_9551, k_9999, k_65536, k_100000, k_999999, k_1000000, k_2147483647, lI_add, lI_sub, lI_mul, lI_neg, lI_lt, lI_le, lI_eq, iI_l, kl_0, kl_1, kl_2, kl_6, kl_9, kl_10, kl_32, kl_99, kl_999, kl_9999, kl_999999, lt_T, lt_F, le_T, le_F, eq_T, eq_F, ↓reduceIte, not_true_eq_false, not_false_eq_true, or_true, or_false, true_or, false_or, and_true, true_and, and_false, false_and, bI_t, e1, e2, e3, e4]
    · have pv := l_st_vals T a n (F 0 0 0 - 1)
      rw [show q_agrees T F a n h = (-1, l_st T a n (F 0 0 0 - 1)) from by unfold q_agrees; rw [if_pos h1, if_neg h2]]
      simp (disch := omega) only [iI_add, iI_sub, iI_mul, iI_neg, iI_nat, addm1, ixkI, ↓sbind, sbind, ↓bdS, bdS, ↓nm_eq, ↓jn_eq, iI_lt, iI_le, iI_eq, k_0, k_1, k_2, k_3, k_4, k_5, k_6, k_7, k_8, k_9, k_10, k_11, k_12, k_13, k_14, k_15, k_16, k_17, k_18, k_19, k_20, k_21, k_22, k_23, k_24, k_27, k_30, k_32, k_48, k_57, k_59, k_60, k_61, k_62, k_63, k_64, k_72, k_78, k_80, k_82, k_97, k_99, k_100, k_122, k_244, k_255, k_268, k_280, k_300, k_432, k_650, k_900, k_901, k_999, k_1700, k_2600, k_2601, k_2602, k_2603, k_2604, k_2610, k_2618, k_2682, k_2777, k_2844, k_2868, k_2880, k_3245, k_3250, k_9551, k_9999, k_65536, k_100000, k_999999, k_1000000, k_2147483647, lI_add, lI_sub, lI_mul, lI_neg, lI_lt, lI_le, lI_eq, iI_l, kl_0, kl_1, kl_2, kl_6, kl_9, kl_10, kl_32, kl_99, kl_999, kl_9999, kl_999999, lt_T, lt_F, le_T, le_F, eq_T, eq_F, ↓reduceIte, not_true_eq_false, not_false_eq_true, or_true, or_false, true_or, false_or, and_true, true_and, and_false, false_and, bI_t, e1, e2, e3]
  · rw [s_in_f h1] at e1
    rw [show q_agrees T F a n h = (-1, 1) from if_neg h1]
    simp (disch := omega) only [iI_add, iI_sub, iI_mul, iI_neg, iI_nat, addm1, ixkI, ↓sbind, sbind, ↓bdS, bdS, ↓nm_eq, ↓jn_eq, iI_lt, iI_le, iI_eq, k_0, k_1, k_2, k_3, k_4, k_5, k_6, k_7, k_8, k_9, k_10, k_11, k_12, k_13, k_14, k_15, k_16, k_17, k_18, k_19, k_20, k_21, k_22, k_23, k_24, k_27, k_30, k_32, k_48, k_57, k_59, k_60, k_61, k_62, k_63, k_64, k_72, k_78, k_80, k_82, k_97, k_99, k_100, k_122, k_244, k_255, k_268, k_280, k_300, k_432, k_650, k_900, k_901, k_999, k_1700, k_2600, k_2601, k_2602, k_2603, k_2604, k_2610, k_2618, k_2682, k_2777, k_2844, k_2868, k_2880, k_3245, k_3250, k_9551, k_9999, k_65536, k_100000, k_999999, k_1000000, k_2147483647, lt_T, lt_F, le_T, le_F, eq_T, eq_F, ↓reduceIte, not_true_eq_false, not_false_eq_true, or_true, or_false, true_or, false_or, and_true, true_and, and_false, false_and, bI_f, e1]
end AY
