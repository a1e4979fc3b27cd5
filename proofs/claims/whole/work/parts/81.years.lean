/-! the years' steps on both sides; the conditions -/
abbrev Yr : Type := Int → Int → Int
/-- the class's word for a step -/
def y_k (k : Int) : Int := if k = 1721 then 18 else if k = 1722 then 19 else if k = 1723 then 20 else if k = 18 then 21 else if k = 19 then 22 else if k = 20 then 23 else k
def y_o (Y : Yr) (x : Int) : Int := if Y x 0 = 1721 then Y x 5 else Y x 2
def y_n (Y : Yr) (x : Int) : Int := if Y x 0 = 13 then Y x 3 else if Y x 0 = 15 ∨ Y x 0 = 18 then Y x 1 else Y x 2
/-- one step is well made for the field -/
def WS (F : Fld) (Y : Yr) (x : Int) : Prop := (Y x 0 = 13 ∧ (0 ≤ Y x 1 ∧ Y x 1 < F 0 1 0) ∧ (0 ≤ Y x 2 ∧ Y x 2 < F 0 0 0) ∧ 1 ≤ Y x 3 ∧ Y x 3 ≤ 999) ∨ (Y x 0 = 14 ∧ (0 ≤ Y x 1 ∧ Y x 1 < F 0 1 0) ∧ 0 ≤ Y x 2 ∧ Y x 2 ≤ 9999) ∨ (Y x 0 = 15 ∧ 1 ≤ Y x 1 ∧ Y x 1 ≤ 9999) ∨ (Y x 0 = 16 ∧ (0 ≤ Y x 1 ∧ Y x 1 < F 0 3 0) ∧ 0 ≤ Y x 2 ∧ Y x 2 ≤ 999) ∨ (Y x 0 = 1721 ∧ (0 ≤ Y x 1 ∧ Y x 1 < F 0 1 0) ∧ (0 ≤ Y x 2 ∧ Y x 2 ≤ 9999) ∧ 60 ≤ Y x 5 ∧ Y x 5 ≤ 62) ∨ ((Y x 0 = 1722 ∨ Y x 0 = 1723) ∧ (0 ≤ Y x 1 ∧ Y x 1 < F 0 1 0) ∧ 0 ≤ Y x 2 ∧ Y x 2 < F 0 0 0) ∨ (Y x 0 = 18 ∧ 1 ≤ Y x 1 ∧ Y x 1 ≤ 9999) ∨ Y x 0 = 19 ∨ Y x 0 = 20
def YC (y : Nat) (N : Int) (Y : Yr) (M : Mem) : Prop := M.1 y 2 = iI N ∧ ∀ x : Int, 0 ≤ x → x < N → M.1 (y + 1) x.toNat = iI (y_k (Y x 0)) ∧ (Y x 0 ≠ 15 → Y x 0 ≠ 18 → Y x 0 ≠ 19 → Y x 0 ≠ 20 → M.1 (y + 2) x.toNat = iI (Y x 1)) ∧ (Y x 0 = 13 ∨ 1700 ≤ Y x 0 → M.1 (y + 3) x.toNat = iI (y_o Y x)) ∧ (Y x 0 ≠ 19 → Y x 0 ≠ 20 → (Y x 0 ≠ 1722 ∧ Y x 0 ≠ 1723) → M.1 (y + 4) x.toNat = iI (y_n Y x)) ∧ (18 ≤ Y x 0 → Y x 0 ≠ 20 → M.1 (y + 5) x.toNat = iI (Y x 4))
def YM (m : Nat) (N : Int) (Y : Yr) (M : Mem) : Prop := M.1 (m + 1) 4 = iI N ∧ ∀ x c : Int, 0 ≤ x → x < N → 0 ≤ c → c < 6 → M.1 (m + 1) (280 + 6 * x + c).toNat = iI (Y x c)
section YS
variable {m g y : Nat} {F : Fld} {M : Mem} {Y : Yr} {N : Int}
theorem YM.at0 (h : YM m N Y M) {x : Int} (hx : 0 ≤ x ∧ x < N) : M.1 (m + 1) (280 + 6 * x).toNat = iI (Y x 0) := by
  have := h.2 x 0 hx.1 hx.2 (by omega) (by omega)
  rw [Int.add_zero] at this
  exact this
theorem YM.at (h : YM m N Y M) {x c : Int} (hx : 0 ≤ x ∧ x < N) (hc : 0 ≤ c ∧ c < 6) : M.1 (m + 1) (280 + 6 * x + c).toNat = iI (Y x c) := h.2 x c hx.1 hx.2 hc.1 hc.2
def s_holds (F : Fld) (Y : Yr) (x : Int) : Bool := if Y x 0 = 1722 then s_has F (Y x 1) (Y x 2) else if Y x 0 = 1723 then s_onTop F (Y x 1) (Y x 2) else if Y x 5 = 60 then decide (s_top F (Y x 1) (F 3 (Y x 1) 2) < Y x 2) else if Y x 5 = 62 then decide (Y x 2 < s_top F (Y x 1) (F 3 (Y x 1) 2)) else decide (s_top F (Y x 1) (F 3 (Y x 1) 2) = Y x 2)
theorem c_compares {a b s : Int} (ha : 0 ≤ a ∧ a ≤ 99999) (hb : 0 ≤ b ∧ b ≤ 99999) (hs : 60 ≤ s ∧ s ≤ 62) : fX3_compares (iI a) (iI s) (iI b) M = some (bI (if s = 60 then decide (a < b) else if s = 62 then decide (b < a) else decide (a = b))) := by
  unfold fX3_compares
  by_cases h1 : s = 60
  · rw [if_pos h1]
    by_cases h2 : a < b
    · rw [decide_eq_true h2]; simp (disch := omega) only [iI_add, iI_sub, iI_mul, iI_neg, iI_nat, addm1, ixkI, ↓sbind, sbind, ↓bdS, bdS, ↓nm_eq, ↓jn_eq, iI_lt, iI_le, iI_eq, k_0, k_1, k_2, k_3, k_4, k_5, k_6, k_7, k_8, k_9, k_10, k_11, k_12, k_13, k_14, k_15, k_16, k_17, k_18, k_19, k_20, k_21, k_22, k_23, k_24, k_27, k_30, k_32, k_48, k_57, k_59, k_60, k_61, k_62, k_63, k_64, k_72, k_78, k_80, k_82, k_97, k_99, k_100, k_122, k_244, k_255, k_268, k_280, k_300, k_432, k_650, k_900, k_901, k_999, k_1700, k_2600, k_2601, k_2602, k_2603, k_2604, k_2610, k_2618, k_2682, k_2777, k_2844, k_2868, k_2880, k_3245, k_3250, k_9551, k_9999, k_65536, k_100000, k_999999, k_1000000, k_2147483647, lt_T, lt_F, le_T, le_F, eq_T, eq_F, ↓reduceIte, not_true_eq_false, not_false_eq_true, or_true, or_false, true_or, false_or, and_true, true_and, and_false, false_and, bI_t]
    · rw [decide_eq_false h2]; simp (disch := omega) only [iI_add, iI_sub, iI_mul, iI_neg, iI_nat, addm1, ixkI, ↓sbind, sbind, ↓bdS, bdS, ↓nm_eq, ↓jn_eq, iI_lt, iI_le, iI_eq, k_0, k_1, k_2, k_3, k_4, k_5, k_6, k_7, k_8, k_9, k_10, k_11, k_12, k_13, k_14, k_15, k_16, k_17, k_18, k_19, k_20, k_21, k_22, k_23, k_24, k_27, k_30, k_32, k_48, k_57, k_59, k_60, k_61, k_62, k_63, k_64, k_72, k_78, k_80, k_82, k_97, k_99, k_100, k_122, k_244, k_255, k_268, k_280, k_300, k_432, k_650, k_900, k_901, k_999, k_1700, k_2600, k_2601, k_2602, k_2603, k_2604, k_2610, k_2618, k_2682, k_2777, k_2844, k_2868, k_2880, k_3245, k_3250, k_9551, k_9999, k_65536, k_100000, k_999999, k_1000000, k_2147483647, lt_T, lt_F, le_T, le_F, eq_T, eq_F, ↓reduceIte, not_true_eq_false, not_false_eq_true, or_true, or_false, true_or, false_or, and_true, true_and, and_false, false_and, bI_f]
  · rw [if_neg h1]
    by_cases h3 : s = 62
    · rw [if_pos h3]
      by_cases h2 : b < a
      · rw [decide_eq_true h2]; simp (disch := omega) only [iI_add, iI_sub, iI_mul, iI_neg, iI_nat, addm1, ixkI, ↓sbind, sbind, ↓bdS, bdS, ↓nm_eq, ↓jn_eq, iI_lt, iI_le, iI_eq, k_0, k_1, k_2, k_3, k_4, k_5, k_6, k_7, k_8, k_9, k_10, k_11, k_12, k_13, k_14, k_15, k_16, k_17, k_18, k_19, k_20, k_21, k_22, k_23, k_24, k_27, k_30, k_32, k_48, k_57, k_59, k_60, k_61, k_62, k_63, k_64, k_72, k_78, k_80, k_82, k_97, k_99, k_100, k_122, k_244, k_255, k_268, k_280, k_300, k_432, k_650, k_900, k_901, k_999, k_1700, k_2600, k_2601, k_2602, k_2603, k_2604, k_2610, k_2618, k_2682, k_2777, k_2844, k_2868, k_2880, k_3245, k_3250, k_9551, k_9999, k_65536, k_100000, k_999999, k_1000000, k_2147483647, lt_T, lt_F, le_T, le_F, eq_T, eq_F, ↓reduceIte, not_true_eq_false, not_false_eq_true, or_true, or_false, true_or, false_or, and_true, true_and, and_false, false_and, bI_t]
      · rw [decide_eq_false h2]; simp (disch := omega) only [iI_add, iI_sub, iI_mul, iI_neg, iI_nat, addm1, ixkI, ↓sbind, sbind, ↓bdS, bdS, ↓nm_eq, ↓jn_eq, iI_lt, iI_le, iI_eq, k_0, k_1, k_2, k_3, k_4, k_5, k_6, k_7, k_8, k_9, k_10, k_11, k_12, k_13, k_14, k_15, k_16, k_17, k_18, k_19, k_20, k_21, k_22, k_23, k_24, k_27, k_30, k_32, k_48, k_57, k_59, k_60, k_61, k_62, k_63, k_64, k_72, k_78, k_80, k_82, k_97, k_99, k_100, k_122, k_244, k_255, k_268, k_280, k_300, k_432, k_650, k_900, k_901, k_999, k_1700, k_2600, k_2601, k_2602, k_2603, k_2604, k_2610, k_2618, k_2682, k_2777, k_2844, k_2868, k_2880, k_3245, k_3250, k_9551, k_9999, k_65536, k_100000, k_999999, k_1000000, k_2147483647, lt_T, lt_F, le_T, le_F, eq_T, eq_F, ↓reduceIte, not_true_eq_false, not_false_eq_true, or_true, or_false, true_or, false_or, and_true, true_and, and_false, false_and, bI_f]
    · rw [if_neg h3]
      by_cases h2 : a = b
      · rw [decide_eq_true h2]; simp (disch := omega) only [iI_add, iI_sub, iI_mul, iI_neg, iI_nat, addm1, ixkI, ↓sbind, sbind, ↓bdS, bdS, ↓nm_eq, ↓jn_eq, iI_lt, iI_le, iI_eq, k_0, k_1, k_2, k_3, k_4, k_5, k_6, k_7, k_8, k_9, k_10, k_11, k_12, k_13, k_14, k_15, k_16, k_17, k_18, k_19, k_20, k_21, k_22, k_23, k_24, k_27, k_30, k_32, k_48, k_57, k_59, k_60, k_61, k_62, k_63, k_64, k_72, k_78, k_80, k_82, k_97, k_99, k_100, k_122, k_244, k_255, k_268, k_280, k_300, k_432, k_650, k_900, k_901, k_999, k_1700, k_2600, k_2601, k_2602, k_2603, k_2604, k_2610, k_2618, k_2682, k_2777, k_2844, k_2868, k_2880, k_3245, k_3250, k_9551, k_9999, k_65536, k_100000, k_999999, k_1000000, k_2147483647, lt_T, lt_F, le_T, le_F, eq_T, eq_F, ↓reduceIte, not_true_eq_false, not_false_eq_true, or_true, or_false, true_or, false_or, and_true, true_and, and_false, false_and, bI_t]
      · rw [decide_eq_false h2]; simp (disch := omega) only [iI_add, iI_sub, iI_mul, iI_neg, iI_nat, addm1, ixkI, ↓sbind, sbind, ↓bdS, bdS, ↓nm_eq, ↓jn_eq, iI_lt, iI_le, iI_eq, k_0, k_1, k_2, k_3, k_4, k_5, k_6, k_7, k_8, k_9, k_10, k_11, k_12, k_13, k_14, k_15, k_16, k_17, k_18, k_19, k_20, k_21, k_22, k_23, k_24, k_27, k_30, k_32, k_48, k_57, k_59, k_60, k_61, k_62, k_63, k_64, k_72, k_78, k_80, k_82, k_97, k_99, k_100, k_122, k_244, k_255, k_268, k_280, k_300, k_432, k_650, k_900, k_901, k_999, k_1700, k_2600, k_2601, k_2602, k_2603, k_2604, k_2610, k_2618, k_2682, k_2777, k_2844, k_2868, k_2880, k_3245, k_3250, k_9551, k_9999, k_65536, k_100000, k_999999, k_1000000, k_2147483647, lt_T, lt_F, le_T, le_F, eq_T, eq_F, ↓reduceIte, not_true_eq_false, not_false_eq_true, or_true, or_false, true_or, false_or, and_true, true_and, and_false, false_and, bI_f]
theorem c_holds (w : WF F) (G : GR g F M) (hY : YC y N Y M) (hN : N ≤ 60) {x : Int} (hx : 0 ≤ x ∧ x < N) (hk : 1700 ≤ Y x 0) (hw : WS F Y x) {φ : Nat} (hφ : 100 < φ) : fX3_holds φ y (iI x) g M = some (bI (s_holds F Y x)) := by
  obtain ⟨e1, e2, e3, e4, e5⟩ := hY.2 x hx.1 hx.2
  have e2 := e2 (by omega) (by omega) (by omega) (by omega)
  have e3 := e3 (by omega)
  have w0 := w.n0
  unfold fX3_holds s_holds
  by_cases h2 : Y x 0 = 1722
  · have hh : 0 ≤ Y x 1 ∧ Y x 1 < F 0 1 0 := by unfold WS at hw; omega
    have hr : 0 ≤ Y x 2 ∧ Y x 2 < F 0 0 0 := by unfold WS at hw; omega
    rw [show y_k (Y x 0) = 19 from by rw [h2]; rfl] at e1
    rw [show y_o Y x = Y x 2 from if_neg (by omega)] at e3
    have e6 := c_hasRock w G (r := Y x 2) (φ := φ) hh (by omega) hφ
    rw [if_pos h2]
    simp (disch := omega) only [iI_add, iI_sub, iI_mul, iI_neg, iI_nat, addm1, ixkI, ↓sbind, sbind, ↓bdS, bdS, ↓nm_eq, ↓jn_eq, iI_lt, iI_le, iI_eq, k_0, k_1, k_2, k_3, k_4, k_5, k_6, k_7, k_8, k_9, k_10, k_11, k_12, k_13, k_14, k_15, k_16, k_17, k_18, k_19, k_20, k_21, k_22, k_23, k_24, k_27, k_30, k_32, k_48, k_57, k_59, k_60, k_61, k_62, k_63, k_64, k_72, k_78, k_80, k_82, k_97, k_99, k_100, k_122, k_244, k_255, k_268, k_280, k_300, k_432, k_650, k_900, k_901, k_999, k_1700, k_2600, k_2601, k_2602, k_2603, k_2604, k_2610, k_2618, k_2682, k_2777, k_2844, k_2868, k_2880, k_3245, k_3250, k_9551, k_9999, k_65536, k_100000, k_999999, k_1000000, k_2147483647, lt_T, lt_F, le_T, le_F, eq_T, eq_F, ↓reduceIte, not_true_eq_false, not_false_eq_true, or_true, or_false, true_or, false_or, and_true, true_and, and_false, false_and, e1, e2, e3, e6, bI_01, if_true]
  · rw [if_neg h2]
    by_cases h3 : Y x 0 = 1723
    · have hh : 0 ≤ Y x 1 ∧ Y x 1 < F 0 1 0 := by unfold WS at hw; omega
      have hr : 0 ≤ Y x 2 ∧ Y x 2 < F 0 0 0 := by unfold WS at hw; omega
      rw [show y_k (Y x 0) = 20 from by rw [h3]; rfl] at e1
      rw [show y_o Y x = Y x 2 from if_neg (by omega)] at e3
      have e6 := c_hasRockOnTop w G (r := Y x 2) hh (by omega)
      rw [if_pos h3]
      simp (disch := omega) only [iI_add, iI_sub, iI_mul, iI_neg, iI_nat, addm1, ixkI, ↓sbind, sbind, ↓bdS, bdS, ↓nm_eq, ↓jn_eq, iI_lt, iI_le, iI_eq, k_0, k_1, k_2, k_3, k_4, k_5, k_6, k_7, k_8, k_9, k_10, k_11, k_12, k_13, k_14, k_15, k_16, k_17, k_18, k_19, k_20, k_21, k_22, k_23, k_24, k_27, k_30, k_32, k_48, k_57, k_59, k_60, k_61, k_62, k_63, k_64, k_72, k_78, k_80, k_82, k_97, k_99, k_100, k_122, k_244, k_255, k_268, k_280, k_300, k_432, k_650, k_900, k_901, k_999, k_1700, k_2600, k_2601, k_2602, k_2603, k_2604, k_2610, k_2618, k_2682, k_2777, k_2844, k_2868, k_2880, k_3245, k_3250, k_9551, k_9999, k_65536, k_100000, k_999999, k_1000000, k_2147483647, lt_T, lt_F, le_T, le_F, eq_T, eq_F, ↓reduceIte, not_true_eq_false, not_false_eq_true, or_true, or_false, true_or, false_or, and_true, true_and, and_false, false_and, e1, e2, e3, e6, bI_01, if_true]
    · have h4 : Y x 0 = 1721 := by unfold WS at hw; omega
      have hh : 0 ≤ Y x 1 ∧ Y x 1 < F 0 1 0 := by unfold WS at hw; omega
      have hr : 0 ≤ Y x 2 ∧ Y x 2 ≤ 9999 := by unfold WS at hw; omega
      have hs : 60 ≤ Y x 5 ∧ Y x 5 ≤ 62 := by unfold WS at hw; omega
      rw [show y_k (Y x 0) = 18 from by rw [h4]; rfl] at e1
      rw [show y_o Y x = Y x 5 from if_pos h4] at e3
      have e4 := e4 (by omega) (by omega) (by omega)
      rw [show y_n Y x = Y x 2 from by unfold y_n; rw [if_neg (by omega), if_neg (by omega)]] at e4
      have hn := w.nl hh
      have ht := w.top hh (n := F 3 (Y x 1) 2) ⟨hn.1, Int.le_refl _⟩
      have e6 := c_allThick w G (φ := φ) hh hφ
      have e7 := c_compares (M := M) (a := s_top F (Y x 1) (F 3 (Y x 1) 2)) (b := Y x 2) (s := Y x 5) (by omega) (by omega) hs
      rw [if_neg h3]
      simp (disch := omega) only [iI_add, iI_sub, iI_mul, iI_neg, iI_nat, addm1, ixkI, ↓sbind, sbind, ↓bdS, bdS, ↓nm_eq, ↓jn_eq, iI_lt, iI_le, iI_eq, k_0, k_1, k_2, k_3, k_4, k_5, k_6, k_7, k_8, k_9, k_10, k_11, k_12, k_13, k_14, k_15, k_16, k_17, k_18, k_19, k_20, k_21, k_22, k_23, k_24, k_27, k_30, k_32, k_48, k_57, k_59, k_60, k_61, k_62, k_63, k_64, k_72, k_78, k_80, k_82, k_97, k_99, k_100, k_122, k_244, k_255, k_268, k_280, k_300, k_432, k_650, k_900, k_901, k_999, k_1700, k_2600, k_2601, k_2602, k_2603, k_2604, k_2610, k_2618, k_2682, k_2777, k_2844, k_2868, k_2880, k_3245, k_3250, k_9551, k_9999, k_65536, k_100000, k_999999, k_1000000, k_2147483647, lt_T, lt_F, le_T, le_F, eq_T, eq_F, ↓reduceIte, not_true_eq_false, not_false_eq_true, or_true, or_false, true_or, false_or, and_true, true_and, and_false, false_and, e1, e2, e3, e4, e6, e7, bI_01, if_true]
theorem m_holds (w : WF F) (G : MR m 0 F M) (hY : YM m N Y M) (hN : N ≤ 60) {x : Int} (hx : 0 ≤ x ∧ x < N) (hk : 1700 ≤ Y x 0) (hw : WS F Y x) {φ : Nat} (hφ : 100 < φ) : fX11_holds φ m (iI (280 + 6 * x)) M = some (bI (s_holds F Y x)) := by
  have e0 := hY.at0 hx
  have e1 := hY.at (c := 1) hx (by omega)
  have e2 := hY.at (c := 2) hx (by omega)
  have e5 := hY.at (c := 5) hx (by omega)
  have w0 := w.n0
  have w1 := w.n1
  unfold fX11_holds s_holds
  by_cases h2 : Y x 0 = 1722
  · have hh : 0 ≤ Y x 1 ∧ Y x 1 < F 0 1 0 := by unfold WS at hw; omega
    have hr : 0 ≤ Y x 2 ∧ Y x 2 < F 0 0 0 := by unfold WS at hw; omega
    have e6 := m_hasRock w G (r := Y x 2) (φ := φ) hh (by omega) hφ
    rw [if_pos h2]
    simp (disch := omega) only [iI_add, iI_sub, iI_mul, iI_neg, iI_nat, addm1, ixkI, ↓sbind, sbind, ↓bdS, bdS, ↓nm_eq, ↓jn_eq, iI_lt, iI_le, iI_eq, k_0, k_1, k_2, k_3, k_4, k_5, k_6, k_7, k_8, k_9, k_10, k_11, k_12, k_13, k_14, k_15, k_16, k_17, k_18, k_19, k_20, k_21, k_22, k_23, k_24, k_27, k_30, k_32, k_48, k_57, k_59, k_60, k_61, k_62, k_63, k_64, k_72, k_78, k_80, k_82, k_97, k_99, k_100, k_122, k_244, k_255, k_268, k_280, k_300, k_432, k_650, k_900, k_901, k_999, k_1700, k_2600, k_2601, k_2602, k_2603, k_2604, k_2610, k_2618, k_2682, k_2777, k_2844, k_2868, k_2880, k_3245, k_3250, k_9551, k_9999, k_65536, k_100000, k_999999, k_1000000, k_2147483647, lt_T, lt_F, le_T, le_F, eq_T, eq_F, ↓reduceIte, not_true_eq_false, not_false_eq_true, or_true, or_false, true_or, false_or, and_true, true_and, and_false, false_and, e0, e1, e2, e6, bI_01, if_true]
  · rw [if_neg h2]
    by_cases h3 : Y x 0 = 1723
    · have hh : 0 ≤ Y x 1 ∧ Y x 1 < F 0 1 0 := by unfold WS at hw; omega
      have hr : 0 ≤ Y x 2 ∧ Y x 2 < F 0 0 0 := by unfold WS at hw; omega
      have hn := w.nl hh
      have e6 := m_layersOf G (h := Y x 1) (by omega)
      have e7 := m_rockOf G (h := Y x 1) (l := 0) (by omega) (by omega)
      rw [if_pos h3]
      unfold s_onTop
      by_cases h5 : 0 < F 3 (Y x 1) 2
      · have b4 := w.rk hh (l := 0) ⟨by omega, h5⟩
        by_cases h6 : F 4 (Y x 1) 0 = Y x 2
        · rw [decide_eq_true ⟨h5, h6⟩]
          simp (disch := omega) only [iI_add, iI_sub, iI_mul, iI_neg, iI_nat, addm1, ixkI, ↓sbind, sbind, ↓bdS, bdS, ↓nm_eq, ↓jn_eq, iI_lt, iI_le, iI_eq, k_0, k_1, k_2, k_3, k_4, k_5, k_6, k_7, k_8, k_9, k_10, k_11, k_12, k_13, k_14, k_15, k_16, k_17, k_18, k_19, k_20, k_21, k_22, k_23, k_24, k_27, k_30, k_32, k_48, k_57, k_59, k_60, k_61, k_62, k_63, k_64, k_72, k_78, k_80, k_82, k_97, k_99, k_100, k_122, k_244, k_255, k_268, k_280, k_300, k_432, k_650, k_900, k_901, k_999, k_1700, k_2600, k_2601, k_2602, k_2603, k_2604, k_2610, k_2618, k_2682, k_2777, k_2844, k_2868, k_2880, k_3245, k_3250, k_9551, k_9999, k_65536, k_100000, k_999999, k_1000000, k_2147483647, lt_T, lt_F, le_T, le_F, eq_T, eq_F, ↓reduceIte, not_true_eq_false, not_false_eq_true, or_true, or_false, true_or, false_or, and_true, true_and, and_false, false_and, e0, e1, e2, e6, e7, bI_t]
        · rw [decide_eq_false (fun q => h6 q.2)]
          simp (disch := omega) only [iI_add, iI_sub, iI_mul, iI_neg, iI_nat, addm1, ixkI, ↓sbind, sbind, ↓bdS, bdS, ↓nm_eq, ↓jn_eq, iI_lt, iI_le, iI_eq, k_0, k_1, k_2, k_3, k_4, k_5, k_6, k_7, k_8, k_9, k_10, k_11, k_12, k_13, k_14, k_15, k_16, k_17, k_18, k_19, k_20, k_21, k_22, k_23, k_24, k_27, k_30, k_32, k_48, k_57, k_59, k_60, k_61, k_62, k_63, k_64, k_72, k_78, k_80, k_82, k_97, k_99, k_100, k_122, k_244, k_255, k_268, k_280, k_300, k_432, k_650, k_900, k_901, k_999, k_1700, k_2600, k_2601, k_2602, k_2603, k_2604, k_2610, k_2618, k_2682, k_2777, k_2844, k_2868, k_2880, k_3245, k_3250, k_9551, k_9999, k_65536, k_100000, k_999999, k_1000000, k_2147483647, lt_T, lt_F, le_T, le_F, eq_T, eq_F, ↓reduceIte, not_true_eq_false, not_false_eq_true, or_true, or_false, true_or, false_or, and_true, true_and, and_false, false_and, e0, e1, e2, e6, e7, bI_f]
      · rw [decide_eq_false (fun q => h5 q.1)]
        simp (disch := omega) only [iI_add, iI_sub, iI_mul, iI_neg, iI_nat, addm1, ixkI, ↓sbind, sbind, ↓bdS, bdS, ↓nm_eq, ↓jn_eq, iI_lt, iI_le, iI_eq, k_0, k_1, k_2, k_3, k_4, k_5, k_6, k_7, k_8, k_9, k_10, k_11, k_12, k_13, k_14, k_15, k_16, k_17, k_18, k_19, k_20, k_21, k_22, k_23, k_24, k_27, k_30, k_32, k_48, k_57, k_59, k_60, k_61, k_62, k_63, k_64, k_72, k_78, k_80, k_82, k_97, k_99, k_100, k_122, k_244, k_255, k_268, k_280, k_300, k_432, k_650, k_900, k_901, k_999, k_1700, k_2600, k_2601, k_2602, k_2603, k_2604, k_2610, k_2618, k_2682, k_2777, k_2844, k_2868, k_2880, k_3245, k_3250, k_9551, k_9999, k_65536, k_100000, k_999999, k_1000000, k_2147483647, lt_T, lt_F, le_T, le_F, eq_T, eq_F, ↓reduceIte, not_true_eq_false, not_false_eq_true, or_true, or_false, true_or, false_or, and_true, true_and, and_false, false_and, e0, e1, e2, e6, bI_f]
    · have h4 : Y x 0 = 1721 := by unfold WS at hw; omega
      have hh : 0 ≤ Y x 1 ∧ Y x 1 < F 0 1 0 := by unfold WS at hw; omega
      have hr : 0 ≤ Y x 2 ∧ Y x 2 ≤ 9999 := by unfold WS at hw; omega
      have hs : 60 ≤ Y x 5 ∧ Y x 5 ≤ 62 := by unfold WS at hw; omega
      have hn := w.nl hh
      have ht := w.top hh (n := F 3 (Y x 1) 2) ⟨hn.1, Int.le_refl _⟩
      have e6 := m_layersOf G (h := Y x 1) (by omega)
      have e7 := m_allThick w G (h := Y x 1) (k := F 3 (Y x 1) 2) (φ := φ) hh ⟨hn.1, Int.le_refl _⟩ hφ
      rw [if_neg h3]
      by_cases h5 : Y x 5 = 60
      · rw [if_pos h5]
        by_cases h6 : s_top F (Y x 1) (F 3 (Y x 1) 2) < Y x 2
        · rw [decide_eq_true h6]
          simp (disch := omega) only [iI_add, iI_sub, iI_mul, iI_neg, iI_nat, addm1, ixkI, ↓sbind, sbind, ↓bdS, bdS, ↓nm_eq, ↓jn_eq, iI_lt, iI_le, iI_eq, k_0, k_1, k_2, k_3, k_4, k_5, k_6, k_7, k_8, k_9, k_10, k_11, k_12, k_13, k_14, k_15, k_16, k_17, k_18, k_19, k_20, k_21, k_22, k_23, k_24, k_27, k_30, k_32, k_48, k_57, k_59, k_60, k_61, k_62, k_63, k_64, k_72, k_78, k_80, k_82, k_97, k_99, k_100, k_122, k_244, k_255, k_268, k_280, k_300, k_432, k_650, k_900, k_901, k_999, k_1700, k_2600, k_2601, k_2602, k_2603, k_2604, k_2610, k_2618, k_2682, k_2777, k_2844, k_2868, k_2880, k_3245, k_3250, k_9551, k_9999, k_65536, k_100000, k_999999, k_1000000, k_2147483647, lt_T, lt_F, le_T, le_F, eq_T, eq_F, ↓reduceIte, not_true_eq_false, not_false_eq_true, or_true, or_false, true_or, false_or, and_true, true_and, and_false, false_and, e0, e1, e2, e5, e6, e7, bI_t]
        · rw [decide_eq_false h6]
          simp (disch := omega) only [iI_add, iI_sub, iI_mul, iI_neg, iI_nat, addm1, ixkI, ↓sbind, sbind, ↓bdS, bdS, ↓nm_eq, ↓jn_eq, iI_lt, iI_le, iI_eq, k_0, k_1, k_2, k_3, k_4, k_5, k_6, k_7, k_8, k_9, k_10, k_11, k_12, k_13, k_14, k_15, k_16, k_17, k_18, k_19, k_20, k_21, k_22, k_23, k_24, k_27, k_30, k_32, k_48, k_57, k_59, k_60, k_61, k_62, k_63, k_64, k_72, k_78, k_80, k_82, k_97, k_99, k_100, k_122, k_244, k_255, k_268, k_280, k_300, k_432, k_650, k_900, k_901, k_999, k_1700, k_2600, k_2601, k_2602, k_2603, k_2604, k_2610, k_2618, k_2682, k_2777, k_2844, k_2868, k_2880, k_3245, k_3250, k_9551, k_9999, k_65536, k_100000, k_999999, k_1000000, k_2147483647, lt_T, lt_F, le_T, le_F, eq_T, eq_F, ↓reduceIte, not_true_eq_false, not_false_eq_true, or_true, or_false, true_or, false_or, and_true, true_and, and_false, false_and, e0, e1, e2, e5, e6, e7, bI_f]
      · rw [if_neg h5]
        by_cases h7 : Y x 5 = 62
        · rw [if_pos h7]
          by_cases h6 : Y x 2 < s_top F (Y x 1) (F 3 (Y x 1) 2)
          · rw [decide_eq_true h6]
            simp (disch := omega) only [iI_add, iI_sub, iI_mul, iI_neg, iI_nat, addm1, ixkI, ↓sbind, sbind, ↓bdS, bdS, ↓nm_eq, ↓jn_eq, iI_lt, iI_le, iI_eq, k_0, k_1, k_2, k_3, k_4, k_5, k_6, k_7, k_8, k_9, k_10, k_11, k_12, k_13, k_14, k_15, k_16, k_17, k_18, k_19, k_20, k_21, k_22, k_23, k_24, k_27, k_30, k_32, k_48, k_57, k_59, k_60, k_61, k_62, k_63, k_64, k_72, k_78, k_80, k_82, k_97, k_99, k_100, k_122, k_244, k_255, k_268, k_280, k_300, k_432, k_650, k_900, k_901, k_999, k_1700, k_2600, k_2601, k_2602, k_2603, k_2604, k_2610, k_2618, k_2682, k_2777, k_2844, k_2868, k_2880, k_3245, k_3250, k_9551, k_9999, k_65536, k_100000, k_999999, k_1000000, k_2147483647, lt_T, lt_F, le_T, le_F, eq_T, eq_F, ↓reduceIte, not_true_eq_false, not_false_eq_true, or_true, or_false, true_or, false_or, and_true, true_and, and_false, false_and, e0, e1, e2, e5, e6, e7, bI_t]
          · rw [decide_eq_false h6]
            simp (disch := omega) only [iI_add, iI_sub, iI_mul, iI_neg, iI_nat, addm1, ixkI, ↓sbind, sbind, ↓bdS, bdS, ↓nm_eq, ↓jn_eq, iI_lt, iI_le, iI_eq, k_0, k_1, k_2, k_3, k_4, k_5, k_6, k_7, k_8, k_9, k_10, k_11, k_12, k_13, k_14, k_15, k_16, k_17, k_18, k_19, k_20, k_21, k_22, k_23, k_24, k_27, k_30, k_32, k_48, k_57, k_59, k_60, k_61, k_62, k_63, k_64, k_72, k_78, k_80, k_82, k_97, k_99, k_100, k_122, k_244, k_255, k_268, k_280, k_300, k_432, k_650, k_900, k_901, k_999, k_1700, k_2600, k_2601, k_2602, k_2603, k_2604, k_2610, k_2618, k_2682, k_2777, k_2844, k_2868, k_2880, k_3245, k_3250, k_9551, k_9999, k_65536, k_100000, k_999999, k_1000000, k_2147483647, lt_T, lt_F, le_T, le_F, eq_T, eq_F, ↓reduceIte, not_true_eq_false, not_false_eq_true, or_true, or_false, true_or, false_or, and_true, true_and, and_false, false_and, e0, e1, e2, e5, e6, e7, bI_f]
        · rw [if_neg h7]
          by_cases h6 : s_top F (Y x 1) (F 3 (Y x 1) 2) = Y x 2
          · rw [decide_eq_true h6]
            simp (disch := omega) only [iI_add, iI_sub, iI_mul, iI_neg, iI_nat, addm1, ixkI, ↓sbind, sbind, ↓bdS, bdS, ↓nm_eq, ↓jn_eq, iI_lt, iI_le, iI_eq, k_0, k_1, k_2, k_3, k_4, k_5, k_6, k_7, k_8, k_9, k_10, k_11, k_12, k_13, k_14, k_15, k_16, k_17, k_18, k_19, k_20, k_21, k_22, k_23, k_24, k_27, k_30, k_32, k_48, k_57, k_59, k_60, k_61, k_62, k_63, k_64, k_72, k_78, k_80, k_82, k_97, k_99, k_100, k_122, k_244, k_255, k_268, k_280, k_300, k_432, k_650, k_900, k_901, k_999, k_1700, k_2600, k_2601, k_2602, k_2603, k_2604, k_2610, k_2618, k_2682, k_2777, k_2844, k_2868, k_2880, k_3245, k_3250, k_9551, k_9999, k_65536, k_100000, k_999999, k_1000000, k_2147483647, lt_T, lt_F, le_T, le_F, eq_T, eq_F, ↓reduceIte, not_true_eq_false, not_false_eq_true, or_true, or_false, true_or, false_or, and_true, true_and, and_false, false_and, e0, e1, e2, e5, e6, e7, bI_t]
          · rw [decide_eq_false h6]
            simp (disch := omega) only [iI_add, iI_sub, iI_mul, iI_neg, iI_nat, addm1, ixkI, ↓sbind, sbind, ↓bdS, bdS, ↓nm_eq, ↓jn_eq, iI_lt, iI_le, iI_eq, k_0, k_1, k_2, k_3, k_4, k_5, k_6, k_7, k_8, k_9, k_10, k_11, k_12, k_13, k_14, k_15, k_16, k_17, k_18, k_19, k_20, k_21, k_22, k_23, k_24, k_27, k_30, k_32, k_48, k_57, k_59, k_60, k_61, k_62, k_63, k_64, k_72, k_78, k_80, k_82, k_97, k_99, k_100, k_122, k_244, k_255, k_268, k_280, k_300, k_432, k_650, k_900, k_901, k_999, k_1700, k_2600, k_2601, k_2602, k_2603, k_2604, k_2610, k_2618, k_2682, k_2777, k_2844, k_2868, k_2880, k_3245, k_3250, k_9551, k_9999, k_65536, k_100000, k_999999, k_1000000, k_2147483647, lt_T, lt_F, le_T, le_F, eq_T, eq_F, ↓reduceIte, not_true_eq_false, not_false_eq_true, or_true, or_false, true_or, false_or, and_true, true_and, and_false, false_and, e0, e1, e2, e5, e6, e7, bI_f]
end YS
