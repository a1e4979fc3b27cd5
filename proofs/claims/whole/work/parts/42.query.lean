/-! questions to the field, on both sides -/
theorem iI_ite {c : Prop} [Decidable c] (a b : Int) : (if c then iI a else iI b) = iI (if c then a else b) := by by_cases h : c <;> simp only [h, if_true, if_false]
theorem lI_ite {c : Prop} [Decidable c] (a b : Int) : (if c then lI a else lI b) = lI (if c then a else b) := by by_cases h : c <;> simp only [h, if_true, if_false]
def s_in (a n : Int) : Bool := decide (0 ≤ a ∧ a < n)
theorem s_in_t {a n : Int} (h : 0 ≤ a ∧ a < n) : s_in a n = true := decide_eq_true h
theorem s_in_f {a n : Int} (h : ¬ (0 ≤ a ∧ a < n)) : s_in a n = false := decide_eq_false h
theorem if_yes {c : Prop} [Decidable c] : (if c then some (iI 1) else some (iI 0)) = some (bI (decide c)) := by by_cases h : c <;> simp [h, bI]
theorem if_no {c : Prop} [Decidable c] : (if c then some (iI 0) else some (iI 1)) = some (bI (!decide c)) := by by_cases h : c <;> simp [h, bI]
section QC
variable {g : Nat} {F : Fld} {M : Mem}
theorem c_isRock (w : WF F) (G : GR g F M) {a : Int} (ha : -2147483648 ≤ a ∧ a < 2147483648) : fX2_isRock g (iI a) M = some (bI (s_in a (F 0 0 0))) := by
  have h0 := w.n0
  unfold fX2_isRock
  simp (disch := omega) only [iI_add, iI_sub, iI_mul, iI_neg, iI_nat, addm1, ixkI, ↓sbind, sbind, ↓bdS, bdS, ↓nm_eq, ↓jn_eq, iI_lt, iI_le, iI_eq, k_0, k_1, k_2, k_3, k_4, k_5, k_6, k_7, k_8, k_9, k_10, k_11, k_12, k_13, k_14, k_15, k_16, k_17, k_18, k_19, k_20, k_21, k_22, k_23, k_24, k_27, k_30, k_32, k_48, k_57, k_59, k_60, k_61, k_62, k_63, k_64, k_72, k_78, k_80, k_82, k_97, k_99, k_100, k_122, k_244, k_255, k_268, k_280, k_300, k_432, k_650, k_900, k_901, k_999, k_1700, k_2600, k_2601, k_2602, k_2603, k_2604, k_2610, k_2618, k_2682, k_2777, k_2844, k_2868, k_2880, k_3245, k_3250, k_9551, k_9999, k_65536, k_100000, k_999999, k_1000000, k_2147483647, G.n0]
  by_cases h1 : a < 0
  · rw [if_pos h1, s_in_f (by omega)]; rfl
  · rw [if_neg h1]
    by_cases h2 : F 0 0 0 ≤ a
    · rw [if_pos h2, s_in_f (by omega)]; rfl
    · rw [if_neg h2, s_in_t (by omega)]; rfl
theorem c_isHole (w : WF F) (G : GR g F M) {a : Int} (ha : -2147483648 ≤ a ∧ a < 2147483648) : fX2_isHole g (iI a) M = some (bI (s_in a (F 0 1 0))) := by
  have h0 := w.n1
  unfold fX2_isHole
  simp (disch := omega) only [iI_add, iI_sub, iI_mul, iI_neg, iI_nat, addm1, ixkI, ↓sbind, sbind, ↓bdS, bdS, ↓nm_eq, ↓jn_eq, iI_lt, iI_le, iI_eq, k_0, k_1, k_2, k_3, k_4, k_5, k_6, k_7, k_8, k_9, k_10, k_11, k_12, k_13, k_14, k_15, k_16, k_17, k_18, k_19, k_20, k_21, k_22, k_23, k_24, k_27, k_30, k_32, k_48, k_57, k_59, k_60, k_61, k_62, k_63, k_64, k_72, k_78, k_80, k_82, k_97, k_99, k_100, k_122, k_244, k_255, k_268, k_280, k_300, k_432, k_650, k_900, k_901, k_999, k_1700, k_2600, k_2601, k_2602, k_2603, k_2604, k_2610, k_2618, k_2682, k_2777, k_2844, k_2868, k_2880, k_3245, k_3250, k_9551, k_9999, k_65536, k_100000, k_999999, k_1000000, k_2147483647, G.n1]
  by_cases h1 : a < 0
  · rw [if_pos h1, s_in_f (by omega)]; rfl
  · rw [if_neg h1]
    by_cases h2 : F 0 1 0 ≤ a
    · rw [if_pos h2, s_in_f (by omega)]; rfl
    · rw [if_neg h2, s_in_t (by omega)]; rfl
theorem c_isTriangle (w : WF F) (G : GR g F M) {a : Int} (ha : -2147483648 ≤ a ∧ a < 2147483648) : fX2_isTriangle g (iI a) M = some (bI (s_in a (F 0 2 0))) := by
  have h0 := w.n2
  unfold fX2_isTriangle
  simp (disch := omega) only [iI_add, iI_sub, iI_mul, iI_neg, iI_nat, addm1, ixkI, ↓sbind, sbind, ↓bdS, bdS, ↓nm_eq, ↓jn_eq, iI_lt, iI_le, iI_eq, k_0, k_1, k_2, k_3, k_4, k_5, k_6, k_7, k_8, k_9, k_10, k_11, k_12, k_13, k_14, k_15, k_16, k_17, k_18, k_19, k_20, k_21, k_22, k_23, k_24, k_27, k_30, k_32, k_48, k_57, k_59, k_60, k_61, k_62, k_63, k_64, k_72, k_78, k_80, k_82, k_97, k_99, k_100, k_122, k_244, k_255, k_268, k_280, k_300, k_432, k_650, k_900, k_901, k_999, k_1700, k_2600, k_2601, k_2602, k_2603, k_2604, k_2610, k_2618, k_2682, k_2777, k_2844, k_2868, k_2880, k_3245, k_3250, k_9551, k_9999, k_65536, k_100000, k_999999, k_1000000, k_2147483647, G.n2]
  by_cases h1 : a < 0
  · rw [if_pos h1, s_in_f (by omega)]; rfl
  · rw [if_neg h1]
    by_cases h2 : F 0 2 0 ≤ a
    · rw [if_pos h2, s_in_f (by omega)]; rfl
    · rw [if_neg h2, s_in_t (by omega)]; rfl
theorem c_isFault (w : WF F) (G : GR g F M) {a : Int} (ha : -2147483648 ≤ a ∧ a < 2147483648) : fX2_isFault g (iI a) M = some (bI (s_in a (F 0 3 0))) := by
  have h0 := w.n3
  unfold fX2_isFault
  simp (disch := omega) only [iI_add, iI_sub, iI_mul, iI_neg, iI_nat, addm1, ixkI, ↓sbind, sbind, ↓bdS, bdS, ↓nm_eq, ↓jn_eq, iI_lt, iI_le, iI_eq, k_0, k_1, k_2, k_3, k_4, k_5, k_6, k_7, k_8, k_9, k_10, k_11, k_12, k_13, k_14, k_15, k_16, k_17, k_18, k_19, k_20, k_21, k_22, k_23, k_24, k_27, k_30, k_32, k_48, k_57, k_59, k_60, k_61, k_62, k_63, k_64, k_72, k_78, k_80, k_82, k_97, k_99, k_100, k_122, k_244, k_255, k_268, k_280, k_300, k_432, k_650, k_900, k_901, k_999, k_1700, k_2600, k_2601, k_2602, k_2603, k_2604, k_2610, k_2618, k_2682, k_2777, k_2844, k_2868, k_2880, k_3245, k_3250, k_9551, k_9999, k_65536, k_100000, k_999999, k_1000000, k_2147483647, G.n3]
  by_cases h1 : a < 0
  · rw [if_pos h1, s_in_f (by omega)]; rfl
  · rw [if_neg h1]
    by_cases h2 : F 0 3 0 ≤ a
    · rw [if_pos h2, s_in_f (by omega)]; rfl
    · rw [if_neg h2, s_in_t (by omega)]; rfl
def s_lay (F : Fld) (h l : Int) : Bool := decide ((0 ≤ h ∧ h < F 0 1 0) ∧ 0 ≤ l ∧ l < F 3 h 2)
theorem c_isLayer (w : WF F) (G : GR g F M) {h l : Int} (ha : -2147483648 ≤ h ∧ h < 2147483648) (hb : -2147483648 ≤ l ∧ l < 2147483648) : fX2_isLayer g (iI h) (iI l) M = some (bI (s_lay F h l)) := by
  have h0 := w.n1
  unfold fX2_isLayer s_lay
  rw [c_isHole w G ha]
  by_cases hh : 0 ≤ h ∧ h < F 0 1 0
  · have h1 := w.nl hh
    rw [s_in_t hh]
    simp (disch := omega) only [iI_add, iI_sub, iI_mul, iI_neg, iI_nat, addm1, ixkI, ↓sbind, sbind, ↓bdS, bdS, ↓nm_eq, ↓jn_eq, iI_lt, iI_le, iI_eq, k_0, k_1, k_2, k_3, k_4, k_5, k_6, k_7, k_8, k_9, k_10, k_11, k_12, k_13, k_14, k_15, k_16, k_17, k_18, k_19, k_20, k_21, k_22, k_23, k_24, k_27, k_30, k_32, k_48, k_57, k_59, k_60, k_61, k_62, k_63, k_64, k_72, k_78, k_80, k_82, k_97, k_99, k_100, k_122, k_244, k_255, k_268, k_280, k_300, k_432, k_650, k_900, k_901, k_999, k_1700, k_2600, k_2601, k_2602, k_2603, k_2604, k_2610, k_2618, k_2682, k_2777, k_2844, k_2868, k_2880, k_3245, k_3250, k_9551, k_9999, k_65536, k_100000, k_999999, k_1000000, k_2147483647, lt_T, lt_F, le_T, le_F, eq_T, eq_F, ↓reduceIte, not_true_eq_false, not_false_eq_true, or_true, or_false, true_or, false_or, and_true, true_and, and_false, false_and, bI_t, G.nl]
    by_cases h2 : l < 0
    · rw [if_pos h2, decide_eq_false (by omega)]; rfl
    · rw [if_neg h2]
      by_cases h3 : F 3 h 2 ≤ l
      · rw [if_pos h3, decide_eq_false (by omega)]; rfl
      · rw [if_neg h3, decide_eq_true (by omega)]; rfl
  · rw [s_in_f hh, decide_eq_false (fun q => hh q.1)]
    simp only [sbind, bI_f, k_0, if_true]
theorem c_costOfTwo (w : WF F) (G : GR g F M) {a b : Int} (ha : 0 ≤ a ∧ a < F 0 0 0) (hb : 0 ≤ b ∧ b < F 0 0 0) : fX2_costOfTwo g (iI a) (iI b) M = some (iI (F 2 a b)) := by
  have h0 := w.n0
  unfold fX2_costOfTwo
  simp (disch := omega) only [iI_add, iI_sub, iI_mul, iI_neg, iI_nat, addm1, ixkI, ↓sbind, sbind, ↓bdS, bdS, ↓nm_eq, ↓jn_eq, iI_lt, iI_le, iI_eq, k_0, k_1, k_2, k_3, k_4, k_5, k_6, k_7, k_8, k_9, k_10, k_11, k_12, k_13, k_14, k_15, k_16, k_17, k_18, k_19, k_20, k_21, k_22, k_23, k_24, k_27, k_30, k_32, k_48, k_57, k_59, k_60, k_61, k_62, k_63, k_64, k_72, k_78, k_80, k_82, k_97, k_99, k_100, k_122, k_244, k_255, k_268, k_280, k_300, k_432, k_650, k_900, k_901, k_999, k_1700, k_2600, k_2601, k_2602, k_2603, k_2604, k_2610, k_2618, k_2682, k_2777, k_2844, k_2868, k_2880, k_3245, k_3250, k_9551, k_9999, k_65536, k_100000, k_999999, k_1000000, k_2147483647, G.cp]
theorem c_slot (a b : Int) : fX10_slot (iI a) (iI b) M = some (iI (a * 12 + b)) := by
  unfold fX10_slot
  simp only [iI_add, iI_sub, iI_mul, iI_neg, iI_nat, addm1, ixkI, ↓sbind, sbind, ↓bdS, bdS, ↓nm_eq, ↓jn_eq, iI_lt, iI_le, iI_eq, k_0, k_1, k_2, k_3, k_4, k_5, k_6, k_7, k_8, k_9, k_10, k_11, k_12, k_13, k_14, k_15, k_16, k_17, k_18, k_19, k_20, k_21, k_22, k_23, k_24, k_27, k_30, k_32, k_48, k_57, k_59, k_60, k_61, k_62, k_63, k_64, k_72, k_78, k_80, k_82, k_97, k_99, k_100, k_122, k_244, k_255, k_268, k_280, k_300, k_432, k_650, k_900, k_901, k_999, k_1700, k_2600, k_2601, k_2602, k_2603, k_2604, k_2610, k_2618, k_2682, k_2777, k_2844, k_2868, k_2880, k_3245, k_3250, k_9551, k_9999, k_65536, k_100000, k_999999, k_1000000, k_2147483647]
theorem c_thickAbove (w : WF F) (G : GR g F M) {h k : Int} {φ : Nat} (hh : 0 ≤ h ∧ h < F 0 1 0) (hk : 0 ≤ k ∧ k ≤ F 3 h 2) (hφ : 100 < φ) : fX2_thickAbove φ g (iI h) (iI k) M = some (iI (s_top F h k)) := by
  have h0 := w.n1
  have h1 := w.nl hh
  have key := lup (N := k) (P := fun n i => lX2_thickAbove_5 g (iI h) (iI k) M n (iI (s_top F h i)) (iI i) = some (iI (s_top F h k)))
    (fun n => by
      rw [lX2_thickAbove_5_s]
      simp (disch := omega) only [iI_add, iI_sub, iI_mul, iI_neg, iI_nat, addm1, ixkI, ↓sbind, sbind, ↓bdS, bdS, ↓nm_eq, ↓jn_eq, iI_lt, iI_le, iI_eq, k_0, k_1, k_2, k_3, k_4, k_5, k_6, k_7, k_8, k_9, k_10, k_11, k_12, k_13, k_14, k_15, k_16, k_17, k_18, k_19, k_20, k_21, k_22, k_23, k_24, k_27, k_30, k_32, k_48, k_57, k_59, k_60, k_61, k_62, k_63, k_64, k_72, k_78, k_80, k_82, k_97, k_99, k_100, k_122, k_244, k_255, k_268, k_280, k_300, k_432, k_650, k_900, k_901, k_999, k_1700, k_2600, k_2601, k_2602, k_2603, k_2604, k_2610, k_2618, k_2682, k_2777, k_2844, k_2868, k_2880, k_3245, k_3250, k_9551, k_9999, k_65536, k_100000, k_999999, k_1000000, k_2147483647, lt_T, lt_F, le_T, le_F, eq_T, eq_F, ↓reduceIte, not_true_eq_false, not_false_eq_true, or_true, or_false, true_or, false_or, and_true, true_and, and_false, false_and])
    (fun n i a b ih => by
      rw [lX2_thickAbove_5_s]
      simp (disch := omega) only [iI_add, iI_sub, iI_mul, iI_neg, iI_nat, addm1, ixkI, ↓sbind, sbind, ↓bdS, bdS, ↓nm_eq, ↓jn_eq, iI_lt, iI_le, iI_eq, k_0, k_1, k_2, k_3, k_4, k_5, k_6, k_7, k_8, k_9, k_10, k_11, k_12, k_13, k_14, k_15, k_16, k_17, k_18, k_19, k_20, k_21, k_22, k_23, k_24, k_27, k_30, k_32, k_48, k_57, k_59, k_60, k_61, k_62, k_63, k_64, k_72, k_78, k_80, k_82, k_97, k_99, k_100, k_122, k_244, k_255, k_268, k_280, k_300, k_432, k_650, k_900, k_901, k_999, k_1700, k_2600, k_2601, k_2602, k_2603, k_2604, k_2610, k_2618, k_2682, k_2777, k_2844, k_2868, k_2880, k_3245, k_3250, k_9551, k_9999, k_65536, k_100000, k_999999, k_1000000, k_2147483647, lt_T, lt_F, le_T, le_F, eq_T, eq_F, ↓reduceIte, not_true_eq_false, not_false_eq_true, or_true, or_false, true_or, false_or, and_true, true_and, and_false, false_and, c_slot, G.th]
      rw [← ih]
      unfold s_top
      rw [sm_s _ a])
    φ 0 (by omega) (by omega) (by omega)
  unfold fX2_thickAbove
  simp only [k_0]
  exact key
theorem c_allThick (w : WF F) (G : GR g F M) {h : Int} {φ : Nat} (hh : 0 ≤ h ∧ h < F 0 1 0) (hφ : 100 < φ) : fX2_allThick φ g (iI h) M = some (iI (s_top F h (F 3 h 2))) := by
  have h0 := w.n1
  have h1 := w.nl hh
  unfold fX2_allThick
  simp (disch := omega) only [iI_add, iI_sub, iI_mul, iI_neg, iI_nat, addm1, ixkI, ↓sbind, sbind, ↓bdS, bdS, ↓nm_eq, ↓jn_eq, iI_lt, iI_le, iI_eq, k_0, k_1, k_2, k_3, k_4, k_5, k_6, k_7, k_8, k_9, k_10, k_11, k_12, k_13, k_14, k_15, k_16, k_17, k_18, k_19, k_20, k_21, k_22, k_23, k_24, k_27, k_30, k_32, k_48, k_57, k_59, k_60, k_61, k_62, k_63, k_64, k_72, k_78, k_80, k_82, k_97, k_99, k_100, k_122, k_244, k_255, k_268, k_280, k_300, k_432, k_650, k_900, k_901, k_999, k_1700, k_2600, k_2601, k_2602, k_2603, k_2604, k_2610, k_2618, k_2682, k_2777, k_2844, k_2868, k_2880, k_3245, k_3250, k_9551, k_9999, k_65536, k_100000, k_999999, k_1000000, k_2147483647, G.nl]
  rw [c_thickAbove w G hh (by omega) hφ]
  rfl
theorem c_isOnRight (w : WF F) (G : GR g F M) {f h : Int} (hf : 0 ≤ f ∧ f < F 0 3 0) (hh : 0 ≤ h ∧ h < F 0 1 0) : fX2_isOnRight g (iI f) (iI h) M = some (bI (s_right F f h)) := by
  have h0 := w.n1
  have h3 := w.n3
  have b0 := w.fl hf (k := 0) (by omega)
  have b1 := w.fl hf (k := 1) (by omega)
  have b2 := w.fl hf (k := 2) (by omega)
  have b3 := w.fl hf (k := 3) (by omega)
  have tb := tw_bd b0 b1 b2 b3 (w.x hh) (w.y hh)
  have e0 := G.fl (f := f) (k := 0) ⟨hf, by omega⟩
  rw [Int.add_zero] at e0
  unfold fX2_isOnRight fX2_turnOf
  simp (disch := omega) only [iI_add, iI_sub, iI_mul, iI_neg, iI_nat, addm1, ixkI, ↓sbind, sbind, ↓bdS, bdS, ↓nm_eq, ↓jn_eq, iI_lt, iI_le, iI_eq, k_0, k_1, k_2, k_3, k_4, k_5, k_6, k_7, k_8, k_9, k_10, k_11, k_12, k_13, k_14, k_15, k_16, k_17, k_18, k_19, k_20, k_21, k_22, k_23, k_24, k_27, k_30, k_32, k_48, k_57, k_59, k_60, k_61, k_62, k_63, k_64, k_72, k_78, k_80, k_82, k_97, k_99, k_100, k_122, k_244, k_255, k_268, k_280, k_300, k_432, k_650, k_900, k_901, k_999, k_1700, k_2600, k_2601, k_2602, k_2603, k_2604, k_2610, k_2618, k_2682, k_2777, k_2844, k_2868, k_2880, k_3245, k_3250, k_9551, k_9999, k_65536, k_100000, k_999999, k_1000000, k_2147483647, e0, G.fl, G.x, G.y]
  have e : (F 7 f 2 - F 7 f 0) * (F 3 h 1 - F 7 f 1) - (F 3 h 0 - F 7 f 0) * (F 7 f 3 - F 7 f 1) = tw (F 7 f 0) (F 7 f 1) (F 7 f 2) (F 7 f 3) (F 3 h 0) (F 3 h 1) := by
    unfold tw
    rw [Int.mul_comm (F 3 h 0 - F 7 f 0)]
  rw [e]
  simp (disch := omega) only [iI_le]
  rw [if_no]
  unfold s_right
  congr 2
  by_cases hc : 0 ≤ tw (F 7 f 0) (F 7 f 1) (F 7 f 2) (F 7 f 3) (F 3 h 0) (F 3 h 1)
  · rw [decide_eq_true hc, decide_eq_false (by omega)]; rfl
  · rw [decide_eq_false hc, decide_eq_true (by omega)]; rfl
theorem c_thrownDown (w : WF F) (G : GR g F M) {h : Int} {φ : Nat} (hh : 0 ≤ h ∧ h < F 0 1 0) (hφ : 100 < φ) : fX2_thrownDown φ g (iI h) M = some (iI (s_thrown F h)) := by
  have h3 := w.n3
  have key := lup (N := F 0 3 0) (P := fun n i => lX2_thrownDown_4 g (iI h) M n (iI (sm (fun f => if s_right F f h then F 7 f 4 else 0) i)) (iI i) = some (iI (s_thrown F h)))
    (fun n => by
      rw [lX2_thrownDown_4_s]
      simp (disch := omega) only [iI_add, iI_sub, iI_mul, iI_neg, iI_nat, addm1, ixkI, ↓sbind, sbind, ↓bdS, bdS, ↓nm_eq, ↓jn_eq, iI_lt, iI_le, iI_eq, k_0, k_1, k_2, k_3, k_4, k_5, k_6, k_7, k_8, k_9, k_10, k_11, k_12, k_13, k_14, k_15, k_16, k_17, k_18, k_19, k_20, k_21, k_22, k_23, k_24, k_27, k_30, k_32, k_48, k_57, k_59, k_60, k_61, k_62, k_63, k_64, k_72, k_78, k_80, k_82, k_97, k_99, k_100, k_122, k_244, k_255, k_268, k_280, k_300, k_432, k_650, k_900, k_901, k_999, k_1700, k_2600, k_2601, k_2602, k_2603, k_2604, k_2610, k_2618, k_2682, k_2777, k_2844, k_2868, k_2880, k_3245, k_3250, k_9551, k_9999, k_65536, k_100000, k_999999, k_1000000, k_2147483647, lt_T, lt_F, le_T, le_F, eq_T, eq_F, ↓reduceIte, not_true_eq_false, not_false_eq_true, or_true, or_false, true_or, false_or, and_true, true_and, and_false, false_and, G.n3]
      rfl)
    (fun n i a b ih => by
      rw [lX2_thrownDown_4_s, c_isOnRight w G ⟨a, b⟩ hh]
      simp (disch := omega) only [iI_add, iI_sub, iI_mul, iI_neg, iI_nat, addm1, ixkI, ↓sbind, sbind, ↓bdS, bdS, ↓nm_eq, ↓jn_eq, iI_lt, iI_le, iI_eq, k_0, k_1, k_2, k_3, k_4, k_5, k_6, k_7, k_8, k_9, k_10, k_11, k_12, k_13, k_14, k_15, k_16, k_17, k_18, k_19, k_20, k_21, k_22, k_23, k_24, k_27, k_30, k_32, k_48, k_57, k_59, k_60, k_61, k_62, k_63, k_64, k_72, k_78, k_80, k_82, k_97, k_99, k_100, k_122, k_244, k_255, k_268, k_280, k_300, k_432, k_650, k_900, k_901, k_999, k_1700, k_2600, k_2601, k_2602, k_2603, k_2604, k_2610, k_2618, k_2682, k_2777, k_2844, k_2868, k_2880, k_3245, k_3250, k_9551, k_9999, k_65536, k_100000, k_999999, k_1000000, k_2147483647, lt_T, lt_F, le_T, le_F, eq_T, eq_F, ↓reduceIte, not_true_eq_false, not_false_eq_true, or_true, or_false, true_or, false_or, and_true, true_and, and_false, false_and, G.n3, bI_0, G.ft]
      rw [← ih, sm_s _ a]
      cases s_right F i h <;> simp)
    φ 0 (by omega) (by omega) (by omega)
  unfold fX2_thrownDown
  simp only [k_0]
  exact key
theorem c_depthOf (w : WF F) (G : GR g F M) {h k : Int} {φ : Nat} (hh : 0 ≤ h ∧ h < F 0 1 0) (hk : 0 ≤ k ∧ k ≤ F 3 h 2) (hφ : 100 < φ) : fX2_depthOf φ g (iI h) (iI k) M = some (iI (s_depth F h k)) := by
  unfold fX2_depthOf
  rw [c_thickAbove w G hh hk hφ, c_thrownDown w G hh hφ]
  simp only [sbind, iI_add, s_depth, Int.add_comm]
def s_unit (F : Fld) (h u : Int) : Int := ff (fun l => decide (u < s_top F h (l + 1))) (F 3 h 2) 0
theorem c_layerWithUnit (w : WF F) (G : GR g F M) {h u : Int} {φ : Nat} (hh : 0 ≤ h ∧ h < F 0 1 0) (hu : -2147483648 ≤ u ∧ u < 2147483648) (hφ : 100 < φ) : fX2_layerWithUnit φ g (iI h) (iI u) M = some (iI (if 0 ≤ u then s_unit F h u else -1)) := by
  have h0 := w.n1
  have h1 := w.nl hh
  have key := lup (N := F 3 h 2) (P := fun n i => lX2_layerWithUnit_11 g (iI h) (iI u) M n (iI (s_top F h i)) (iI i) = some (iI (ff (fun l => decide (u < s_top F h (l + 1))) (F 3 h 2) i)))
    (fun n => by
      rw [lX2_layerWithUnit_11_s, ff_e]
      simp (disch := omega) only [iI_add, iI_sub, iI_mul, iI_neg, iI_nat, addm1, ixkI, ↓sbind, sbind, ↓bdS, bdS, ↓nm_eq, ↓jn_eq, iI_lt, iI_le, iI_eq, k_0, k_1, k_2, k_3, k_4, k_5, k_6, k_7, k_8, k_9, k_10, k_11, k_12, k_13, k_14, k_15, k_16, k_17, k_18, k_19, k_20, k_21, k_22, k_23, k_24, k_27, k_30, k_32, k_48, k_57, k_59, k_60, k_61, k_62, k_63, k_64, k_72, k_78, k_80, k_82, k_97, k_99, k_100, k_122, k_244, k_255, k_268, k_280, k_300, k_432, k_650, k_900, k_901, k_999, k_1700, k_2600, k_2601, k_2602, k_2603, k_2604, k_2610, k_2618, k_2682, k_2777, k_2844, k_2868, k_2880, k_3245, k_3250, k_9551, k_9999, k_65536, k_100000, k_999999, k_1000000, k_2147483647, lt_T, lt_F, le_T, le_F, eq_T, eq_F, ↓reduceIte, not_true_eq_false, not_false_eq_true, or_true, or_false, true_or, false_or, and_true, true_and, and_false, false_and, G.nl])
    (fun n i a b ih => by
      have hb := w.top hh (n := i + 1) (by omega)
      have hs : s_top F h i + F 5 h i = s_top F h (i + 1) := (sm_s (fun l => F 5 h l) a).symm
      rw [lX2_layerWithUnit_11_s]
      simp (disch := omega) only [iI_add, iI_sub, iI_mul, iI_neg, iI_nat, addm1, ixkI, ↓sbind, sbind, ↓bdS, bdS, ↓nm_eq, ↓jn_eq, iI_lt, iI_le, iI_eq, k_0, k_1, k_2, k_3, k_4, k_5, k_6, k_7, k_8, k_9, k_10, k_11, k_12, k_13, k_14, k_15, k_16, k_17, k_18, k_19, k_20, k_21, k_22, k_23, k_24, k_27, k_30, k_32, k_48, k_57, k_59, k_60, k_61, k_62, k_63, k_64, k_72, k_78, k_80, k_82, k_97, k_99, k_100, k_122, k_244, k_255, k_268, k_280, k_300, k_432, k_650, k_900, k_901, k_999, k_1700, k_2600, k_2601, k_2602, k_2603, k_2604, k_2610, k_2618, k_2682, k_2777, k_2844, k_2868, k_2880, k_3245, k_3250, k_9551, k_9999, k_65536, k_100000, k_999999, k_1000000, k_2147483647, lt_T, lt_F, le_T, le_F, eq_T, eq_F, ↓reduceIte, not_true_eq_false, not_false_eq_true, or_true, or_false, true_or, false_or, and_true, true_and, and_false, false_and, G.nl, c_slot, G.th, hs]
      by_cases hc : s_top F h (i + 1) ≤ u
      · rw [if_pos hc, ih, ff_f b (decide_eq_false (by omega))]
      · rw [if_neg hc, ff_t b (decide_eq_true (by omega))])
    φ 0 (by omega) (by omega) (by omega)
  unfold fX2_layerWithUnit
  simp (disch := omega) only [iI_add, iI_sub, iI_mul, iI_neg, iI_nat, addm1, ixkI, ↓sbind, sbind, ↓bdS, bdS, ↓nm_eq, ↓jn_eq, iI_lt, iI_le, iI_eq, k_0, k_1, k_2, k_3, k_4, k_5, k_6, k_7, k_8, k_9, k_10, k_11, k_12, k_13, k_14, k_15, k_16, k_17, k_18, k_19, k_20, k_21, k_22, k_23, k_24, k_27, k_30, k_32, k_48, k_57, k_59, k_60, k_61, k_62, k_63, k_64, k_72, k_78, k_80, k_82, k_97, k_99, k_100, k_122, k_244, k_255, k_268, k_280, k_300, k_432, k_650, k_900, k_901, k_999, k_1700, k_2600, k_2601, k_2602, k_2603, k_2604, k_2610, k_2618, k_2682, k_2777, k_2844, k_2868, k_2880, k_3245, k_3250, k_9551, k_9999, k_65536, k_100000, k_999999, k_1000000, k_2147483647]
  by_cases hc : 0 ≤ u
  · rw [if_pos hc, if_pos hc]; exact key
  · rw [if_neg hc, if_neg hc]
def s_has (F : Fld) (h r : Int) : Bool := ff (fun l => F 4 h l == r) (F 3 h 2) 0 != -1
theorem c_hasRock (w : WF F) (G : GR g F M) {h r : Int} {φ : Nat} (hh : 0 ≤ h ∧ h < F 0 1 0) (hr : -2147483648 ≤ r ∧ r < 2147483648) (hφ : 100 < φ) : fX2_hasRock φ g (iI h) (iI r) M = some (bI (s_has F h r)) := by
  have h0 := w.n1
  have h00 := w.n0
  have h1 := w.nl hh
  have key := lup (N := F 3 h 2) (P := fun n i => lX2_hasRock_2 g (iI h) (iI r) M n (iI i) = some (bI (ff (fun l => F 4 h l == r) (F 3 h 2) i != -1)))
    (fun n => by
      rw [lX2_hasRock_2_s, ff_e]
      simp (disch := omega) only [iI_add, iI_sub, iI_mul, iI_neg, iI_nat, addm1, ixkI, ↓sbind, sbind, ↓bdS, bdS, ↓nm_eq, ↓jn_eq, iI_lt, iI_le, iI_eq, k_0, k_1, k_2, k_3, k_4, k_5, k_6, k_7, k_8, k_9, k_10, k_11, k_12, k_13, k_14, k_15, k_16, k_17, k_18, k_19, k_20, k_21, k_22, k_23, k_24, k_27, k_30, k_32, k_48, k_57, k_59, k_60, k_61, k_62, k_63, k_64, k_72, k_78, k_80, k_82, k_97, k_99, k_100, k_122, k_244, k_255, k_268, k_280, k_300, k_432, k_650, k_900, k_901, k_999, k_1700, k_2600, k_2601, k_2602, k_2603, k_2604, k_2610, k_2618, k_2682, k_2777, k_2844, k_2868, k_2880, k_3245, k_3250, k_9551, k_9999, k_65536, k_100000, k_999999, k_1000000, k_2147483647, lt_T, lt_F, le_T, le_F, eq_T, eq_F, ↓reduceIte, not_true_eq_false, not_false_eq_true, or_true, or_false, true_or, false_or, and_true, true_and, and_false, false_and, G.nl]
      rfl)
    (fun n i a b ih => by
      have hb := w.rk hh (l := i) ⟨a, b⟩
      rw [lX2_hasRock_2_s]
      simp (disch := omega) only [iI_add, iI_sub, iI_mul, iI_neg, iI_nat, addm1, ixkI, ↓sbind, sbind, ↓bdS, bdS, ↓nm_eq, ↓jn_eq, iI_lt, iI_le, iI_eq, k_0, k_1, k_2, k_3, k_4, k_5, k_6, k_7, k_8, k_9, k_10, k_11, k_12, k_13, k_14, k_15, k_16, k_17, k_18, k_19, k_20, k_21, k_22, k_23, k_24, k_27, k_30, k_32, k_48, k_57, k_59, k_60, k_61, k_62, k_63, k_64, k_72, k_78, k_80, k_82, k_97, k_99, k_100, k_122, k_244, k_255, k_268, k_280, k_300, k_432, k_650, k_900, k_901, k_999, k_1700, k_2600, k_2601, k_2602, k_2603, k_2604, k_2610, k_2618, k_2682, k_2777, k_2844, k_2868, k_2880, k_3245, k_3250, k_9551, k_9999, k_65536, k_100000, k_999999, k_1000000, k_2147483647, lt_T, lt_F, le_T, le_F, eq_T, eq_F, ↓reduceIte, not_true_eq_false, not_false_eq_true, or_true, or_false, true_or, false_or, and_true, true_and, and_false, false_and, G.nl, c_slot, G.rk]
      by_cases hc : F 4 h i = r
      · rw [if_pos hc, ff_t b (by simpa using hc), show (i != -1) = true from by simp; omega]; rfl
      · rw [if_neg hc, ih, ff_f b (by simpa using hc)])
    φ 0 (by omega) (by omega) (by omega)
  unfold fX2_hasRock
  simp only [k_0]
  exact key
def s_onTop (F : Fld) (h r : Int) : Bool := decide (0 < F 3 h 2 ∧ F 4 h 0 = r)
theorem c_hasRockOnTop (w : WF F) (G : GR g F M) {h r : Int} (hh : 0 ≤ h ∧ h < F 0 1 0) (hr : -2147483648 ≤ r ∧ r < 2147483648) : fX2_hasRockOnTop g (iI h) (iI r) M = some (bI (s_onTop F h r)) := by
  have h0 := w.n1
  have h00 := w.n0
  have h1 := w.nl hh
  unfold fX2_hasRockOnTop s_onTop
  simp (disch := omega) only [iI_add, iI_sub, iI_mul, iI_neg, iI_nat, addm1, ixkI, ↓sbind, sbind, ↓bdS, bdS, ↓nm_eq, ↓jn_eq, iI_lt, iI_le, iI_eq, k_0, k_1, k_2, k_3, k_4, k_5, k_6, k_7, k_8, k_9, k_10, k_11, k_12, k_13, k_14, k_15, k_16, k_17, k_18, k_19, k_20, k_21, k_22, k_23, k_24, k_27, k_30, k_32, k_48, k_57, k_59, k_60, k_61, k_62, k_63, k_64, k_72, k_78, k_80, k_82, k_97, k_99, k_100, k_122, k_244, k_255, k_268, k_280, k_300, k_432, k_650, k_900, k_901, k_999, k_1700, k_2600, k_2601, k_2602, k_2603, k_2604, k_2610, k_2618, k_2682, k_2777, k_2844, k_2868, k_2880, k_3245, k_3250, k_9551, k_9999, k_65536, k_100000, k_999999, k_1000000, k_2147483647, G.nl, c_slot]
  by_cases hc : F 3 h 2 ≤ 0
  · rw [if_pos hc, decide_eq_false (by omega)]; rfl
  · have hb := w.rk hh (l := 0) (by omega)
    rw [if_neg hc, G.rk (by omega)]
    simp (disch := omega) only [iI_eq]
    rw [if_yes]
    congr 2
    exact decide_eq_decide.mpr ⟨fun q => ⟨by omega, q⟩, fun q => q.2⟩
theorem c_cornerHole (w : WF F) (G : GR g F M) {t k : Int} (ht : 0 ≤ t ∧ t < F 0 2 0) (hk : 0 ≤ k ∧ k < 3) : fX2_cornerHole g (iI t) (iI k) M = some (iI (F 6 t k)) := by
  have h2 := w.n2
  unfold fX2_cornerHole
  simp (disch := omega) only [iI_add, iI_sub, iI_mul, iI_neg, iI_nat, addm1, ixkI, ↓sbind, sbind, ↓bdS, bdS, ↓nm_eq, ↓jn_eq, iI_lt, iI_le, iI_eq, k_0, k_1, k_2, k_3, k_4, k_5, k_6, k_7, k_8, k_9, k_10, k_11, k_12, k_13, k_14, k_15, k_16, k_17, k_18, k_19, k_20, k_21, k_22, k_23, k_24, k_27, k_30, k_32, k_48, k_57, k_59, k_60, k_61, k_62, k_63, k_64, k_72, k_78, k_80, k_82, k_97, k_99, k_100, k_122, k_244, k_255, k_268, k_280, k_300, k_432, k_650, k_900, k_901, k_999, k_1700, k_2600, k_2601, k_2602, k_2603, k_2604, k_2610, k_2618, k_2682, k_2777, k_2844, k_2868, k_2880, k_3245, k_3250, k_9551, k_9999, k_65536, k_100000, k_999999, k_1000000, k_2147483647, G.co]
theorem c_turnOf (ax ay bx b_y cx cy : Int) : fX2_turnOf (iI ax) (iI ay) (iI bx) (iI b_y) (iI cx) (iI cy) M = some (iI (tw ax ay bx b_y cx cy)) := by
  unfold fX2_turnOf tw
  simp only [iI_add, iI_sub, iI_mul, iI_neg, iI_nat, addm1, ixkI, ↓sbind, sbind, ↓bdS, bdS, ↓nm_eq, ↓jn_eq, iI_lt, iI_le, iI_eq, k_0, k_1, k_2, k_3, k_4, k_5, k_6, k_7, k_8, k_9, k_10, k_11, k_12, k_13, k_14, k_15, k_16, k_17, k_18, k_19, k_20, k_21, k_22, k_23, k_24, k_27, k_30, k_32, k_48, k_57, k_59, k_60, k_61, k_62, k_63, k_64, k_72, k_78, k_80, k_82, k_97, k_99, k_100, k_122, k_244, k_255, k_268, k_280, k_300, k_432, k_650, k_900, k_901, k_999, k_1700, k_2600, k_2601, k_2602, k_2603, k_2604, k_2610, k_2618, k_2682, k_2777, k_2844, k_2868, k_2880, k_3245, k_3250, k_9551, k_9999, k_65536, k_100000, k_999999, k_1000000, k_2147483647, Int.mul_comm (cx - ax)]
theorem c_turnOfHoles (w : WF F) (G : GR g F M) {a b c : Int} (ha : 0 ≤ a ∧ a < F 0 1 0) (hb : 0 ≤ b ∧ b < F 0 1 0) (hc : 0 ≤ c ∧ c < F 0 1 0) : fX2_turnOfHoles g (iI a) (iI b) (iI c) M = some (iI (s_turn3 F a b c)) := by
  have h1 := w.n1
  unfold fX2_turnOfHoles
  simp (disch := omega) only [iI_add, iI_sub, iI_mul, iI_neg, iI_nat, addm1, ixkI, ↓sbind, sbind, ↓bdS, bdS, ↓nm_eq, ↓jn_eq, iI_lt, iI_le, iI_eq, k_0, k_1, k_2, k_3, k_4, k_5, k_6, k_7, k_8, k_9, k_10, k_11, k_12, k_13, k_14, k_15, k_16, k_17, k_18, k_19, k_20, k_21, k_22, k_23, k_24, k_27, k_30, k_32, k_48, k_57, k_59, k_60, k_61, k_62, k_63, k_64, k_72, k_78, k_80, k_82, k_97, k_99, k_100, k_122, k_244, k_255, k_268, k_280, k_300, k_432, k_650, k_900, k_901, k_999, k_1700, k_2600, k_2601, k_2602, k_2603, k_2604, k_2610, k_2618, k_2682, k_2777, k_2844, k_2868, k_2880, k_3245, k_3250, k_9551, k_9999, k_65536, k_100000, k_999999, k_1000000, k_2147483647, G.x, G.y, c_turnOf]
  rfl
theorem c_turn (w : WF F) (G : GR g F M) {t : Int} (ht : 0 ≤ t ∧ t < F 0 2 0) : fX2_turn g (iI t) M = some (iI (s_turn F t)) := by
  unfold fX2_turn
  simp only [k_0, k_1, k_2]
  rw [c_cornerHole w G ht (by omega), c_cornerHole w G ht (by omega), c_cornerHole w G ht (by omega)]
  simp only [sbind]
  rw [c_turnOfHoles w G (w.co ht (by omega)) (w.co ht (by omega)) (w.co ht (by omega))]
  rfl
def s_abs (x : Int) : Int := if 0 ≤ x then x else 0 - x
theorem c_twiceArea (w : WF F) (G : GR g F M) {t : Int} (ht : 0 ≤ t ∧ t < F 0 2 0) : fX2_twiceArea g (iI t) M = some (iI (s_abs (s_turn F t))) := by
  have hb := w.tr ht
  unfold fX2_twiceArea
  rw [c_turn w G ht]
  simp (disch := omega) only [iI_add, iI_sub, iI_mul, iI_neg, iI_nat, addm1, ixkI, ↓sbind, sbind, ↓bdS, bdS, ↓nm_eq, ↓jn_eq, iI_lt, iI_le, iI_eq, k_0, k_1, k_2, k_3, k_4, k_5, k_6, k_7, k_8, k_9, k_10, k_11, k_12, k_13, k_14, k_15, k_16, k_17, k_18, k_19, k_20, k_21, k_22, k_23, k_24, k_27, k_30, k_32, k_48, k_57, k_59, k_60, k_61, k_62, k_63, k_64, k_72, k_78, k_80, k_82, k_97, k_99, k_100, k_122, k_244, k_255, k_268, k_280, k_300, k_432, k_650, k_900, k_901, k_999, k_1700, k_2600, k_2601, k_2602, k_2603, k_2604, k_2610, k_2618, k_2682, k_2777, k_2844, k_2868, k_2880, k_3245, k_3250, k_9551, k_9999, k_65536, k_100000, k_999999, k_1000000, k_2147483647, iI_ite]
  rfl

theorem c_sideAlongX (w : WF F) (G : GR g F M) {t k : Int} (ht : 0 ≤ t ∧ t < F 0 2 0) (hk : 0 ≤ k ∧ k < 3) : fX2_sideAlongX g (iI t) (iI k) M = some (iI (F 3 (F 6 t k) 0 - F 3 (F 6 t 0) 0)) := by
  have h1 := w.n1
  have ha := w.co ht hk
  have hb := w.co ht (k := 0) (by omega)
  unfold fX2_sideAlongX
  simp only [k_0]
  rw [c_cornerHole w G ht hk, c_cornerHole w G ht (by omega)]
  simp (disch := omega) only [iI_add, iI_sub, iI_mul, iI_neg, iI_nat, addm1, ixkI, ↓sbind, sbind, ↓bdS, bdS, ↓nm_eq, ↓jn_eq, iI_lt, iI_le, iI_eq, k_0, k_1, k_2, k_3, k_4, k_5, k_6, k_7, k_8, k_9, k_10, k_11, k_12, k_13, k_14, k_15, k_16, k_17, k_18, k_19, k_20, k_21, k_22, k_23, k_24, k_27, k_30, k_32, k_48, k_57, k_59, k_60, k_61, k_62, k_63, k_64, k_72, k_78, k_80, k_82, k_97, k_99, k_100, k_122, k_244, k_255, k_268, k_280, k_300, k_432, k_650, k_900, k_901, k_999, k_1700, k_2600, k_2601, k_2602, k_2603, k_2604, k_2610, k_2618, k_2682, k_2777, k_2844, k_2868, k_2880, k_3245, k_3250, k_9551, k_9999, k_65536, k_100000, k_999999, k_1000000, k_2147483647, G.x]
theorem c_sideAlongY (w : WF F) (G : GR g F M) {t k : Int} (ht : 0 ≤ t ∧ t < F 0 2 0) (hk : 0 ≤ k ∧ k < 3) : fX2_sideAlongY g (iI t) (iI k) M = some (iI (F 3 (F 6 t k) 1 - F 3 (F 6 t 0) 1)) := by
  have h1 := w.n1
  have ha := w.co ht hk
  have hb := w.co ht (k := 0) (by omega)
  unfold fX2_sideAlongY
  simp only [k_0]
  rw [c_cornerHole w G ht hk, c_cornerHole w G ht (by omega)]
  simp (disch := omega) only [iI_add, iI_sub, iI_mul, iI_neg, iI_nat, addm1, ixkI, ↓sbind, sbind, ↓bdS, bdS, ↓nm_eq, ↓jn_eq, iI_lt, iI_le, iI_eq, k_0, k_1, k_2, k_3, k_4, k_5, k_6, k_7, k_8, k_9, k_10, k_11, k_12, k_13, k_14, k_15, k_16, k_17, k_18, k_19, k_20, k_21, k_22, k_23, k_24, k_27, k_30, k_32, k_48, k_57, k_59, k_60, k_61, k_62, k_63, k_64, k_72, k_78, k_80, k_82, k_97, k_99, k_100, k_122, k_244, k_255, k_268, k_280, k_300, k_432, k_650, k_900, k_901, k_999, k_1700, k_2600, k_2601, k_2602, k_2603, k_2604, k_2610, k_2618, k_2682, k_2777, k_2844, k_2868, k_2880, k_3245, k_3250, k_9551, k_9999, k_65536, k_100000, k_999999, k_1000000, k_2147483647, G.y]
def s_wt (F : Fld) (t k x y : Int) : Int := tw x y (F 3 (F 6 t ((k + 1) % 3)) 0) (F 3 (F 6 t ((k + 1) % 3)) 1) (F 3 (F 6 t ((k + 2) % 3)) 0) (F 3 (F 6 t ((k + 2) % 3)) 1)
theorem i_rem3 {a : Int} (h : 0 ≤ a ∧ a < 1000) : iI a - iI a / iI 3 * iI 3 = iI (a % 3) := by
  obtain ⟨n, rfl⟩ : ∃ n : Nat, a = n := ⟨a.toNat, by omega⟩
  have hn : n < 1000 := by omega
  have hd : iI (n : Int) / iI 3 = iI ((n : Int) / 3) := by
    rw [← Int32.toInt_inj, Int32.toInt_div, iI_int (by omega), iI_int (by omega), iI_int (by omega), Int.tdiv_eq_ediv_of_nonneg (by omega), Int.bmod_eq_of_le (by omega) (by omega)]
  rw [hd, iI_mul, iI_sub]
  congr 1
  omega
theorem c_weight (w : WF F) (G : GR g F M) {t k x y : Int} (ht : 0 ≤ t ∧ t < F 0 2 0) (hk : 0 ≤ k ∧ k < 3) : fX2_weight g (iI t) (iI k) (iI x) (iI y) M = some (iI (s_wt F t k x y)) := by
  have h1 := w.n1
  have ha := w.co ht (k := (k + 1) % 3) (by omega)
  have hb := w.co ht (k := (k + 2) % 3) (by omega)
  unfold fX2_weight
  simp only [iI_add, iI_sub, iI_mul, iI_neg, iI_nat, addm1, ixkI, ↓sbind, sbind, ↓bdS, bdS, ↓nm_eq, ↓jn_eq, iI_lt, iI_le, iI_eq, k_0, k_1, k_2, k_3, k_4, k_5, k_6, k_7, k_8, k_9, k_10, k_11, k_12, k_13, k_14, k_15, k_16, k_17, k_18, k_19, k_20, k_21, k_22, k_23, k_24, k_27, k_30, k_32, k_48, k_57, k_59, k_60, k_61, k_62, k_63, k_64, k_72, k_78, k_80, k_82, k_97, k_99, k_100, k_122, k_244, k_255, k_268, k_280, k_300, k_432, k_650, k_900, k_901, k_999, k_1700, k_2600, k_2601, k_2602, k_2603, k_2604, k_2610, k_2618, k_2682, k_2777, k_2844, k_2868, k_2880, k_3245, k_3250, k_9551, k_9999, k_65536, k_100000, k_999999, k_1000000, k_2147483647]
  rw [i_rem3 (by omega), i_rem3 (by omega), c_cornerHole w G ht (by omega), c_cornerHole w G ht (by omega)]
  simp (disch := omega) only [iI_add, iI_sub, iI_mul, iI_neg, iI_nat, addm1, ixkI, ↓sbind, sbind, ↓bdS, bdS, ↓nm_eq, ↓jn_eq, iI_lt, iI_le, iI_eq, k_0, k_1, k_2, k_3, k_4, k_5, k_6, k_7, k_8, k_9, k_10, k_11, k_12, k_13, k_14, k_15, k_16, k_17, k_18, k_19, k_20, k_21, k_22, k_23, k_24, k_27, k_30, k_32, k_48, k_57, k_59, k_60, k_61, k_62, k_63, k_64, k_72, k_78, k_80, k_82, k_97, k_99, k_100, k_122, k_244, k_255, k_268, k_280, k_300, k_432, k_650, k_900, k_901, k_999, k_1700, k_2600, k_2601, k_2602, k_2603, k_2604, k_2610, k_2618, k_2682, k_2777, k_2844, k_2868, k_2880, k_3245, k_3250, k_9551, k_9999, k_65536, k_100000, k_999999, k_1000000, k_2147483647, G.x, G.y, c_turnOf]
  rfl
def s_split (F : Fld) (t : Int) : Bool := ff (fun f => (s_right F f (F 6 t 1) != s_right F f (F 6 t 0)) || (s_right F f (F 6 t 2) != s_right F f (F 6 t 0))) (F 0 3 0) 0 != -1
theorem ne_m1 {i : Int} (h : 0 ≤ i) : (i != -1) = true := by simp; omega
theorem c_isSplit (w : WF F) (G : GR g F M) {t : Int} {φ : Nat} (ht : 0 ≤ t ∧ t < F 0 2 0) (hφ : 100 < φ) : fX2_isSplit φ g (iI t) M = some (bI (s_split F t)) := by
  have h3 := w.n3
  have key := lup (N := F 0 3 0) (P := fun n i => lX2_isSplit_2 g (iI t) M n (iI i) = some (bI (ff (fun f => (s_right F f (F 6 t 1) != s_right F f (F 6 t 0)) || (s_right F f (F 6 t 2) != s_right F f (F 6 t 0))) (F 0 3 0) i != -1)))
    (fun n => by
      rw [lX2_isSplit_2_s, ff_e]
      simp (disch := omega) only [iI_add, iI_sub, iI_mul, iI_neg, iI_nat, addm1, ixkI, ↓sbind, sbind, ↓bdS, bdS, ↓nm_eq, ↓jn_eq, iI_lt, iI_le, iI_eq, k_0, k_1, k_2, k_3, k_4, k_5, k_6, k_7, k_8, k_9, k_10, k_11, k_12, k_13, k_14, k_15, k_16, k_17, k_18, k_19, k_20, k_21, k_22, k_23, k_24, k_27, k_30, k_32, k_48, k_57, k_59, k_60, k_61, k_62, k_63, k_64, k_72, k_78, k_80, k_82, k_97, k_99, k_100, k_122, k_244, k_255, k_268, k_280, k_300, k_432, k_650, k_900, k_901, k_999, k_1700, k_2600, k_2601, k_2602, k_2603, k_2604, k_2610, k_2618, k_2682, k_2777, k_2844, k_2868, k_2880, k_3245, k_3250, k_9551, k_9999, k_65536, k_100000, k_999999, k_1000000, k_2147483647, lt_T, lt_F, le_T, le_F, eq_T, eq_F, ↓reduceIte, not_true_eq_false, not_false_eq_true, or_true, or_false, true_or, false_or, and_true, true_and, and_false, false_and, G.n3]
      rfl)
    (fun n i a b ih => by
      rw [lX2_isSplit_2_s]
      simp (disch := omega) only [k_0, k_1, k_2, G.n3, iI_le, lt_T, lt_F, le_T, le_F, eq_T, eq_F, ↓reduceIte, not_true_eq_false, not_false_eq_true, or_true, or_false, true_or, false_or, and_true, true_and, and_false, false_and]
      rw [c_cornerHole w G ht (by omega), c_cornerHole w G ht (by omega), c_cornerHole w G ht (by omega)]
      simp only [sbind]
      rw [c_isOnRight w G ⟨a, b⟩ (w.co ht (by omega)), c_isOnRight w G ⟨a, b⟩ (w.co ht (by omega)), c_isOnRight w G ⟨a, b⟩ (w.co ht (by omega))]
      simp only [sbind, bI_eq, iI_add]
      by_cases hc : s_right F i (F 6 t 1) = s_right F i (F 6 t 0)
      · rw [if_pos hc]
        by_cases hd : s_right F i (F 6 t 2) = s_right F i (F 6 t 0)
        · rw [if_pos hd, ih, ff_f b (by simp [hc, hd])]
        · rw [if_neg hd, ff_t b (by simp [hd]), ne_m1 a]; rfl
      · rw [if_neg hc, ff_t b (by simp [hc]), ne_m1 a]; rfl)
    φ 0 (by omega) (by omega) (by omega)
  unfold fX2_isSplit
  simp only [k_0]
  exact key
/-- a point is in a triangle -/
def s_sg (x : Int) : Int := if 0 ≤ x then 1 else -1
def s_inside (F : Fld) (t x y : Int) : Bool := ff (fun k => decide (s_sg (s_turn F t) * s_wt F t k x y < 0)) 3 0 == -1
theorem s_wt_bd (w : WF F) {t k x y : Int} (ht : 0 ≤ t ∧ t < F 0 2 0) (hk : 0 ≤ k ∧ k < 3) (hx : 0 ≤ x ∧ x ≤ 999) (hy : 0 ≤ y ∧ y ≤ 999) : -1996002 ≤ s_wt F t k x y ∧ s_wt F t k x y ≤ 1996002 := tw_bd hx hy (w.x (w.co ht (by omega))) (w.y (w.co ht (by omega))) (w.x (w.co ht (by omega))) (w.y (w.co ht (by omega)))
theorem s_sg_mul (a b : Int) : s_sg a * b = if 0 ≤ a then b else -b := by
  unfold s_sg
  by_cases h : 0 ≤ a
  · rw [if_pos h, if_pos h, Int.one_mul]
  · rw [if_neg h, if_neg h, Int.neg_mul, Int.one_mul]
theorem c_isInside (w : WF F) (G : GR g F M) {t x y : Int} {φ : Nat} (ht : 0 ≤ t ∧ t < F 0 2 0) (hx : 0 ≤ x ∧ x ≤ 999) (hy : 0 ≤ y ∧ y ≤ 999) (hφ : 100 < φ) : fX2_isInside φ g (iI t) (iI x) (iI y) M = some (bI (s_inside F t x y)) := by
  have hb := w.tr ht
  have key := lup (N := 3) (P := fun n i => lX2_isInside_18 g (iI t) (iI x) (iI y) (iI (s_sg (s_turn F t))) M n (iI i) = some (bI (ff (fun k => decide (s_sg (s_turn F t) * s_wt F t k x y < 0)) 3 i == -1)))
    (fun n => by
      rw [lX2_isInside_18_s, ff_e]
      simp (disch := omega) only [iI_add, iI_sub, iI_mul, iI_neg, iI_nat, addm1, ixkI, ↓sbind, sbind, ↓bdS, bdS, ↓nm_eq, ↓jn_eq, iI_lt, iI_le, iI_eq, k_0, k_1, k_2, k_3, k_4, k_5, k_6, k_7, k_8, k_9, k_10, k_11, k_12, k_13, k_14, k_15, k_16, k_17, k_18, k_19, k_20, k_21, k_22, k_23, k_24, k_27, k_30, k_32, k_48, k_57, k_59, k_60, k_61, k_62, k_63, k_64, k_72, k_78, k_80, k_82, k_97, k_99, k_100, k_122, k_244, k_255, k_268, k_280, k_300, k_432, k_650, k_900, k_901, k_999, k_1700, k_2600, k_2601, k_2602, k_2603, k_2604, k_2610, k_2618, k_2682, k_2777, k_2844, k_2868, k_2880, k_3245, k_3250, k_9551, k_9999, k_65536, k_100000, k_999999, k_1000000, k_2147483647, lt_T, lt_F, le_T, le_F, eq_T, eq_F, ↓reduceIte, not_true_eq_false, not_false_eq_true, or_true, or_false, true_or, false_or, and_true, true_and, and_false, false_and]
      rfl)
    (fun n i a b ih => by
      have hw := s_wt_bd w ht ⟨a, b⟩ hx hy
      rw [lX2_isInside_18_s, c_weight w G ht ⟨a, b⟩]
      have hs : -1996002 ≤ s_sg (s_turn F t) * s_wt F t i x y ∧ s_sg (s_turn F t) * s_wt F t i x y ≤ 1996002 := by
        rw [s_sg_mul]
        by_cases h : 0 ≤ s_turn F t
        · rw [if_pos h]; omega
        · rw [if_neg h]; omega
      simp (disch := omega) only [iI_add, iI_sub, iI_mul, iI_neg, iI_nat, addm1, ixkI, ↓sbind, sbind, ↓bdS, bdS, ↓nm_eq, ↓jn_eq, iI_lt, iI_le, iI_eq, k_0, k_1, k_2, k_3, k_4, k_5, k_6, k_7, k_8, k_9, k_10, k_11, k_12, k_13, k_14, k_15, k_16, k_17, k_18, k_19, k_20, k_21, k_22, k_23, k_24, k_27, k_30, k_32, k_48, k_57, k_59, k_60, k_61, k_62, k_63, k_64, k_72, k_78, k_80, k_82, k_97, k_99, k_100, k_122, k_244, k_255, k_268, k_280, k_300, k_432, k_650, k_900, k_901, k_999, k_1700, k_2600, k_2601, k_2602, k_2603, k_2604, k_2610, k_2618, k_2682, k_2777, k_2844, k_2868, k_2880, k_3245, k_3250, k_9551, k_9999, k_65536, k_100000, k_999999, k_1000000, k_2147483647, lt_T, lt_F, le_T, le_F, eq_T, eq_F, ↓reduceIte, not_true_eq_false, not_false_eq_true, or_true, or_false, true_or, false_or, and_true, true_and, and_false, false_and]
      by_cases hc : 0 ≤ s_sg (s_turn F t) * s_wt F t i x y
      · rw [if_pos hc, ih, ff_f b (decide_eq_false (by omega))]
      · rw [if_neg hc, ff_t b (decide_eq_true (by omega)), show (i == -1) = false from by simp; omega]; rfl)
    φ 0 (by omega) (by omega) (by omega)
  unfold fX2_isInside
  rw [c_turn w G ht]
  simp (disch := omega) only [iI_add, iI_sub, iI_mul, iI_neg, iI_nat, addm1, ixkI, ↓sbind, sbind, ↓bdS, bdS, ↓nm_eq, ↓jn_eq, iI_lt, iI_le, iI_eq, k_0, k_1, k_2, k_3, k_4, k_5, k_6, k_7, k_8, k_9, k_10, k_11, k_12, k_13, k_14, k_15, k_16, k_17, k_18, k_19, k_20, k_21, k_22, k_23, k_24, k_27, k_30, k_32, k_48, k_57, k_59, k_60, k_61, k_62, k_63, k_64, k_72, k_78, k_80, k_82, k_97, k_99, k_100, k_122, k_244, k_255, k_268, k_280, k_300, k_432, k_650, k_900, k_901, k_999, k_1700, k_2600, k_2601, k_2602, k_2603, k_2604, k_2610, k_2618, k_2682, k_2777, k_2844, k_2868, k_2880, k_3245, k_3250, k_9551, k_9999, k_65536, k_100000, k_999999, k_1000000, k_2147483647]
  unfold s_inside
  rw [← key]
  unfold s_sg
  by_cases h : 0 ≤ s_turn F t
  · simp only [if_pos h]
  · simp only [if_neg h]
def s_tri (F : Fld) (x y : Int) : Int := ff (fun t => !s_split F t && s_inside F t x y) (F 0 2 0) 0
theorem c_triangleWith (w : WF F) (G : GR g F M) {x y : Int} {φ : Nat} (hx : 0 ≤ x ∧ x ≤ 999) (hy : 0 ≤ y ∧ y ≤ 999) (hφ : 100 < φ) : fX2_triangleWith φ g (iI x) (iI y) M = some (iI (s_tri F x y)) := by
  have h2 := w.n2
  have key := lup (N := F 0 2 0) (P := fun n i => lX2_triangleWith_2 φ g (iI x) (iI y) M n (iI i) = some (iI (ff (fun t => !s_split F t && s_inside F t x y) (F 0 2 0) i)))
    (fun n => by
      rw [lX2_triangleWith_2_s, ff_e]
      simp (disch := omega) only [iI_add, iI_sub, iI_mul, iI_neg, iI_nat, addm1, ixkI, ↓sbind, sbind, ↓bdS, bdS, ↓nm_eq, ↓jn_eq, iI_lt, iI_le, iI_eq, k_0, k_1, k_2, k_3, k_4, k_5, k_6, k_7, k_8, k_9, k_10, k_11, k_12, k_13, k_14, k_15, k_16, k_17, k_18, k_19, k_20, k_21, k_22, k_23, k_24, k_27, k_30, k_32, k_48, k_57, k_59, k_60, k_61, k_62, k_63, k_64, k_72, k_78, k_80, k_82, k_97, k_99, k_100, k_122, k_244, k_255, k_268, k_280, k_300, k_432, k_650, k_900, k_901, k_999, k_1700, k_2600, k_2601, k_2602, k_2603, k_2604, k_2610, k_2618, k_2682, k_2777, k_2844, k_2868, k_2880, k_3245, k_3250, k_9551, k_9999, k_65536, k_100000, k_999999, k_1000000, k_2147483647, lt_T, lt_F, le_T, le_F, eq_T, eq_F, ↓reduceIte, not_true_eq_false, not_false_eq_true, or_true, or_false, true_or, false_or, and_true, true_and, and_false, false_and, G.n2])
    (fun n i a b ih => by
      rw [lX2_triangleWith_2_s, c_isSplit w G ⟨a, b⟩ hφ, c_isInside w G ⟨a, b⟩ hx hy hφ]
      simp (disch := omega) only [iI_add, iI_sub, iI_mul, iI_neg, iI_nat, addm1, ixkI, ↓sbind, sbind, ↓bdS, bdS, ↓nm_eq, ↓jn_eq, iI_lt, iI_le, iI_eq, k_0, k_1, k_2, k_3, k_4, k_5, k_6, k_7, k_8, k_9, k_10, k_11, k_12, k_13, k_14, k_15, k_16, k_17, k_18, k_19, k_20, k_21, k_22, k_23, k_24, k_27, k_30, k_32, k_48, k_57, k_59, k_60, k_61, k_62, k_63, k_64, k_72, k_78, k_80, k_82, k_97, k_99, k_100, k_122, k_244, k_255, k_268, k_280, k_300, k_432, k_650, k_900, k_901, k_999, k_1700, k_2600, k_2601, k_2602, k_2603, k_2604, k_2610, k_2618, k_2682, k_2777, k_2844, k_2868, k_2880, k_3245, k_3250, k_9551, k_9999, k_65536, k_100000, k_999999, k_1000000, k_2147483647, lt_T, lt_F, le_T, le_F, eq_T, eq_F, ↓reduceIte, not_true_eq_false, not_false_eq_true, or_true, or_false, true_or, false_or, and_true, true_and, and_false, false_and, G.n2, bI_0]
      cases hs : s_split F i
      · cases hi : s_inside F i x y
        · simp only [if_true]; rw [ih, ff_f b (by simp [hs, hi])]
        · rw [ff_t b (by simp [hs, hi])]; rfl
      · rw [ff_f b (by simp [hs])]; simpa using ih)
    φ 0 (by omega) (by omega) (by omega)
  unfold fX2_triangleWith
  simp only [k_0]
  exact key
end QC
