/-! the reference's next token -/
section AH
variable {m : Nat} {M : Mem} {B : Int → Int} {n : Int}
def rkd (k : Int) : Int := if k = 1 then 2 else if k = 2 then 3 else if k = 3 then 4 else if k = 4 then 1 else 0
def RK (m : Nat) (T : Tk) (M : Mem) : Prop := M.1 m 12 = iI (rkd T.1) ∧ M.1 m 13 = iI T.2.1 ∧ M.1 m 14 = iI T.2.2.2.1 ∧ (T.1 = 2 ∨ T.1 = 3 → M.1 m 15 = iI T.2.2.1)
/-- the reference stands at the token that is found from p on -/
def RKp (m : Nat) (B : Int → Int) (n p : Int) (M : Mem) : Prop := ((0 ≤ p ∧ p ≤ n) ∧ M.1 m 17 = iI (-1)) ∧ M.1 m 11 = iI n ∧ TX (m + 7) B n M ∧ RK m (tok B n p) M
def mAh (m : Nat) (M M1 : Mem) : Prop := (∀ i, i ≠ 12 → i ≠ 13 → i ≠ 14 → i ≠ 15 → M1.1 m i = M.1 m i) ∧ M1.2 = M.2 ∧ Fr (fun z => z = m) M M1
theorem mAh.refl (m : Nat) (M : Mem) : mAh m M M := ⟨fun _ _ _ _ _ => rfl, rfl, Fr.refl M⟩
theorem mAh.trans {M1 M2 : Mem} (a : mAh m M M1) (b : mAh m M1 M2) : mAh m M M2 := ⟨fun i h1 h2 h3 h4 => (b.1 i h1 h2 h3 h4).trans (a.1 i h1 h2 h3 h4), b.2.1.trans a.2.1, a.2.2.trans b.2.2⟩
theorem mAh.st {k : Nat} (hk : k = 12 ∨ k = 13 ∨ k = 14 ∨ k = 15) (M : Mem) (v : Int32) : mAh m M (stI M m k v) := ⟨fun i h1 h2 h3 h4 => rI_nk (by omega), rfl, Fr.stI rfl (Fr.refl M)⟩
theorem m_isSmall {v : Int} (h : -1 ≤ v ∧ v ≤ 255) : fX11_isSmall (iI v) M = some (bI (lx_L v)) := by
  unfold fX11_isSmall lx_L
  by_cases h1 : v < 97
  · rw [decide_eq_false (by omega)]; simp (disch := omega) only [iI_add, iI_sub, iI_mul, iI_neg, iI_nat, addm1, ixkI, ↓sbind, sbind, ↓bdS, bdS, ↓nm_eq, ↓jn_eq, iI_lt, iI_le, iI_eq, k_0, k_1, k_2, k_3, k_4, k_5, k_6, k_7, k_8, k_9, k_10, k_11, k_12, k_13, k_14, k_15, k_16, k_17, k_18, k_19, k_20, k_21, k_22, k_23, k_24, k_27, k_30, k_32, k_48, k_57, k_59, k_60, k_61, k_62, k_63, k_64, k_72, k_78, k_80, k_82, k_97, k_99, k_100, k_122, k_244, k_255, k_268, k_280, k_300, k_432, k_650, k_900, k_901, k_999, k_1700, k_2600, k_2601, k_2602, k_2603, k_2604, k_2610, k_2618, k_2682, k_2777, k_2844, k_2868, k_2880, k_3245, k_3250, k_9551, k_9999, k_65536, k_100000, k_999999, k_1000000, k_2147483647, lt_T, lt_F, le_T, le_F, eq_T, eq_F, ↓reduceIte, not_true_eq_false, not_false_eq_true, or_true, or_false, true_or, false_or, and_true, true_and, and_false, false_and, bI_f]
  · by_cases h2 : 122 < v
    · rw [decide_eq_false (by omega)]; simp (disch := omega) only [iI_add, iI_sub, iI_mul, iI_neg, iI_nat, addm1, ixkI, ↓sbind, sbind, ↓bdS, bdS, ↓nm_eq, ↓jn_eq, iI_lt, iI_le, iI_eq, k_0, k_1, k_2, k_3, k_4, k_5, k_6, k_7, k_8, k_9, k_10, k_11, k_12, k_13, k_14, k_15, k_16, k_17, k_18, k_19, k_20, k_21, k_22, k_23, k_24, k_27, k_30, k_32, k_48, k_57, k_59, k_60, k_61, k_62, k_63, k_64, k_72, k_78, k_80, k_82, k_97, k_99, k_100, k_122, k_244, k_255, k_268, k_280, k_300, k_432, k_650, k_900, k_901, k_999, k_1700, k_2600, k_2601, k_2602, k_2603, k_2604, k_2610, k_2618, k_2682, k_2777, k_2844, k_2868, k_2880, k_3245, k_3250, k_9551, k_9999, k_65536, k_100000, k_999999, k_1000000, k_2147483647, lt_T, lt_F, le_T, le_F, eq_T, eq_F, ↓reduceIte, not_true_eq_false, not_false_eq_true, or_true, or_false, true_or, false_or, and_true, true_and, and_false, false_and, bI_f]
    · rw [decide_eq_true (by omega)]; simp (disch := omega) only [iI_add, iI_sub, iI_mul, iI_neg, iI_nat, addm1, ixkI, ↓sbind, sbind, ↓bdS, bdS, ↓nm_eq, ↓jn_eq, iI_lt, iI_le, iI_eq, k_0, k_1, k_2, k_3, k_4, k_5, k_6, k_7, k_8, k_9, k_10, k_11, k_12, k_13, k_14, k_15, k_16, k_17, k_18, k_19, k_20, k_21, k_22, k_23, k_24, k_27, k_30, k_32, k_48, k_57, k_59, k_60, k_61, k_62, k_63, k_64, k_72, k_78, k_80, k_82, k_97, k_99, k_100, k_122, k_244, k_255, k_268, k_280, k_300, k_432, k_650, k_900, k_901, k_999, k_1700, k_2600, k_2601, k_2602, k_2603, k_2604, k_2610, k_2618, k_2682, k_2777, k_2844, k_2868, k_2880, k_3245, k_3250, k_9551, k_9999, k_65536, k_100000, k_999999, k_1000000, k_2147483647, lt_T, lt_F, le_T, le_F, eq_T, eq_F, ↓reduceIte, not_true_eq_false, not_false_eq_true, or_true, or_false, true_or, false_or, and_true, true_and, and_false, false_and, bI_t]
theorem m_isDigit {v : Int} (h : -1 ≤ v ∧ v ≤ 255) : fX11_isDigit (iI v) M = some (bI (lx_D v)) := by
  unfold fX11_isDigit lx_D
  by_cases h1 : v < 48
  · rw [decide_eq_false (by omega)]; simp (disch := omega) only [iI_add, iI_sub, iI_mul, iI_neg, iI_nat, addm1, ixkI, ↓sbind, sbind, ↓bdS, bdS, ↓nm_eq, ↓jn_eq, iI_lt, iI_le, iI_eq, k_0, k_1, k_2, k_3, k_4, k_5, k_6, k_7, k_8, k_9, k_10, k_11, k_12, k_13, k_14, k_15, k_16, k_17, k_18, k_19, k_20, k_21, k_22, k_23, k_24, k_27, k_30, k_32, k_48, k_57, k_59, k_60, k_61, k_62, k_63, k_64, k_72, k_78, k_80, k_82, k_97, k_99, k_100, k_122, k_244, k_255, k_268, k_280, k_300, k_432, k_650, k_900, k_901, k_999, k_1700, k_2600, k_2601, k_2602, k_2603, k_2604, k_2610, k_2618, k_2682, k_2777, k_2844, k_2868, k_2880, k_3245, k_3250, k_9551, k_9999, k_65536, k_100000, k_999999, k_1000000, k_2147483647, lt_T, lt_F, le_T, le_F, eq_T, eq_F, ↓reduceIte, not_true_eq_false, not_false_eq_true, or_true, or_false, true_or, false_or, and_true, true_and, and_false, false_and, bI_f]
  · by_cases h2 : 57 < v
    · rw [decide_eq_false (by omega)]; simp (disch := omega) only [iI_add, iI_sub, iI_mul, iI_neg, iI_nat, addm1, ixkI, ↓sbind, sbind, ↓bdS, bdS, ↓nm_eq, ↓jn_eq, iI_lt, iI_le, iI_eq, k_0, k_1, k_2, k_3, k_4, k_5, k_6, k_7, k_8, k_9, k_10, k_11, k_12, k_13, k_14, k_15, k_16, k_17, k_18, k_19, k_20, k_21, k_22, k_23, k_24, k_27, k_30, k_32, k_48, k_57, k_59, k_60, k_61, k_62, k_63, k_64, k_72, k_78, k_80, k_82, k_97, k_99, k_100, k_122, k_244, k_255, k_268, k_280, k_300, k_432, k_650, k_900, k_901, k_999, k_1700, k_2600, k_2601, k_2602, k_2603, k_2604, k_2610, k_2618, k_2682, k_2777, k_2844, k_2868, k_2880, k_3245, k_3250, k_9551, k_9999, k_65536, k_100000, k_999999, k_1000000, k_2147483647, lt_T, lt_F, le_T, le_F, eq_T, eq_F, ↓reduceIte, not_true_eq_false, not_false_eq_true, or_true, or_false, true_or, false_or, and_true, true_and, and_false, false_and, bI_f]
    · rw [decide_eq_true (by omega)]; simp (disch := omega) only [iI_add, iI_sub, iI_mul, iI_neg, iI_nat, addm1, ixkI, ↓sbind, sbind, ↓bdS, bdS, ↓nm_eq, ↓jn_eq, iI_lt, iI_le, iI_eq, k_0, k_1, k_2, k_3, k_4, k_5, k_6, k_7, k_8, k_9, k_10, k_11, k_12, k_13, k_14, k_15, k_16, k_17, k_18, k_19, k_20, k_21, k_22, k_23, k_24, k_27, k_30, k_32, k_48, k_57, k_59, k_60, k_61, k_62, k_63, k_64, k_72, k_78, k_80, k_82, k_97, k_99, k_100, k_122, k_244, k_255, k_268, k_280, k_300, k_432, k_650, k_900, k_901, k_999, k_1700, k_2600, k_2601, k_2602, k_2603, k_2604, k_2610, k_2618, k_2682, k_2777, k_2844, k_2868, k_2880, k_3245, k_3250, k_9551, k_9999, k_65536, k_100000, k_999999, k_1000000, k_2147483647, lt_T, lt_F, le_T, le_F, eq_T, eq_F, ↓reduceIte, not_true_eq_false, not_false_eq_true, or_true, or_false, true_or, false_or, and_true, true_and, and_false, false_and, bI_t]
/-- the byte at k, or -1 behind the text -/
def bA8 (B : Int → Int) (n k : Int) : Int := if k < n then b8 (B k) else -1
theorem bA8_bd (hB : ∀ k, -128 ≤ B k ∧ B k ≤ 127) (k : Int) : -1 ≤ bA8 B n k ∧ bA8 B n k ≤ 255 := by
  have := hB k
  unfold bA8 b8
  split
  · split <;> omega
  · omega
theorem bA8_L (hB : ∀ k, -128 ≤ B k ∧ B k ≤ 127) (k : Int) : lx_L (bA8 B n k) = if k < n then lx_L (B k) else false := by
  have := hB k
  unfold bA8 b8 lx_L
  by_cases h : k < n
  · rw [if_pos h, if_pos h]
    by_cases h2 : B k < 0
    · rw [if_pos h2, decide_eq_false (by omega), decide_eq_false (by omega)]
    · rw [if_neg h2]
  · rw [if_neg h, if_neg h, decide_eq_false (by omega)]
theorem bA8_D (hB : ∀ k, -128 ≤ B k ∧ B k ≤ 127) (k : Int) : lx_D (bA8 B n k) = if k < n then lx_D (B k) else false := by
  have := hB k
  unfold bA8 b8 lx_D
  by_cases h : k < n
  · rw [if_pos h, if_pos h]
    by_cases h2 : B k < 0
    · rw [if_pos h2, decide_eq_false (by omega), decide_eq_false (by omega)]
    · rw [if_neg h2]
  · rw [if_neg h, if_neg h, decide_eq_false (by omega)]
theorem bA8_B (hB : ∀ k, -128 ≤ B k ∧ B k ≤ 127) {k : Int} (h : k < n) (hb : lx_B (B k) = true) : bA8 B n k = 32 ∨ bA8 B n k = 10 := by
  have hb : B k = 32 ∨ B k = 10 := of_decide_eq_true hb
  unfold bA8 b8
  rw [if_pos h, if_neg (by omega)]
  exact hb
theorem bA8_nB (hB : ∀ k, -128 ≤ B k ∧ B k ≤ 127) {k : Int} (h : k < n → lx_B (B k) = false) : bA8 B n k ≠ 32 ∧ bA8 B n k ≠ 10 := by
  have := hB k
  unfold bA8 b8
  by_cases q : k < n
  · have hb : ¬ (B k = 32 ∨ B k = 10) := of_decide_eq_false (h q)
    rw [if_pos q]
    split <;> omega
  · rw [if_neg q]
    omega
theorem m_ah0 (K : Mem → Option (Unit × Mem)) (hn : 0 ≤ n ∧ n ≤ 900) (hB : ∀ k, -128 ≤ B k ∧ B k ≤ 127) : ∀ (d : Nat) (p : Int) (M : Mem), n - p = d → 0 ≤ p → M.1 m 11 = iI n → TX (m + 7) B n M → M.1 m 14 = iI p → ∀ k, d < k → ∃ M1, lX11_ahead_0 K m k M = K M1 ∧ M1.1 m 14 = iI (rn (fun k => lx_B (B k)) n p) ∧ mAh m M M1 := by
  intro d
  induction d with
  | zero =>
    intro p M hd hp h11 hT h14 k hk
    obtain ⟨k, rfl⟩ : ∃ q, k = q + 1 := ⟨k - 1, by omega⟩
    have e1 : fX11_byteAt m (iI p) M = some (iI (bA8 B n p)) := m_byteAt hn h11 hB hT (by omega)
    have b1 := bA8_bd (n := n) hB p
    obtain ⟨b2, b3⟩ := bA8_nB (n := n) hB (k := p) (fun q => by omega)
    refine ⟨M, ?_, by rw [rn_e (by omega)]; exact h14, mAh.refl m M⟩
    rw [lX11_ahead_0]
    simp (disch := omega) only [iI_add, iI_sub, iI_mul, iI_neg, iI_nat, addm1, ixkI, ↓sbind, sbind, ↓bdS, bdS, ↓nm_eq, ↓jn_eq, iI_lt, iI_le, iI_eq, k_0, k_1, k_2, k_3, k_4, k_5, k_6, k_7, k_8, k_9, k_10, k_11, k_12, k_13, k_14, k_15, k_16, k_17, k_18, k_19, k_20, k_21, k_22, k_23, k_24, k_27, k_30, k_32, k_48, k_57, k_59, k_60, k_61, k_62, k_63, k_64, k_72, k_78, k_80, k_82, k_97, k_99, k_100, k_122, k_244, k_255, k_268, k_280, k_300, k_432, k_650, k_900, k_901, k_999, k_1700, k_2600, k_2601, k_2602, k_2603, k_2604, k_2610, k_2618, k_2682, k_2777, k_2844, k_2868, k_2880, k_3245, k_3250, k_9551, k_9999, k_65536, k_100000, k_999999, k_1000000, k_2147483647, lt_T, lt_F, le_T, le_F, eq_T, eq_F, ↓reduceIte, not_true_eq_false, not_false_eq_true, or_true, or_false, true_or, false_or, and_true, true_and, and_false, false_and, h14, e1]
  | succ d ih =>
    intro p M hd hp h11 hT h14 k hk
    obtain ⟨k, rfl⟩ : ∃ q, k = q + 1 := ⟨k - 1, by omega⟩
    have e1 : fX11_byteAt m (iI p) M = some (iI (bA8 B n p)) := m_byteAt hn h11 hB hT (by omega)
    have b1 := bA8_bd (n := n) hB p
    by_cases hb : lx_B (B p) = true
    · have b2 := bA8_B (n := n) hB (k := p) (by omega) hb
      obtain ⟨M1, r1, r2, r3⟩ := ih (p + 1) (stI M m 14 (iI (p + 1))) (by omega) (by omega) (by rw [rI_nk (by omega)]; exact h11) (fun q q0 q1 => by rw [rI_ng (by omega)]; exact hT q q0 q1) (rI_at rfl rfl) k (by omega)
      refine ⟨M1, ?_, by rw [rn_t (P := fun k => lx_B (B k)) (by omega) hb]; exact r2, (mAh.st (Or.inr (Or.inr (Or.inl rfl))) M _).trans r3⟩
      rw [lX11_ahead_0]
      by_cases z : bA8 B n p = 32
      · simp (disch := omega) only [iI_add, iI_sub, iI_mul, iI_neg, iI_nat, addm1, ixkI, ↓sbind, sbind, ↓bdS, bdS, ↓nm_eq, ↓jn_eq, iI_lt, iI_le, iI_eq, k_0, k_1, k_2, k_3, k_4, k_5, k_6, k_7, k_8, k_9, k_10, k_11, k_12, k_13, k_14, k_15, k_16, k_17, k_18, k_19, k_20, k_21, k_22, k_23, k_24, k_27, k_30, k_32, k_48, k_57, k_59, k_60, k_61, k_62, k_63, k_64, k_72, k_78, k_80, k_82, k_97, k_99, k_100, k_122, k_244, k_255, k_268, k_280, k_300, k_432, k_650, k_900, k_901, k_999, k_1700, k_2600, k_2601, k_2602, k_2603, k_2604, k_2610, k_2618, k_2682, k_2777, k_2844, k_2868, k_2880, k_3245, k_3250, k_9551, k_9999, k_65536, k_100000, k_999999, k_1000000, k_2147483647, lt_T, lt_F, le_T, le_F, eq_T, eq_F, ↓reduceIte, not_true_eq_false, not_false_eq_true, or_true, or_false, true_or, false_or, and_true, true_and, and_false, false_and, h14, e1, z, r1]
      · have z2 : bA8 B n p = 10 := by omega
        simp (disch := omega) only [iI_add, iI_sub, iI_mul, iI_neg, iI_nat, addm1, ixkI, ↓sbind, sbind, ↓bdS, bdS, ↓nm_eq, ↓jn_eq, iI_lt, iI_le, iI_eq, k_0, k_1, k_2, k_3, k_4, k_5, k_6, k_7, k_8, k_9, k_10, k_11, k_12, k_13, k_14, k_15, k_16, k_17, k_18, k_19, k_20, k_21, k_22, k_23, k_24, k_27, k_30, k_32, k_48, k_57, k_59, k_60, k_61, k_62, k_63, k_64, k_72, k_78, k_80, k_82, k_97, k_99, k_100, k_122, k_244, k_255, k_268, k_280, k_300, k_432, k_650, k_900, k_901, k_999, k_1700, k_2600, k_2601, k_2602, k_2603, k_2604, k_2610, k_2618, k_2682, k_2777, k_2844, k_2868, k_2880, k_3245, k_3250, k_9551, k_9999, k_65536, k_100000, k_999999, k_1000000, k_2147483647, lt_T, lt_F, le_T, le_F, eq_T, eq_F, ↓reduceIte, not_true_eq_false, not_false_eq_true, or_true, or_false, true_or, false_or, and_true, true_and, and_false, false_and, h14, e1, z2, r1]
    · have hb' : lx_B (B p) = false := Bool.eq_false_iff.mpr hb
      obtain ⟨b2, b3⟩ := bA8_nB (n := n) hB (k := p) (fun _ => hb')
      refine ⟨M, ?_, by rw [rn_f (P := fun k => lx_B (B k)) (by omega) hb']; exact h14, mAh.refl m M⟩
      rw [lX11_ahead_0]
      simp (disch := omega) only [iI_add, iI_sub, iI_mul, iI_neg, iI_nat, addm1, ixkI, ↓sbind, sbind, ↓bdS, bdS, ↓nm_eq, ↓jn_eq, iI_lt, iI_le, iI_eq, k_0, k_1, k_2, k_3, k_4, k_5, k_6, k_7, k_8, k_9, k_10, k_11, k_12, k_13, k_14, k_15, k_16, k_17, k_18, k_19, k_20, k_21, k_22, k_23, k_24, k_27, k_30, k_32, k_48, k_57, k_59, k_60, k_61, k_62, k_63, k_64, k_72, k_78, k_80, k_82, k_97, k_99, k_100, k_122, k_244, k_255, k_268, k_280, k_300, k_432, k_650, k_900, k_901, k_999, k_1700, k_2600, k_2601, k_2602, k_2603, k_2604, k_2610, k_2618, k_2682, k_2777, k_2844, k_2868, k_2880, k_3245, k_3250, k_9551, k_9999, k_65536, k_100000, k_999999, k_1000000, k_2147483647, lt_T, lt_F, le_T, le_F, eq_T, eq_F, ↓reduceIte, not_true_eq_false, not_false_eq_true, or_true, or_false, true_or, false_or, and_true, true_and, and_false, false_and, h14, e1]
theorem m_ah81 (hn : 0 ≤ n ∧ n ≤ 900) (hB : ∀ k, -128 ≤ B k ∧ B k ≤ 127) : ∀ (d : Nat) (p : Int) (M : Mem), n - p = d → 0 ≤ p → M.1 m 11 = iI n → TX (m + 7) B n M → M.1 m 14 = iI p → ∀ k, d < k → ∃ M1, lX11_ahead_81 m k M = some ((), M1) ∧ M1.1 m 14 = iI (rn (fun k => lx_L (B k)) n p) ∧ M1.1 m 12 = iI 2 ∧ M1.1 m 13 = M.1 m 13 ∧ mAh m M M1 := by
  intro d
  induction d with
  | zero =>
    intro p M hd hp h11 hT h14 k hk
    obtain ⟨k, rfl⟩ : ∃ q, k = q + 1 := ⟨k - 1, by omega⟩
    have e1 : fX11_byteAt m (iI p) M = some (iI (bA8 B n p)) := m_byteAt hn h11 hB hT (by omega)
    have b1 := bA8_bd (n := n) hB p
    have e2 := m_isSmall (M := M) b1
    rw [bA8_L hB, if_neg (by omega)] at e2
    refine ⟨stI M m 12 (iI 2), ?_, by rw [rn_e (by omega), rI_nk (by omega)]; exact h14, rI_at rfl rfl, rI_nk (by omega), mAh.st (Or.inl rfl) M _⟩
    rw [lX11_ahead_81]
    simp (disch := omega) only [iI_add, iI_sub, iI_mul, iI_neg, iI_nat, addm1, ixkI, ↓sbind, sbind, ↓bdS, bdS, ↓nm_eq, ↓jn_eq, iI_lt, iI_le, iI_eq, k_0, k_1, k_2, k_3, k_4, k_5, k_6, k_7, k_8, k_9, k_10, k_11, k_12, k_13, k_14, k_15, k_16, k_17, k_18, k_19, k_20, k_21, k_22, k_23, k_24, k_27, k_30, k_32, k_48, k_57, k_59, k_60, k_61, k_62, k_63, k_64, k_72, k_78, k_80, k_82, k_97, k_99, k_100, k_122, k_244, k_255, k_268, k_280, k_300, k_432, k_650, k_900, k_901, k_999, k_1700, k_2600, k_2601, k_2602, k_2603, k_2604, k_2610, k_2618, k_2682, k_2777, k_2844, k_2868, k_2880, k_3245, k_3250, k_9551, k_9999, k_65536, k_100000, k_999999, k_1000000, k_2147483647, lt_T, lt_F, le_T, le_F, eq_T, eq_F, ↓reduceIte, not_true_eq_false, not_false_eq_true, or_true, or_false, true_or, false_or, and_true, true_and, and_false, false_and, h14, e1, e2, bI_f]
  | succ d ih =>
    intro p M hd hp h11 hT h14 k hk
    obtain ⟨k, rfl⟩ : ∃ q, k = q + 1 := ⟨k - 1, by omega⟩
    have e1 : fX11_byteAt m (iI p) M = some (iI (bA8 B n p)) := m_byteAt hn h11 hB hT (by omega)
    have b1 := bA8_bd (n := n) hB p
    have e2 := m_isSmall (M := M) b1
    rw [bA8_L hB, if_pos (by omega)] at e2
    by_cases hb : lx_L (B p) = true
    · rw [hb] at e2
      obtain ⟨M1, r1, r2, r3, r4, r5⟩ := ih (p + 1) (stI M m 14 (iI (p + 1))) (by omega) (by omega) (by rw [rI_nk (by omega)]; exact h11) (fun q q0 q1 => by rw [rI_ng (by omega)]; exact hT q q0 q1) (rI_at rfl rfl) k (by omega)
      refine ⟨M1, ?_, by rw [rn_t (P := fun k => lx_L (B k)) (by omega) hb]; exact r2, r3, by rw [r4]; exact rI_nk (by omega), (mAh.st (Or.inr (Or.inr (Or.inl rfl))) M _).trans r5⟩
      rw [lX11_ahead_81]
      simp (disch := omega) only [iI_add, iI_sub, iI_mul, iI_neg, iI_nat, addm1, ixkI, ↓sbind, sbind, ↓bdS, bdS, ↓nm_eq, ↓jn_eq, iI_lt, iI_le, iI_eq, k_0, k_1, k_2, k_3, k_4, k_5, k_6, k_7, k_8, k_9, k_10, k_11, k_12, k_13, k_14, k_15, k_16, k_17, k_18, k_19, k_20, k_21, k_22, k_23, k_24, k_27, k_30, k_32, k_48, k_57, k_59, k_60, k_61, k_62, k_63, k_64, k_72, k_78, k_80, k_82, k_97, k_99, k_100, k_122, k_244, k_255, k_268, k_280, k_300, k_432, k_650, k_900, k_901, k_999, k_1700, k_2600, k_2601, k_2602, k_2603, k_2604, k_2610, k_2618, k_2682, k_2777, k_2844, k_2868, k_2880, k_3245, k_3250, k_9551, k_9999, k_65536, k_100000, k_999999, k_1000000, k_2147483647, lt_T, lt_F, le_T, le_F, eq_T, eq_F, ↓reduceIte, not_true_eq_false, not_false_eq_true, or_true, or_false, true_or, false_or, and_true, true_and, and_false, false_and, h14, e1, e2, bI_t, r1]
    · have hb' : lx_L (B p) = false := Bool.eq_false_iff.mpr hb
      rw [hb'] at e2
      refine ⟨stI M m 12 (iI 2), ?_, by rw [rn_f (P := fun k => lx_L (B k)) (by omega) hb', rI_nk (by omega)]; exact h14, rI_at rfl rfl, rI_nk (by omega), mAh.st (Or.inl rfl) M _⟩
      rw [lX11_ahead_81]
      simp (disch := omega) only [iI_add, iI_sub, iI_mul, iI_neg, iI_nat, addm1, ixkI, ↓sbind, sbind, ↓bdS, bdS, ↓nm_eq, ↓jn_eq, iI_lt, iI_le, iI_eq, k_0, k_1, k_2, k_3, k_4, k_5, k_6, k_7, k_8, k_9, k_10, k_11, k_12, k_13, k_14, k_15, k_16, k_17, k_18, k_19, k_20, k_21, k_22, k_23, k_24, k_27, k_30, k_32, k_48, k_57, k_59, k_60, k_61, k_62, k_63, k_64, k_72, k_78, k_80, k_82, k_97, k_99, k_100, k_122, k_244, k_255, k_268, k_280, k_300, k_432, k_650, k_900, k_901, k_999, k_1700, k_2600, k_2601, k_2602, k_2603, k_2604, k_2610, k_2618, k_2682, k_2777, k_2844, k_2868, k_2880, k_3245, k_3250, k_9551, k_9999, k_65536, k_100000, k_999999, k_1000000, k_2147483647, lt_T, lt_F, le_T, le_F, eq_T, eq_F, ↓reduceIte, not_true_eq_false, not_false_eq_true, or_true, or_false, true_or, false_or, and_true, true_and, and_false, false_and, h14, e1, e2, bI_f]
theorem m_ah128 (K : Mem → Option (Unit × Mem)) (hn : 0 ≤ n ∧ n ≤ 900) (hB : ∀ k, -128 ≤ B k ∧ B k ≤ 127) {s : Int} (hs : 0 ≤ s) : ∀ (d : Nat) (p : Int) (v : Int) (M : Mem), n - p = d → s ≤ p → (∀ k, s ≤ k → k < p → lx_D (B k) = true) → M.1 m 11 = iI n → TX (m + 7) B n M → M.1 m 14 = iI p → M.1 m 15 = iI v → (0 ≤ v ∧ v ≤ 100000) → (p - s ≤ 4 → v = dcN (fun k => B (s + k)) (p - s).toNat) → ∀ k, d < k → ∃ v' M1, lX11_ahead_128 K m k M = K M1 ∧ M1.1 m 14 = iI (rn (fun k => lx_D (B k)) n p) ∧ M1.1 m 13 = M.1 m 13 ∧ M1.1 m 15 = iI v' ∧ (rn (fun k => lx_D (B k)) n p - s ≤ 4 → v' = dcN (fun k => B (s + k)) (rn (fun k => lx_D (B k)) n p - s).toNat) ∧ mAh m M M1 := by
  intro d
  induction d with
  | zero =>
    intro p v M hd hp hD h11 hT h14 h15 hv hv2 k hk
    obtain ⟨k, rfl⟩ : ∃ q, k = q + 1 := ⟨k - 1, by omega⟩
    have e1 : fX11_byteAt m (iI p) M = some (iI (bA8 B n p)) := m_byteAt hn h11 hB hT (by omega)
    have b1 := bA8_bd (n := n) hB p
    have e2 := m_isDigit (M := M) b1
    rw [bA8_D hB, if_neg (by omega)] at e2
    rw [rn_e (by omega)]
    refine ⟨v, M, ?_, h14, rfl, h15, hv2, mAh.refl m M⟩
    rw [lX11_ahead_128]
    simp (disch := omega) only [iI_add, iI_sub, iI_mul, iI_neg, iI_nat, addm1, ixkI, ↓sbind, sbind, ↓bdS, bdS, ↓nm_eq, ↓jn_eq, iI_lt, iI_le, iI_eq, k_0, k_1, k_2, k_3, k_4, k_5, k_6, k_7, k_8, k_9, k_10, k_11, k_12, k_13, k_14, k_15, k_16, k_17, k_18, k_19, k_20, k_21, k_22, k_23, k_24, k_27, k_30, k_32, k_48, k_57, k_59, k_60, k_61, k_62, k_63, k_64, k_72, k_78, k_80, k_82, k_97, k_99, k_100, k_122, k_244, k_255, k_268, k_280, k_300, k_432, k_650, k_900, k_901, k_999, k_1700, k_2600, k_2601, k_2602, k_2603, k_2604, k_2610, k_2618, k_2682, k_2777, k_2844, k_2868, k_2880, k_3245, k_3250, k_9551, k_9999, k_65536, k_100000, k_999999, k_1000000, k_2147483647, lt_T, lt_F, le_T, le_F, eq_T, eq_F, ↓reduceIte, not_true_eq_false, not_false_eq_true, or_true, or_false, true_or, false_or, and_true, true_and, and_false, false_and, h14, e1, e2, bI_f]
  | succ d ih =>
    intro p v M hd hp hD h11 hT h14 h15 hv hv2 k hk
    obtain ⟨k, rfl⟩ : ∃ q, k = q + 1 := ⟨k - 1, by omega⟩
    have e1 : fX11_byteAt m (iI p) M = some (iI (bA8 B n p)) := m_byteAt hn h11 hB hT (by omega)
    have b1 := bA8_bd (n := n) hB p
    have e2 := m_isDigit (M := M) b1
    rw [bA8_D hB, if_pos (by omega)] at e2
    by_cases hb : lx_D (B p) = true
    · rw [hb] at e2
      have hd1 := lx_Dt hb
      have e3 : bA8 B n p = B p := by
        unfold bA8 b8
        rw [if_pos (by omega), if_neg (by omega)]
      rw [e3] at e1 e2
      obtain ⟨v1, hv1⟩ : ∃ v1, v1 = if 10 * v + B p - 48 < 100000 then 10 * v + B p - 48 else 100000 := ⟨_, rfl⟩
      have v1b : 0 ≤ v1 ∧ v1 ≤ 100000 := by rw [hv1]; split <;> omega
      obtain ⟨v', M1, r1, r2, r3, r4, r5, r6⟩ := ih (p + 1) v1 (stI (stI M m 15 (iI v1)) m 14 (iI (p + 1))) (by omega) (by omega) (fun q q0 q1 => by
        by_cases z : q = p
        · rw [z]; exact hb
        · exact hD q q0 (by omega)) (by rw [rI_nk (by omega), rI_nk (by omega)]; exact h11) (fun q q0 q1 => by rw [rI_ng (by omega), rI_ng (by omega)]; exact hT q q0 q1) (rI_at rfl rfl) (by rw [rI_nk (by omega)]; exact rI_at rfl rfl) v1b (fun h4 => by
        have d1 := dc_4 (a := fun k => B (s + k)) (k := (p + 1 - s).toNat) (fun i hi => by
          by_cases z : s + (i : Int) = p
          · show 48 ≤ B (s + i) ∧ B (s + i) ≤ 57
            rw [z]; exact hd1
          · exact lx_Dt (hD (s + i) (by omega) (by omega))) (by omega)
        have ec : dcN (fun k => B (s + k)) ((p - s).toNat + 1) = 10 * dcN (fun k => B (s + k)) (p - s).toNat + (B (s + (((p - s).toNat : Nat) : Int)) - 48) := rfl
        rw [show s + (((p - s).toNat : Nat) : Int) = p from by omega] at ec
        rw [show (p + 1 - s).toNat = (p - s).toNat + 1 from by omega] at d1 ⊢
        have q := hv2 (by omega)
        rw [hv1, if_pos (by omega), q]
        omega) k (by omega)
      have rt := rn_t (P := fun k => lx_D (B k)) (n := n) (i := p) (by omega) hb
      refine ⟨v', M1, ?_, by rw [rt]; exact r2, by rw [r3, rI_nk (by omega), rI_nk (by omega)], r4, by rw [rt]; exact r5, ((mAh.st (Or.inr (Or.inr (Or.inr rfl))) M _).trans (mAh.st (Or.inr (Or.inr (Or.inl rfl))) _ _)).trans r6⟩
      have e4 : (stI M m 15 (iI v1)).1 m 14 = iI p := by rw [rI_nk (by omega)]; exact h14
      rw [lX11_ahead_128]
      by_cases z : 10 * v + B p - 48 < 100000
      · rw [if_pos z] at hv1
        rw [hv1] at e4 r1
        simp (disch := omega) only [iI_add, iI_sub, iI_mul, iI_neg, iI_nat, addm1, ixkI, ↓sbind, sbind, ↓bdS, bdS, ↓nm_eq, ↓jn_eq, iI_lt, iI_le, iI_eq, k_0, k_1, k_2, k_3, k_4, k_5, k_6, k_7, k_8, k_9, k_10, k_11, k_12, k_13, k_14, k_15, k_16, k_17, k_18, k_19, k_20, k_21, k_22, k_23, k_24, k_27, k_30, k_32, k_48, k_57, k_59, k_60, k_61, k_62, k_63, k_64, k_72, k_78, k_80, k_82, k_97, k_99, k_100, k_122, k_244, k_255, k_268, k_280, k_300, k_432, k_650, k_900, k_901, k_999, k_1700, k_2600, k_2601, k_2602, k_2603, k_2604, k_2610, k_2618, k_2682, k_2777, k_2844, k_2868, k_2880, k_3245, k_3250, k_9551, k_9999, k_65536, k_100000, k_999999, k_1000000, k_2147483647, lt_T, lt_F, le_T, le_F, eq_T, eq_F, ↓reduceIte, not_true_eq_false, not_false_eq_true, or_true, or_false, true_or, false_or, and_true, true_and, and_false, false_and, h14, h15, e1, e2, bI_t, e4, r1]
      · rw [if_neg z] at hv1
        rw [hv1] at e4 r1
        simp (disch := omega) only [iI_add, iI_sub, iI_mul, iI_neg, iI_nat, addm1, ixkI, ↓sbind, sbind, ↓bdS, bdS, ↓nm_eq, ↓jn_eq, iI_lt, iI_le, iI_eq, k_0, k_1, k_2, k_3, k_4, k_5, k_6, k_7, k_8, k_9, k_10, k_11, k_12, k_13, k_14, k_15, k_16, k_17, k_18, k_19, k_20, k_21, k_22, k_23, k_24, k_27, k_30, k_32, k_48, k_57, k_59, k_60, k_61, k_62, k_63, k_64, k_72, k_78, k_80, k_82, k_97, k_99, k_100, k_122, k_244, k_255, k_268, k_280, k_300, k_432, k_650, k_900, k_901, k_999, k_1700, k_2600, k_2601, k_2602, k_2603, k_2604, k_2610, k_2618, k_2682, k_2777, k_2844, k_2868, k_2880, k_3245, k_3250, k_9551, k_9999, k_65536, k_100000, k_999999, k_1000000, k_2147483647, lt_T, lt_F, le_T, le_F, eq_T, eq_F, ↓reduceIte, not_true_eq_false, not_false_eq_true, or_true, or_false, true_or, false_or, and_true, true_and, and_false, false_and, h14, h15, e1, e2, bI_t, e4, r1]
    · have hb' : lx_D (B p) = false := Bool.eq_false_iff.mpr hb
      rw [hb'] at e2
      rw [rn_f (P := fun k => lx_D (B k)) (by omega) hb']
      refine ⟨v, M, ?_, h14, rfl, h15, hv2, mAh.refl m M⟩
      rw [lX11_ahead_128]
      simp (disch := omega) only [iI_add, iI_sub, iI_mul, iI_neg, iI_nat, addm1, ixkI, ↓sbind, sbind, ↓bdS, bdS, ↓nm_eq, ↓jn_eq, iI_lt, iI_le, iI_eq, k_0, k_1, k_2, k_3, k_4, k_5, k_6, k_7, k_8, k_9, k_10, k_11, k_12, k_13, k_14, k_15, k_16, k_17, k_18, k_19, k_20, k_21, k_22, k_23, k_24, k_27, k_30, k_32, k_48, k_57, k_59, k_60, k_61, k_62, k_63, k_64, k_72, k_78, k_80, k_82, k_97, k_99, k_100, k_122, k_244, k_255, k_268, k_280, k_300, k_432, k_650, k_900, k_901, k_999, k_1700, k_2600, k_2601, k_2602, k_2603, k_2604, k_2610, k_2618, k_2682, k_2777, k_2844, k_2868, k_2880, k_3245, k_3250, k_9551, k_9999, k_65536, k_100000, k_999999, k_1000000, k_2147483647, lt_T, lt_F, le_T, le_F, eq_T, eq_F, ↓reduceIte, not_true_eq_false, not_false_eq_true, or_true, or_false, true_or, false_or, and_true, true_and, and_false, false_and, h14, e1, e2, bI_f]
theorem m_ahead {φ : Nat} (hφ : 2000 < φ) (hn : 0 ≤ n ∧ n ≤ 900) (hB : ∀ k, -128 ≤ B k ∧ B k ≤ 127) {p : Int} (hp : 0 ≤ p ∧ p ≤ n) (h17 : M.1 m 17 = iI (-1)) (h11 : M.1 m 11 = iI n) (hT : TX (m + 7) B n M) (h14 : M.1 m 14 = iI p) : ∃ M1, fX11_ahead φ m M = some ((), M1) ∧ RKp m B n p M1 ∧ mAh m M M1 := by
  obtain ⟨s, hs⟩ : ∃ s, s = rn (fun k => lx_B (B k)) n p := ⟨_, rfl⟩
  have sr := rn_r (P := fun k => lx_B (B k)) (n := n) (i := p) hp.2
  rw [← hs] at sr
  have htok : tok B n p = tokS B n s := by rw [hs]; rfl
  have fin : ∀ M0 : Mem, mAh m M M0 → M0.1 m 14 = iI s → ∃ M1, (nm (stI M0 m 13 (M0.1 m 14)) (fun M6 =>
 (fX11_byteAt m (M6.1 m 14) M6).bind fun v7 =>
 nm (stI M6 m 15 v7) (fun M8 =>
 if v7 = (-1 : Int32) then
 nm (stI M8 m 12 (0 : Int32)) (fun M30 =>
 some ((), M30))
 else
 (fX11_isSmall v7 M8).bind fun v9 =>
 if v9 = 0 then
 (fX11_isDigit v7 M8).bind fun v10 =>
 if v10 = 0 then
 nm (stI M8 m 14 ((M8.1 m 14) + (1 : Int32))) (fun M11 =>
 if v7 = (59 : Int32) then
 nm (stI M11 m 12 (4 : Int32)) (fun M12 =>
 some ((), M12))
 else
 if v7 = (60 : Int32) then
 nm (stI M11 m 12 (4 : Int32)) (fun M13 =>
 some ((), M13))
 else
 if v7 = (62 : Int32) then
 nm (stI M11 m 12 (4 : Int32)) (fun M14 =>
 some ((), M14))
 else
 if v7 = (61 : Int32) then
 nm (stI M11 m 12 (4 : Int32)) (fun M16 =>
 some ((), M16))
 else
 nm (stI M11 m 12 (1 : Int32)) (fun M15 =>
 some ((), M15)))
 else
 nm (stI M8 m 15 (0 : Int32)) (fun M17 =>
 lX11_ahead_128 (fun (M23 : Mem) => if ((M23.1 m 14) - (M23.1 m 13)) ≤ (4 : Int32) then
 nm (stI M23 m 12 (3 : Int32)) (fun M24 =>
 some ((), M24))
 else
 nm (stI M23 m 12 (1 : Int32)) (fun M25 =>
 some ((), M25))) m φ M17)
 else
 lX11_ahead_81 m φ M8)) : Option (Unit × Mem)) = some ((), M1) ∧ RKp m B n p M1 ∧ mAh m M M1 := by
    intro M0 A0 h14
    have h11 : M0.1 m 11 = iI n := by rw [A0.1 11 (by omega) (by omega) (by omega) (by omega)]; exact h11
    have hT : TX (m + 7) B n M0 := fun q q0 q1 => by rw [(A0.2.2 (m + 7) (by omega)).1]; exact hT q q0 q1
    have A6 : mAh m M (stI M0 m 13 (iI s)) := A0.trans (mAh.st (Or.inr (Or.inl rfl)) M0 _)
    have c14 : (stI M0 m 13 (iI s)).1 m 14 = iI s := by rw [rI_nk (by omega)]; exact h14
    have c11 : (stI M0 m 13 (iI s)).1 m 11 = iI n := by rw [rI_nk (by omega)]; exact h11
    have cT : TX (m + 7) B n (stI M0 m 13 (iI s)) := fun q q0 q1 => by rw [rI_ng (by omega)]; exact hT q q0 q1
    have e1 : fX11_byteAt m (iI s) (stI M0 m 13 (iI s)) = some (iI (bA8 B n s)) := m_byteAt hn c11 hB cT (by omega)
    have b1 := bA8_bd (n := n) hB s
    obtain ⟨M8, hM8⟩ : ∃ M8, M8 = stI (stI M0 m 13 (iI s)) m 15 (iI (bA8 B n s)) := ⟨_, rfl⟩
    have A8 : mAh m M M8 := by rw [hM8]; exact A6.trans (mAh.st (Or.inr (Or.inr (Or.inr rfl))) _ _)
    have d14 : M8.1 m 14 = iI s := by rw [hM8, rI_nk (by omega)]; exact c14
    have d11 : M8.1 m 11 = iI n := by rw [hM8, rI_nk (by omega)]; exact c11
    have d13 : M8.1 m 13 = iI s := by rw [hM8, rI_nk (by omega)]; exact rI_at rfl rfl
    have d15 : M8.1 m 15 = iI (bA8 B n s) := by rw [hM8]; exact rI_at rfl rfl
    have dT : TX (m + 7) B n M8 := fun q q0 q1 => by rw [hM8, rI_ng (by omega)]; exact cT q q0 q1
    have e2 := m_isSmall (M := M8) b1
    have e3 := m_isDigit (M := M8) b1
    have mk : ∀ M1 : Mem, mAh m M M1 → RK m (tokS B n s) M1 → RKp m B n p M1 := fun M1 A R => ⟨⟨hp, by rw [A.1 17 (by omega) (by omega) (by omega) (by omega)]; exact h17⟩, by rw [A.1 11 (by omega) (by omega) (by omega) (by omega), ← A0.1 11 (by omega) (by omega) (by omega) (by omega)]; exact h11, fun q q0 q1 => by rw [(A.2.2 (m + 7) (by omega)).1, ← (A0.2.2 (m + 7) (by omega)).1]; exact hT q q0 q1, by rw [htok]; exact R⟩
    have zm : (-1 : Int32) = iI (-1) := rfl
    rw [h14, nm_eq, c14, e1, sbind, nm_eq, ← hM8, zm]
    by_cases hsn : n ≤ s
    · have e4 : bA8 B n s = -1 := if_neg (by omega)
      have A9 := A8.trans (mAh.st (m := m) (Or.inl rfl) M8 (iI 0))
      refine ⟨stI M8 m 12 (iI 0), ?_, mk _ A9 ?_, A9⟩
      · rw [e4, if_pos rfl]
        rfl
      · unfold tokS
        rw [if_pos hsn]
        refine ⟨rI_at rfl rfl, ?_, ?_, fun h => by rcases h with h | h <;> exact absurd (show (0 : Int) = _ from h) (by decide)⟩
        · show _ = iI n
          rw [rI_nk (by omega), d13, show s = n from by omega]
        · show _ = iI n
          rw [rI_nk (by omega), d14, show s = n from by omega]
    have hlt : s < n := by omega
    have hnb := hB s
    have ne : ¬ (iI (bA8 B n s) = iI (-1)) := by
      rw [iI_eq (by omega) (by omega)]
      unfold bA8 b8
      rw [if_pos hlt]
      split <;> omega
    rw [if_neg ne]
    rw [bA8_L hB, if_pos hlt] at e2
    rw [bA8_D hB, if_pos hlt] at e3
    by_cases hl : lx_L (B s) = true
    · rw [hl] at e2
      obtain ⟨M1, r1, r2, r3, r4, r5⟩ := m_ah81 (m := m) hn hB (n - s).toNat s M8 (by omega) (by omega) d11 dT d14 φ (by omega)
      refine ⟨M1, ?_, mk _ (A8.trans r5) ?_, A8.trans r5⟩
      · rw [e2, sbind, if_neg (by rw [bI_t]; decide)]
        exact r1
      · unfold tokS
        rw [if_neg hsn, if_pos hl]
        exact ⟨r3, by rw [r4]; exact d13, r2, fun h => by rcases h with h | h <;> exact absurd (show (1 : Int) = _ from h) (by decide)⟩
    have hl' : lx_L (B s) = false := Bool.eq_false_iff.mpr hl
    rw [hl'] at e2
    rw [e2, sbind, if_pos (by rw [bI_f]; rfl)]
    by_cases hd : lx_D (B s) = true
    · rw [hd] at e3
      have A9 : mAh m M (stI M8 m 15 (iI 0)) := A8.trans (mAh.st (Or.inr (Or.inr (Or.inr rfl))) M8 (iI 0))
      obtain ⟨v', M1, r1, r2, r3, r4, r5, r6⟩ := m_ah128 (m := m) (fun (M23 : Mem) => if ((M23.1 m 14) - (M23.1 m 13)) ≤ (4 : Int32) then nm (stI M23 m 12 (3 : Int32)) (fun M24 => some ((), M24)) else nm (stI M23 m 12 (1 : Int32)) (fun M25 => some ((), M25))) hn hB (s := s) (by omega) (n - s).toNat s 0 (stI M8 m 15 (iI 0)) (by omega) (by omega) (fun q q0 q1 => by omega) (by rw [rI_nk (by omega)]; exact d11) (fun q q0 q1 => by rw [rI_ng (by omega)]; exact dT q q0 q1) (by rw [rI_nk (by omega)]; exact d14) (rI_at rfl rfl) (by omega) (fun _ => by rw [show s - s = 0 from by omega]; rfl) φ (by omega)
      have r3 : M1.1 m 13 = iI s := by rw [r3, rI_nk (by omega)]; exact d13
      obtain ⟨e, he⟩ : ∃ e, e = rn (fun k => lx_D (B k)) n s := ⟨_, rfl⟩
      have er := rn_r (P := fun k => lx_D (B k)) (n := n) (i := s) (by omega)
      rw [← he] at r2 r5 er
      have htk : tokS B n s = (if e - s ≤ 4 then 2 else 4, s, dcN (fun k => B (s + k)) (e - s).toNat, e, 0) := by
        unfold tokS
        rw [if_neg hsn, if_neg hl, if_pos hd, ← he]
      rw [e3, sbind, if_neg (by rw [bI_t]; decide), nm_eq]
      by_cases q : e - s ≤ 4
      · have A10 := (A9.trans r6).trans (mAh.st (m := m) (Or.inl rfl) M1 (iI 3))
        refine ⟨stI M1 m 12 (iI 3), ?_, mk _ A10 ?_, A10⟩
        · refine Eq.trans r1 ?_
          simp (disch := omega) only [iI_add, iI_sub, iI_mul, iI_neg, iI_nat, addm1, ixkI, ↓sbind, sbind, ↓bdS, bdS, ↓nm_eq, ↓jn_eq, iI_lt, iI_le, iI_eq, k_0, k_1, k_2, k_3, k_4, k_5, k_6, k_7, k_8, k_9, k_10, k_11, k_12, k_13, k_14, k_15, k_16, k_17, k_18, k_19, k_20, k_21, k_22, k_23, k_24, k_27, k_30, k_32, k_48, k_57, k_59, k_60, k_61, k_62, k_63, k_64, k_72, k_78, k_80, k_82, k_97, k_99, k_100, k_122, k_244, k_255, k_268, k_280, k_300, k_432, k_650, k_900, k_901, k_999, k_1700, k_2600, k_2601, k_2602, k_2603, k_2604, k_2610, k_2618, k_2682, k_2777, k_2844, k_2868, k_2880, k_3245, k_3250, k_9551, k_9999, k_65536, k_100000, k_999999, k_1000000, k_2147483647, lt_T, lt_F, le_T, le_F, eq_T, eq_F, ↓reduceIte, not_true_eq_false, not_false_eq_true, or_true, or_false, true_or, false_or, and_true, true_and, and_false, false_and, r2, r3]
        · rw [htk, if_pos q]
          refine ⟨rI_at rfl rfl, by rw [rI_nk (by omega)]; exact r3, by rw [rI_nk (by omega)]; exact r2, fun _ => ?_⟩
          rw [rI_nk (by omega), r4, r5 q]
      · have A10 := (A9.trans r6).trans (mAh.st (m := m) (Or.inl rfl) M1 (iI 1))
        refine ⟨stI M1 m 12 (iI 1), ?_, mk _ A10 ?_, A10⟩
        · refine Eq.trans r1 ?_
          simp (disch := omega) only [iI_add, iI_sub, iI_mul, iI_neg, iI_nat, addm1, ixkI, ↓sbind, sbind, ↓bdS, bdS, ↓nm_eq, ↓jn_eq, iI_lt, iI_le, iI_eq, k_0, k_1, k_2, k_3, k_4, k_5, k_6, k_7, k_8, k_9, k_10, k_11, k_12, k_13, k_14, k_15, k_16, k_17, k_18, k_19, k_20, k_21, k_22, k_23, k_24, k_27, k_30, k_32, k_48, k_57, k_59, k_60, k_61, k_62, k_63, k_64, k_72, k_78, k_80, k_82, k_97, k_99, k_100, k_122, k_244, k_255, k_268, k_280, k_300, k_432, k_650, k_900, k_901, k_999, k_1700, k_2600, k_2601, k_2602, k_2603, k_2604, k_2610, k_2618, k_2682, k_2777, k_2844, k_2868, k_2880, k_3245, k_3250, k_9551, k_9999, k_65536, k_100000, k_999999, k_1000000, k_2147483647, lt_T, lt_F, le_T, le_F, eq_T, eq_F, ↓reduceIte, not_true_eq_false, not_false_eq_true, or_true, or_false, true_or, false_or, and_true, true_and, and_false, false_and, r2, r3]
        · rw [htk, if_neg q]
          exact ⟨rI_at rfl rfl, by rw [rI_nk (by omega)]; exact r3, by rw [rI_nk (by omega)]; exact r2, fun h => by rcases h with h | h <;> exact absurd (show (4 : Int) = _ from h) (by decide)⟩
    have hd' : lx_D (B s) = false := Bool.eq_false_iff.mpr hd
    rw [hd'] at e3
    rw [e3, sbind, if_pos (by rw [bI_f]; rfl), d14, k_1, iI_add, nm_eq]
    have A9 : mAh m M (stI M8 m 14 (iI (s + 1))) := A8.trans (mAh.st (Or.inr (Or.inr (Or.inl rfl))) M8 _)
    have f13 : (stI M8 m 14 (iI (s + 1))).1 m 13 = iI s := by rw [rI_nk (by omega)]; exact d13
    have f15 : (stI M8 m 14 (iI (s + 1))).1 m 15 = iI (bA8 B n s) := by rw [rI_nk (by omega)]; exact d15
    have htk : tokS B n s = (if lx_S (B s) = true then 3 else 4, s, B s, s + 1, 0) := by
      unfold tokS
      rw [if_neg hsn, if_neg hl, if_neg hd]
    have b8s : bA8 B n s = b8 (B s) := if_pos hlt
    have sign : (B s = 59 ∨ B s = 60 ∨ B s = 62 ∨ B s = 61) → RK m (tokS B n s) (stI (stI M8 m 14 (iI (s + 1))) m 12 (iI 4)) := fun h => by
      rw [htk, if_pos (show lx_S (B s) = true from decide_eq_true h)]
      refine ⟨rI_at rfl rfl, by rw [rI_nk (by omega)]; exact f13, by rw [rI_nk (by omega)]; exact rI_at rfl rfl, fun _ => ?_⟩
      rw [rI_nk (by omega), f15, b8s]
      unfold b8
      rw [if_neg (by omega)]
    have A10 := A9.trans (mAh.st (m := m) (Or.inl rfl) (stI M8 m 14 (iI (s + 1))) (iI 4))
    have A11 := A9.trans (mAh.st (m := m) (Or.inl rfl) (stI M8 m 14 (iI (s + 1))) (iI 1))
    by_cases q1 : B s = 59
    · have eb : bA8 B n s = 59 := by rw [b8s, q1]; rfl
      refine ⟨_, ?_, mk _ A10 (sign (by omega)), A10⟩
      simp (disch := omega) only [iI_add, iI_sub, iI_mul, iI_neg, iI_nat, addm1, ixkI, ↓sbind, sbind, ↓bdS, bdS, ↓nm_eq, ↓jn_eq, iI_lt, iI_le, iI_eq, k_0, k_1, k_2, k_3, k_4, k_5, k_6, k_7, k_8, k_9, k_10, k_11, k_12, k_13, k_14, k_15, k_16, k_17, k_18, k_19, k_20, k_21, k_22, k_23, k_24, k_27, k_30, k_32, k_48, k_57, k_59, k_60, k_61, k_62, k_63, k_64, k_72, k_78, k_80, k_82, k_97, k_99, k_100, k_122, k_244, k_255, k_268, k_280, k_300, k_432, k_650, k_900, k_901, k_999, k_1700, k_2600, k_2601, k_2602, k_2603, k_2604, k_2610, k_2618, k_2682, k_2777, k_2844, k_2868, k_2880, k_3245, k_3250, k_9551, k_9999, k_65536, k_100000, k_999999, k_1000000, k_2147483647, lt_T, lt_F, le_T, le_F, eq_T, eq_F, ↓reduceIte, not_true_eq_false, not_false_eq_true, or_true, or_false, true_or, false_or, and_true, true_and, and_false, false_and, eb]
    by_cases q2 : B s = 60
    · have eb : bA8 B n s = 60 := by rw [b8s, q2]; rfl
      refine ⟨_, ?_, mk _ A10 (sign (by omega)), A10⟩
      simp (disch := omega) only [iI_add, iI_sub, iI_mul, iI_neg, iI_nat, addm1, ixkI, ↓sbind, sbind, ↓bdS, bdS, ↓nm_eq, ↓jn_eq, iI_lt, iI_le, iI_eq, k_0, k_1, k_2, k_3, k_4, k_5, k_6, k_7, k_8, k_9, k_10, k_11, k_12, k_13, k_14, k_15, k_16, k_17, k_18, k_19, k_20, k_21, k_22, k_23, k_24, k_27, k_30, k_32, k_48, k_57, k_59, k_60, k_61, k_62, k_63, k_64, k_72, k_78, k_80, k_82, k_97, k_99, k_100, k_122, k_244, k_255, k_268, k_280, k_300, k_432, k_650, k_900, k_901, k_999, k_1700, k_2600, k_2601, k_2602, k_2603, k_2604, k_2610, k_2618, k_2682, k_2777, k_2844, k_2868, k_2880, k_3245, k_3250, k_9551, k_9999, k_65536, k_100000, k_999999, k_1000000, k_2147483647, lt_T, lt_F, le_T, le_F, eq_T, eq_F, ↓reduceIte, not_true_eq_false, not_false_eq_true, or_true, or_false, true_or, false_or, and_true, true_and, and_false, false_and, eb]
    by_cases q3 : B s = 62
    · have eb : bA8 B n s = 62 := by rw [b8s, q3]; rfl
      refine ⟨_, ?_, mk _ A10 (sign (by omega)), A10⟩
      simp (disch := omega) only [iI_add, iI_sub, iI_mul, iI_neg, iI_nat, addm1, ixkI, ↓sbind, sbind, ↓bdS, bdS, ↓nm_eq, ↓jn_eq, iI_lt, iI_le, iI_eq, k_0, k_1, k_2, k_3, k_4, k_5, k_6, k_7, k_8, k_9, k_10, k_11, k_12, k_13, k_14, k_15, k_16, k_17, k_18, k_19, k_20, k_21, k_22, k_23, k_24, k_27, k_30, k_32, k_48, k_57, k_59, k_60, k_61, k_62, k_63, k_64, k_72, k_78, k_80, k_82, k_97, k_99, k_100, k_122, k_244, k_255, k_268, k_280, k_300, k_432, k_650, k_900, k_901, k_999, k_1700, k_2600, k_2601, k_2602, k_2603, k_2604, k_2610, k_2618, k_2682, k_2777, k_2844, k_2868, k_2880, k_3245, k_3250, k_9551, k_9999, k_65536, k_100000, k_999999, k_1000000, k_2147483647, lt_T, lt_F, le_T, le_F, eq_T, eq_F, ↓reduceIte, not_true_eq_false, not_false_eq_true, or_true, or_false, true_or, false_or, and_true, true_and, and_false, false_and, eb]
    by_cases q4 : B s = 61
    · have eb : bA8 B n s = 61 := by rw [b8s, q4]; rfl
      refine ⟨_, ?_, mk _ A10 (sign (by omega)), A10⟩
      simp (disch := omega) only [iI_add, iI_sub, iI_mul, iI_neg, iI_nat, addm1, ixkI, ↓sbind, sbind, ↓bdS, bdS, ↓nm_eq, ↓jn_eq, iI_lt, iI_le, iI_eq, k_0, k_1, k_2, k_3, k_4, k_5, k_6, k_7, k_8, k_9, k_10, k_11, k_12, k_13, k_14, k_15, k_16, k_17, k_18, k_19, k_20, k_21, k_22, k_23, k_24, k_27, k_30, k_32, k_48, k_57, k_59, k_60, k_61, k_62, k_63, k_64, k_72, k_78, k_80, k_82, k_97, k_99, k_100, k_122, k_244, k_255, k_268, k_280, k_300, k_432, k_650, k_900, k_901, k_999, k_1700, k_2600, k_2601, k_2602, k_2603, k_2604, k_2610, k_2618, k_2682, k_2777, k_2844, k_2868, k_2880, k_3245, k_3250, k_9551, k_9999, k_65536, k_100000, k_999999, k_1000000, k_2147483647, lt_T, lt_F, le_T, le_F, eq_T, eq_F, ↓reduceIte, not_true_eq_false, not_false_eq_true, or_true, or_false, true_or, false_or, and_true, true_and, and_false, false_and, eb]
    · have nb : bA8 B n s ≠ 59 ∧ bA8 B n s ≠ 60 ∧ bA8 B n s ≠ 62 ∧ bA8 B n s ≠ 61 := by
        rw [b8s]
        unfold b8
        split <;> omega
      refine ⟨_, ?_, mk _ A11 ?_, A11⟩
      · simp (disch := omega) only [iI_add, iI_sub, iI_mul, iI_neg, iI_nat, addm1, ixkI, ↓sbind, sbind, ↓bdS, bdS, ↓nm_eq, ↓jn_eq, iI_lt, iI_le, iI_eq, k_0, k_1, k_2, k_3, k_4, k_5, k_6, k_7, k_8, k_9, k_10, k_11, k_12, k_13, k_14, k_15, k_16, k_17, k_18, k_19, k_20, k_21, k_22, k_23, k_24, k_27, k_30, k_32, k_48, k_57, k_59, k_60, k_61, k_62, k_63, k_64, k_72, k_78, k_80, k_82, k_97, k_99, k_100, k_122, k_244, k_255, k_268, k_280, k_300, k_432, k_650, k_900, k_901, k_999, k_1700, k_2600, k_2601, k_2602, k_2603, k_2604, k_2610, k_2618, k_2682, k_2777, k_2844, k_2868, k_2880, k_3245, k_3250, k_9551, k_9999, k_65536, k_100000, k_999999, k_1000000, k_2147483647, lt_T, lt_F, le_T, le_F, eq_T, eq_F, ↓reduceIte, not_true_eq_false, not_false_eq_true, or_true, or_false, true_or, false_or, and_true, true_and, and_false, false_and]
      · rw [htk, if_neg (show ¬ lx_S (B s) = true from fun h => by
          have := of_decide_eq_true (p := B s = 59 ∨ B s = 60 ∨ B s = 62 ∨ B s = 61) h
          omega)]
        exact ⟨rI_at rfl rfl, by rw [rI_nk (by omega)]; exact f13, by rw [rI_nk (by omega)]; exact rI_at rfl rfl, fun h => by rcases h with h | h <;> exact absurd (show (4 : Int) = _ from h) (by decide)⟩
  obtain ⟨M0, r1, r2, r3⟩ := m_ah0 (m := m) (fun (M5 : Mem) => nm (stI M5 m 13 (M5.1 m 14)) (fun M6 =>
 (fX11_byteAt m (M6.1 m 14) M6).bind fun v7 =>
 nm (stI M6 m 15 v7) (fun M8 =>
 if v7 = (-1 : Int32) then
 nm (stI M8 m 12 (0 : Int32)) (fun M30 =>
 some ((), M30))
 else
 (fX11_isSmall v7 M8).bind fun v9 =>
 if v9 = 0 then
 (fX11_isDigit v7 M8).bind fun v10 =>
 if v10 = 0 then
 nm (stI M8 m 14 ((M8.1 m 14) + (1 : Int32))) (fun M11 =>
 if v7 = (59 : Int32) then
 nm (stI M11 m 12 (4 : Int32)) (fun M12 =>
 some ((), M12))
 else
 if v7 = (60 : Int32) then
 nm (stI M11 m 12 (4 : Int32)) (fun M13 =>
 some ((), M13))
 else
 if v7 = (62 : Int32) then
 nm (stI M11 m 12 (4 : Int32)) (fun M14 =>
 some ((), M14))
 else
 if v7 = (61 : Int32) then
 nm (stI M11 m 12 (4 : Int32)) (fun M16 =>
 some ((), M16))
 else
 nm (stI M11 m 12 (1 : Int32)) (fun M15 =>
 some ((), M15)))
 else
 nm (stI M8 m 15 (0 : Int32)) (fun M17 =>
 lX11_ahead_128 (fun (M23 : Mem) => if ((M23.1 m 14) - (M23.1 m 13)) ≤ (4 : Int32) then
 nm (stI M23 m 12 (3 : Int32)) (fun M24 =>
 some ((), M24))
 else
 nm (stI M23 m 12 (1 : Int32)) (fun M25 =>
 some ((), M25))) m φ M17)
 else
 lX11_ahead_81 m φ M8))) hn hB (n - p).toNat p M (by omega) hp.1 h11 hT h14 φ (by omega)
  rw [← hs] at r2
  obtain ⟨M1, s1, s2, s3⟩ := fin M0 r3 r2
  refine ⟨M1, ?_, s2, s3⟩
  unfold fX11_ahead
  exact r1.trans s1
end AH
