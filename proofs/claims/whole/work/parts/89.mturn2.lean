/-! the reference's turns at stops and conditions -/
section MU
variable {m : Nat} {F : Fld} {M : Mem} {Y : Yr} {N : Int}
theorem YM.st40 (hY : YM m N Y M) (v : Int32) : YM m N Y (stI M m 40 v) := ⟨by rw [rI_ng (by omega)]; exact hY.1, fun a b a0 a1 b0 b1 => by rw [rI_ng (by omega)]; exact hY.2 a b a0 a1 b0 b1⟩
theorem my_turn_stop (hY : YM m N Y M) (hN : N ≤ 60) {x n : Int} (hx : 0 ≤ x ∧ x < N) (hk : Y x 0 = 20) (h2 : M.1 m 40 = iI n) (hn : 0 ≤ n ∧ n < 300) {φ : Nat} (K : Mem → Option (Unit × Mem)) (k : Nat) : lX11_lives_32 K φ m (k + 1) (iI x) M = some ((), stI M m 40 (iI (n + 1))) := by
  have e0 : M.1 (m + 1) (Int.toNat 4) = iI N := hY.1
  have z3 : (300 : Int32) = iI 300 := rfl
  have e2 := (hY.st40 (iI (n + 1))).at0 hx
  rw [hk] at e2
  rw [lX11_lives_32]
  simp (disch := omega) only [iI_add, iI_sub, iI_mul, iI_neg, iI_nat, addm1, ixkI, ↓sbind, sbind, ↓bdS, bdS, ↓nm_eq, ↓jn_eq, iI_lt, iI_le, iI_eq, k_0, k_1, k_2, k_3, k_4, k_5, k_6, k_7, k_8, k_9, k_10, k_11, k_12, k_13, k_14, k_15, k_16, k_17, k_18, k_19, k_20, k_21, k_22, k_23, k_24, k_27, k_30, k_32, k_48, k_57, k_59, k_60, k_61, k_62, k_63, k_64, k_72, k_78, k_80, k_82, k_97, k_99, k_100, k_122, k_244, k_255, k_268, k_280, k_300, k_432, k_650, k_900, k_901, k_999, k_1700, k_2600, k_2601, k_2602, k_2603, k_2604, k_2610, k_2618, k_2682, k_2777, k_2844, k_2868, k_2880, k_3245, k_3250, k_9551, k_9999, k_65536, k_100000, k_999999, k_1000000, k_2147483647, lt_T, lt_F, le_T, le_F, eq_T, eq_F, ↓reduceIte, not_true_eq_false, not_false_eq_true, or_true, or_false, true_or, false_or, and_true, true_and, and_false, false_and, z3, e0, h2, e2]
theorem m_does_no (hY : YM m N Y M) (hN : N ≤ 60) {x : Int} (hx : 0 ≤ x ∧ x < N) (hk : 17 ≤ Y x 0 ∧ Y x 0 ≤ 9999) {φ : Nat} : fX11_does φ m (iI (280 + 6 * x)) M = some ((), M) := by
  have e0 := hY.at0 hx
  have e1 := hY.at (c := 1) hx (by omega)
  have e2 := hY.at (c := 2) hx (by omega)
  unfold fX11_does
  simp (disch := omega) only [iI_add, iI_sub, iI_mul, iI_neg, iI_nat, addm1, ixkI, ↓sbind, sbind, ↓bdS, bdS, ↓nm_eq, ↓jn_eq, iI_lt, iI_le, iI_eq, k_0, k_1, k_2, k_3, k_4, k_5, k_6, k_7, k_8, k_9, k_10, k_11, k_12, k_13, k_14, k_15, k_16, k_17, k_18, k_19, k_20, k_21, k_22, k_23, k_24, k_27, k_30, k_32, k_48, k_57, k_59, k_60, k_61, k_62, k_63, k_64, k_72, k_78, k_80, k_82, k_97, k_99, k_100, k_122, k_244, k_255, k_268, k_280, k_300, k_432, k_650, k_900, k_901, k_999, k_1700, k_2600, k_2601, k_2602, k_2603, k_2604, k_2610, k_2618, k_2682, k_2777, k_2844, k_2868, k_2880, k_3245, k_3250, k_9551, k_9999, k_65536, k_100000, k_999999, k_1000000, k_2147483647, lt_T, lt_F, le_T, le_F, eq_T, eq_F, ↓reduceIte, not_true_eq_false, not_false_eq_true, or_true, or_false, true_or, false_or, and_true, true_and, and_false, false_and, e0, e1, e2]
theorem my_turn_when (w : WF F) (hY : YM m N Y M) (hN : N ≤ 60) {x n : Int} (hx : 0 ≤ x ∧ x < N) (hk : 1700 ≤ Y x 0 ∧ Y x 0 ≤ 9999) (h2 : M.1 m 40 = iI n) (hn : 0 ≤ n ∧ n < 300) {φ : Nat} {z : Int} {M9 : Mem} {b : Bool} (hh : fX11_holds φ m (iI (280 + 6 * x)) (stI M m 40 (iI (n + 1))) = some (bI b)) (hb : fX11_behindEnds φ m (iI (if b = true then x + 1 else Y x 4 + 1)) (stI M m 40 (iI (n + 1))) = some (iI z, M9)) (K : Mem → Option (Unit × Mem)) (k : Nat) : lX11_lives_32 K φ m (k + 1) (iI x) M = lX11_lives_32 K φ m k (iI z) M9 := by
  have e0 : M.1 (m + 1) (Int.toNat 4) = iI N := hY.1
  have z3 : (300 : Int32) = iI 300 := rfl
  have e2 := (hY.st40 (iI (n + 1))).at0 hx
  have e4 := (hY.st40 (iI (n + 1))).at (c := 4) hx (by omega)
  have e5 := m_does_no (φ := φ) (hY.st40 (iI (n + 1))) hN hx (by omega)
  rw [lX11_lives_32]
  cases b with
  | true =>
    rw [if_pos rfl] at hb
    simp (disch := omega) only [iI_add, iI_sub, iI_mul, iI_neg, iI_nat, addm1, ixkI, ↓sbind, sbind, ↓bdS, bdS, ↓nm_eq, ↓jn_eq, iI_lt, iI_le, iI_eq, k_0, k_1, k_2, k_3, k_4, k_5, k_6, k_7, k_8, k_9, k_10, k_11, k_12, k_13, k_14, k_15, k_16, k_17, k_18, k_19, k_20, k_21, k_22, k_23, k_24, k_27, k_30, k_32, k_48, k_57, k_59, k_60, k_61, k_62, k_63, k_64, k_72, k_78, k_80, k_82, k_97, k_99, k_100, k_122, k_244, k_255, k_268, k_280, k_300, k_432, k_650, k_900, k_901, k_999, k_1700, k_2600, k_2601, k_2602, k_2603, k_2604, k_2610, k_2618, k_2682, k_2777, k_2844, k_2868, k_2880, k_3245, k_3250, k_9551, k_9999, k_65536, k_100000, k_999999, k_1000000, k_2147483647, lt_T, lt_F, le_T, le_F, eq_T, eq_F, ↓reduceIte, not_true_eq_false, not_false_eq_true, or_true, or_false, true_or, false_or, and_true, true_and, and_false, false_and, z3, e0, h2, e2, e5, hh, bI_t, hb]
  | false =>
    rw [if_neg (by decide)] at hb
    simp (disch := omega) only [iI_add, iI_sub, iI_mul, iI_neg, iI_nat, addm1, ixkI, ↓sbind, sbind, ↓bdS, bdS, ↓nm_eq, ↓jn_eq, iI_lt, iI_le, iI_eq, k_0, k_1, k_2, k_3, k_4, k_5, k_6, k_7, k_8, k_9, k_10, k_11, k_12, k_13, k_14, k_15, k_16, k_17, k_18, k_19, k_20, k_21, k_22, k_23, k_24, k_27, k_30, k_32, k_48, k_57, k_59, k_60, k_61, k_62, k_63, k_64, k_72, k_78, k_80, k_82, k_97, k_99, k_100, k_122, k_244, k_255, k_268, k_280, k_300, k_432, k_650, k_900, k_901, k_999, k_1700, k_2600, k_2601, k_2602, k_2603, k_2604, k_2610, k_2618, k_2682, k_2777, k_2844, k_2868, k_2880, k_3245, k_3250, k_9551, k_9999, k_65536, k_100000, k_999999, k_1000000, k_2147483647, lt_T, lt_F, le_T, le_F, eq_T, eq_F, ↓reduceIte, not_true_eq_false, not_false_eq_true, or_true, or_false, true_or, false_or, and_true, true_and, and_false, false_and, z3, e0, h2, e2, e4, e5, hh, bI_f, hb]
end MU
