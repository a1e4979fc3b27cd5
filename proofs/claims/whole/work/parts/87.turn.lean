/-! a counted turn, the last turns -/
section TV
variable {m g y t : Nat} {M : Mem} {Y : Yr} {N : Int}
theorem y_k_nend {k : Int} (h : 0 ≤ k ∧ k ≤ 9999) (h1 : k ≠ 19) (h2 : k ≠ 22) : y_k k ≠ 22 ∧ 0 ≤ y_k k ∧ y_k k ≤ 9999 := by
  unfold y_k
  split
  · omega
  · split
    · omega
    · split
      · omega
      · split
        · omega
        · split
          · omega
          · omega
theorem cy_turn (hY : YC y N Y M) (hN : N ≤ 60) {x u n : Int} (hx : 0 ≤ x ∧ x < N) (hk : 0 ≤ Y x 0 ∧ Y x 0 ≤ 9999 ∧ Y x 0 ≠ 19 ∧ Y x 0 ≠ 22) (h6 : M.1 t 6 = iI 0) (h2 : M.1 t 2 = iI n) (hn : 0 ≤ n ∧ n < 300) (hu : 0 ≤ u ∧ u < 1000000) {φ : Nat} {z : Int} {M1 : Mem} (hs : fX3_behindStep φ t y (iI x) g (stI M t 2 (iI (n + 1))) = some (iI z, M1)) (k : Nat) : lX3_run_41 φ t y g (k + 1) (iI x) (iI u) M = lX3_run_41 φ t y g k (iI z) (iI (u + 1)) M1 := by
  obtain ⟨e1, e2, e3, e4, e5⟩ := hY.2 x hx.1 hx.2
  have n1 := hY.1
  obtain ⟨q1, q2⟩ := y_k_nend ⟨hk.1, hk.2.1⟩ hk.2.2.1 hk.2.2.2
  have z3 : (300 : Int32) = iI 300 := rfl
  have z4 : (1000000 : Int32) = iI 1000000 := rfl
  rw [lX3_run_41]
  simp (disch := omega) only [iI_add, iI_sub, iI_mul, iI_neg, iI_nat, addm1, ixkI, ↓sbind, sbind, ↓bdS, bdS, ↓nm_eq, ↓jn_eq, iI_lt, iI_le, iI_eq, k_0, k_1, k_2, k_3, k_4, k_5, k_6, k_7, k_8, k_9, k_10, k_11, k_12, k_13, k_14, k_15, k_16, k_17, k_18, k_19, k_20, k_21, k_22, k_23, k_24, k_27, k_30, k_32, k_48, k_57, k_59, k_60, k_61, k_62, k_63, k_64, k_72, k_78, k_80, k_82, k_97, k_99, k_100, k_122, k_244, k_255, k_268, k_280, k_300, k_432, k_650, k_900, k_901, k_999, k_1700, k_2600, k_2601, k_2602, k_2603, k_2604, k_2610, k_2618, k_2682, k_2777, k_2844, k_2868, k_2880, k_3245, k_3250, k_9551, k_9999, k_65536, k_100000, k_999999, k_1000000, k_2147483647, lt_T, lt_F, le_T, le_F, eq_T, eq_F, ↓reduceIte, not_true_eq_false, not_false_eq_true, or_true, or_false, true_or, false_or, and_true, true_and, and_false, false_and, z3, z4, n1, h6, h2, e1, hs]
theorem cy_turn_full (hY : YC y N Y M) (hN : N ≤ 60) {x u : Int} (hx : 0 ≤ x ∧ x < N) (ht : t < y ∨ y + 5 < t) (hk : 0 ≤ Y x 0 ∧ Y x 0 ≤ 9999 ∧ Y x 0 ≠ 19 ∧ Y x 0 ≠ 22) (h6 : M.1 t 6 = iI 0) (h2 : M.1 t 2 = iI 300) (hu : 0 ≤ u ∧ u < 900000) {φ : Nat} (k : Nat) : lX3_run_41 φ t y g (k + 2) (iI x) (iI u) M = some ((), stI M t 6 (iI 1)) := by
  obtain ⟨e1, e2, e3, e4, e5⟩ := hY.2 x hx.1 hx.2
  have n1 := hY.1
  obtain ⟨q1, q2⟩ := y_k_nend ⟨hk.1, hk.2.1⟩ hk.2.2.1 hk.2.2.2
  have z3 : (300 : Int32) = iI 300 := rfl
  have z4 : (1000000 : Int32) = iI 1000000 := rfl
  have n2 : (stI M t 6 (iI 1)).1 y 2 = iI N := by rw [rI_ng (by omega)]; exact n1
  have f6 : (stI M t 6 (iI 1)).1 t 6 = iI 1 := rI_at rfl rfl
  rw [lX3_run_41]
  simp (disch := omega) only [iI_add, iI_sub, iI_mul, iI_neg, iI_nat, addm1, ixkI, ↓sbind, sbind, ↓bdS, bdS, ↓nm_eq, ↓jn_eq, iI_lt, iI_le, iI_eq, k_0, k_1, k_2, k_3, k_4, k_5, k_6, k_7, k_8, k_9, k_10, k_11, k_12, k_13, k_14, k_15, k_16, k_17, k_18, k_19, k_20, k_21, k_22, k_23, k_24, k_27, k_30, k_32, k_48, k_57, k_59, k_60, k_61, k_62, k_63, k_64, k_72, k_78, k_80, k_82, k_97, k_99, k_100, k_122, k_244, k_255, k_268, k_280, k_300, k_432, k_650, k_900, k_901, k_999, k_1700, k_2600, k_2601, k_2602, k_2603, k_2604, k_2610, k_2618, k_2682, k_2777, k_2844, k_2868, k_2880, k_3245, k_3250, k_9551, k_9999, k_65536, k_100000, k_999999, k_1000000, k_2147483647, lt_T, lt_F, le_T, le_F, eq_T, eq_F, ↓reduceIte, not_true_eq_false, not_false_eq_true, or_true, or_false, true_or, false_or, and_true, true_and, and_false, false_and, z3, z4, n1, h6, h2, e1]
  rw [lX3_run_41]
  simp (disch := omega) only [iI_add, iI_sub, iI_mul, iI_neg, iI_nat, addm1, ixkI, ↓sbind, sbind, ↓bdS, bdS, ↓nm_eq, ↓jn_eq, iI_lt, iI_le, iI_eq, k_0, k_1, k_2, k_3, k_4, k_5, k_6, k_7, k_8, k_9, k_10, k_11, k_12, k_13, k_14, k_15, k_16, k_17, k_18, k_19, k_20, k_21, k_22, k_23, k_24, k_27, k_30, k_32, k_48, k_57, k_59, k_60, k_61, k_62, k_63, k_64, k_72, k_78, k_80, k_82, k_97, k_99, k_100, k_122, k_244, k_255, k_268, k_280, k_300, k_432, k_650, k_900, k_901, k_999, k_1700, k_2600, k_2601, k_2602, k_2603, k_2604, k_2610, k_2618, k_2682, k_2777, k_2844, k_2868, k_2880, k_3245, k_3250, k_9551, k_9999, k_65536, k_100000, k_999999, k_1000000, k_2147483647, lt_T, lt_F, le_T, le_F, eq_T, eq_F, ↓reduceIte, not_true_eq_false, not_false_eq_true, or_true, or_false, true_or, false_or, and_true, true_and, and_false, false_and, z3, z4, n2, f6]
theorem cy_turn_end (hY : YC y N Y M) (hN : N ≤ 60) {x u : Int} (hx : N ≤ x ∧ x ≤ 1000) (h0 : 0 ≤ N) (hu : 0 ≤ u ∧ u < 1000000) {φ : Nat} (k : Nat) : lX3_run_41 φ t y g (k + 1) (iI x) (iI u) M = some ((), M) := by
  have n1 := hY.1
  have z4 : (1000000 : Int32) = iI 1000000 := rfl
  rw [lX3_run_41]
  simp (disch := omega) only [iI_add, iI_sub, iI_mul, iI_neg, iI_nat, addm1, ixkI, ↓sbind, sbind, ↓bdS, bdS, ↓nm_eq, ↓jn_eq, iI_lt, iI_le, iI_eq, k_0, k_1, k_2, k_3, k_4, k_5, k_6, k_7, k_8, k_9, k_10, k_11, k_12, k_13, k_14, k_15, k_16, k_17, k_18, k_19, k_20, k_21, k_22, k_23, k_24, k_27, k_30, k_32, k_48, k_57, k_59, k_60, k_61, k_62, k_63, k_64, k_72, k_78, k_80, k_82, k_97, k_99, k_100, k_122, k_244, k_255, k_268, k_280, k_300, k_432, k_650, k_900, k_901, k_999, k_1700, k_2600, k_2601, k_2602, k_2603, k_2604, k_2610, k_2618, k_2682, k_2777, k_2844, k_2868, k_2880, k_3245, k_3250, k_9551, k_9999, k_65536, k_100000, k_999999, k_1000000, k_2147483647, lt_T, lt_F, le_T, le_F, eq_T, eq_F, ↓reduceIte, not_true_eq_false, not_false_eq_true, or_true, or_false, true_or, false_or, and_true, true_and, and_false, false_and, z4, n1]
end TV
