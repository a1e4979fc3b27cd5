/-! a loop of no steps: the reference turns its end -/
section EM
variable {m : Nat} {M : Mem} {Y : Yr} {N : Int}
theorem empty_l (n : YN N Y) (hN : 0 ≤ N ∧ N ≤ 60) {x : Int} (hx : 0 ≤ x ∧ x < N) (hk : Y x 0 = 18) (h4 : Y x 4 = x + 1) : ∀ (r : Nat) (M : Mem) (k : Nat), YM m N Y M → M.1 (m + 21) x.toNat = iI (r : Int) → r ≤ 9999 → ∃ M1, lX11_behindEnds_2 m (k + 1 + r) (iI (x + 1)) M = lX11_behindEnds_2 m k (iI (x + 2)) M1 ∧ Fr (Rg (m + 21) (m + 21)) M M1 ∧ ∀ j, j ≠ x.toNat → M1.1 (m + 21) j = M.1 (m + 21) j := by
  have q1 := n.1 x hx.1 hx.2 (Or.inl hk)
  intro r
  induction r with
  | zero =>
    intro M k hY hr hr9
    have e0 : M.1 (m + 1) (Int.toNat 4) = iI N := hY.1
    have e1 := hY.at0 (x := x + 1) (by omega)
    have e2 := hY.at (x := x + 1) (c := 4) (by omega) (by omega)
    have e3 := hY.at0 hx
    rw [h4] at q1
    rw [q1.2.2.1] at e1
    rw [q1.2.2.2] at e2
    have fr1 : Fr (Rg (m + 21) (m + 21)) M (stI M (m + 21) x.toNat (iI 0)) := Fr.stI ⟨by omega, by omega⟩ (Fr.refl M)
    have hr : M.1 (m + 21) x.toNat = iI 0 := hr
    have z : x + 1 + 1 = x + 2 := by omega
    refine ⟨stI M (m + 21) x.toNat (iI 0), ?_, fr1, fun j hj => rI_nk hj⟩
    show lX11_behindEnds_2 m (k + 1) (iI (x + 1)) M = _
    rw [lX11_behindEnds_2]
    simp (disch := omega) only [iI_add, iI_sub, iI_mul, iI_neg, iI_nat, addm1, ixkI, ↓sbind, sbind, ↓bdS, bdS, ↓nm_eq, ↓jn_eq, iI_lt, iI_le, iI_eq, k_0, k_1, k_2, k_3, k_4, k_5, k_6, k_7, k_8, k_9, k_10, k_11, k_12, k_13, k_14, k_15, k_16, k_17, k_18, k_19, k_20, k_21, k_22, k_23, k_24, k_27, k_30, k_32, k_48, k_57, k_59, k_60, k_61, k_62, k_63, k_64, k_72, k_78, k_80, k_82, k_97, k_99, k_100, k_122, k_244, k_255, k_268, k_280, k_300, k_432, k_650, k_900, k_901, k_999, k_1700, k_2600, k_2601, k_2602, k_2603, k_2604, k_2610, k_2618, k_2682, k_2777, k_2844, k_2868, k_2880, k_3245, k_3250, k_9551, k_9999, k_65536, k_100000, k_999999, k_1000000, k_2147483647, lt_T, lt_F, le_T, le_F, eq_T, eq_F, ↓reduceIte, not_true_eq_false, not_false_eq_true, or_true, or_false, true_or, false_or, and_true, true_and, and_false, false_and, e0, e1, e2, e3, hk, hr, z, Int.sub_zero]
  | succ r ih =>
    intro M k hY hr hr9
    have e0 : M.1 (m + 1) (Int.toNat 4) = iI N := hY.1
    have e1 := hY.at0 (x := x + 1) (by omega)
    have e2 := hY.at (x := x + 1) (c := 4) (by omega) (by omega)
    have e3 := hY.at0 hx
    rw [h4] at q1
    rw [q1.2.2.1] at e1
    rw [q1.2.2.2] at e2
    have hr : M.1 (m + 21) x.toNat = iI ((r : Int) + 1) := hr
    have fr1 : Fr (Rg (m + 21) (m + 21)) M (stI M (m + 21) x.toNat (iI ((r : Int) + 1 - 1))) := Fr.stI ⟨by omega, by omega⟩ (Fr.refl M)
    obtain ⟨M1, r1, r2, r3⟩ := ih (stI M (m + 21) x.toNat (iI ((r : Int) + 1 - 1))) k ⟨by rw [rI_ng (by omega)]; exact hY.1, fun a b a0 a1 b0 b1 => by rw [rI_ng (by omega)]; exact hY.2 a b a0 a1 b0 b1⟩ (by rw [rI_at rfl rfl, show (r : Int) + 1 - 1 = r from by omega]) (by omega)
    refine ⟨M1, ?_, fr1.trans r2, fun j hj => by rw [r3 j hj, rI_nk hj]⟩
    rw [show k + 1 + (r + 1) = k + 1 + r + 1 from by omega, lX11_behindEnds_2]
    simp (disch := omega) only [iI_add, iI_sub, iI_mul, iI_neg, iI_nat, addm1, ixkI, ↓sbind, sbind, ↓bdS, bdS, ↓nm_eq, ↓jn_eq, iI_lt, iI_le, iI_eq, k_0, k_1, k_2, k_3, k_4, k_5, k_6, k_7, k_8, k_9, k_10, k_11, k_12, k_13, k_14, k_15, k_16, k_17, k_18, k_19, k_20, k_21, k_22, k_23, k_24, k_27, k_30, k_32, k_48, k_57, k_59, k_60, k_61, k_62, k_63, k_64, k_72, k_78, k_80, k_82, k_97, k_99, k_100, k_122, k_244, k_255, k_268, k_280, k_300, k_432, k_650, k_900, k_901, k_999, k_1700, k_2600, k_2601, k_2602, k_2603, k_2604, k_2610, k_2618, k_2682, k_2777, k_2844, k_2868, k_2880, k_3245, k_3250, k_9551, k_9999, k_65536, k_100000, k_999999, k_1000000, k_2147483647, lt_T, lt_F, le_T, le_F, eq_T, eq_F, ↓reduceIte, not_true_eq_false, not_false_eq_true, or_true, or_false, true_or, false_or, and_true, true_and, and_false, false_and, e0, e1, e2, e3, hk, hr, r1]
end EM
