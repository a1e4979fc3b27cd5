/-! a tray made anew, rows poured, gaps filled -/
section PY
variable {m : Nat} {T : TS} {M : Mem}
/-- a tray made anew -/
def t_new (T : TS) (a s n : Int) : TS := (fun x => if x = a then s else T.1 x, fun x => if x = a then n else T.2.1 x, fun x y => if x = a then 0 else T.2.2 x y)
theorem WT.new (w : WT T) {a s n : Int} (hs : 0 ≤ s ∧ s ≤ 3) (hn : 0 ≤ n ∧ n ≤ 60) : WT (t_new T a s n) := fun x x0 x1 => by
  obtain ⟨h1, h2, h3⟩ := w x x0 x1
  by_cases hx : x = a
  · refine ⟨?_, ?_, fun y => ?_⟩
    · show 0 ≤ (if x = a then s else T.1 x) ∧ (if x = a then s else T.1 x) ≤ 3
      rw [if_pos hx]; exact hs
    · show -1 ≤ (if x = a then n else T.2.1 x) ∧ (if x = a then n else T.2.1 x) ≤ 60
      rw [if_pos hx]; omega
    · show -9223372036854775808 ≤ (if x = a then 0 else T.2.2 x y) ∧ (if x = a then 0 else T.2.2 x y) < 9223372036854775808
      rw [if_pos hx]; omega
  · refine ⟨?_, ?_, fun y => ?_⟩
    · show 0 ≤ (if x = a then s else T.1 x) ∧ (if x = a then s else T.1 x) ≤ 3
      rw [if_neg hx]; exact h1
    · show -1 ≤ (if x = a then n else T.2.1 x) ∧ (if x = a then n else T.2.1 x) ≤ 60
      rw [if_neg hx]; exact h2
    · show -9223372036854775808 ≤ (if x = a then 0 else T.2.2 x y) ∧ (if x = a then 0 else T.2.2 x y) < 9223372036854775808
      rw [if_neg hx]; exact h3 y
theorem c_renew_l (t : Nat) : ∀ (d : Nat) (i : Int) (M : Mem) (k : Nat), 60 - i = d → 0 ≤ i → d < k → ∃ M1, lX7_renew_12 t k (iI i) M = some ((), M1) ∧ (∀ y : Int, i ≤ y → y < 60 → M1.2.1 (t + 1) y.toNat = lI 0) ∧ (∀ y : Nat, (y : Int) < i → M1.2.1 (t + 1) y = M.2.1 (t + 1) y) ∧ Fr (Rg (t + 1) (t + 1)) M M1 := by
  intro d
  induction d with
  | zero =>
    intro i M k hd hi hk
    obtain ⟨k, rfl⟩ : ∃ q, k = q + 1 := ⟨k - 1, by omega⟩
    refine ⟨M, ?_, fun y h0 h1 => by omega, fun y h => rfl, Fr.refl M⟩
    rw [lX7_renew_12]
    simp (disch := omega) only [iI_add, iI_sub, iI_mul, iI_neg, iI_nat, addm1, ixkI, ↓sbind, sbind, ↓bdS, bdS, ↓nm_eq, ↓jn_eq, iI_lt, iI_le, iI_eq, k_0, k_1, k_2, k_3, k_4, k_5, k_6, k_7, k_8, k_9, k_10, k_11, k_12, k_13, k_14, k_15, k_16, k_17, k_18, k_19, k_20, k_21, k_22, k_23, k_24, k_27, k_30, k_32, k_48, k_57, k_59, k_60, k_61, k_62, k_63, k_64, k_72, k_78, k_80, k_82, k_97, k_99, k_100, k_122, k_244, k_255, k_268, k_280, k_300, k_432, k_650, k_900, k_901, k_999, k_1700, k_2600, k_2601, k_2602, k_2603, k_2604, k_2610, k_2618, k_2682, k_2777, k_2844, k_2868, k_2880, k_3245, k_3250, k_9551, k_9999, k_65536, k_100000, k_999999, k_1000000, k_2147483647, lt_T, lt_F, le_T, le_F, eq_T, eq_F, ↓reduceIte, not_true_eq_false, not_false_eq_true, or_true, or_false, true_or, false_or, and_true, true_and, and_false, false_and]
  | succ d ih =>
    intro i M k hd hi hk
    obtain ⟨k, rfl⟩ : ∃ q, k = q + 1 := ⟨k - 1, by omega⟩
    obtain ⟨M1, r1, r2, r3, r4⟩ := ih (i + 1) (stL M (t + 1) i.toNat (lI 0)) k (by omega) (by omega) (by omega)
    refine ⟨M1, ?_, fun y h0 h1 => ?_, fun y h => ?_, (Fr.stL ⟨by omega, by omega⟩ (Fr.refl M)).trans r4⟩
    · rw [lX7_renew_12]
      simp (disch := omega) only [iI_add, iI_sub, iI_mul, iI_neg, iI_nat, addm1, ixkI, ↓sbind, sbind, ↓bdS, bdS, ↓nm_eq, ↓jn_eq, iI_lt, iI_le, iI_eq, k_0, k_1, k_2, k_3, k_4, k_5, k_6, k_7, k_8, k_9, k_10, k_11, k_12, k_13, k_14, k_15, k_16, k_17, k_18, k_19, k_20, k_21, k_22, k_23, k_24, k_27, k_30, k_32, k_48, k_57, k_59, k_60, k_61, k_62, k_63, k_64, k_72, k_78, k_80, k_82, k_97, k_99, k_100, k_122, k_244, k_255, k_268, k_280, k_300, k_432, k_650, k_900, k_901, k_999, k_1700, k_2600, k_2601, k_2602, k_2603, k_2604, k_2610, k_2618, k_2682, k_2777, k_2844, k_2868, k_2880, k_3245, k_3250, k_9551, k_9999, k_65536, k_100000, k_999999, k_1000000, k_2147483647, lI_add, lI_sub, lI_mul, lI_neg, lI_lt, lI_le, lI_eq, iI_l, kl_0, kl_1, kl_2, kl_6, kl_9, kl_10, kl_32, kl_99, kl_999, kl_9999, kl_999999, lt_T, lt_F, le_T, le_F, eq_T, eq_F, ↓reduceIte, not_true_eq_false, not_false_eq_true, or_true, or_false, true_or, false_or, and_true, true_and, and_false, false_and, r1]
    · by_cases hy : y = i
      · rw [r3 _ (by omega), hy]; exact rL_at rfl rfl
      · exact r2 y (by omega) h1
    · rw [r3 y (by omega)]; exact rL_nk (by omega)
theorem m_tray_l (m : Nat) (a n : Int) (ha : 0 ≤ a ∧ a < 4) (hn : 0 ≤ n ∧ n ≤ 60) : ∀ (d : Nat) (i : Int) (M : Mem) (k : Nat), n - i = d → 0 ≤ i → d < k → ∃ M1, lX11_tray_49 m (iI a) (iI n) k (iI i) M = some (iI 1, stI M1 m 2 (iI 0)) ∧ (∀ y : Int, i ≤ y → y < n → M1.2.1 (m + 5) (60 * a + y).toNat = lI 0) ∧ (∀ y : Nat, (y : Int) < 60 * a + i ∨ 60 * a + n ≤ y → M1.2.1 (m + 5) y = M.2.1 (m + 5) y) ∧ Fr (Rg (m + 5) (m + 5)) M M1 := by
  intro d
  induction d with
  | zero =>
    intro i M k hd hi hk
    obtain ⟨k, rfl⟩ : ∃ q, k = q + 1 := ⟨k - 1, by omega⟩
    refine ⟨M, ?_, fun y h0 h1 => by omega, fun y h => rfl, Fr.refl M⟩
    rw [lX11_tray_49]
    unfold fX11_is
    simp (disch := omega) only [iI_add, iI_sub, iI_mul, iI_neg, iI_nat, addm1, ixkI, ↓sbind, sbind, ↓bdS, bdS, ↓nm_eq, ↓jn_eq, iI_lt, iI_le, iI_eq, k_0, k_1, k_2, k_3, k_4, k_5, k_6, k_7, k_8, k_9, k_10, k_11, k_12, k_13, k_14, k_15, k_16, k_17, k_18, k_19, k_20, k_21, k_22, k_23, k_24, k_27, k_30, k_32, k_48, k_57, k_59, k_60, k_61, k_62, k_63, k_64, k_72, k_78, k_80, k_82, k_97, k_99, k_100, k_122, k_244, k_255, k_268, k_280, k_300, k_432, k_650, k_900, k_901, k_999, k_1700, k_2600, k_2601, k_2602, k_2603, k_2604, k_2610, k_2618, k_2682, k_2777, k_2844, k_2868, k_2880, k_3245, k_3250, k_9551, k_9999, k_65536, k_100000, k_999999, k_1000000, k_2147483647, lt_T, lt_F, le_T, le_F, eq_T, eq_F, ↓reduceIte, not_true_eq_false, not_false_eq_true, or_true, or_false, true_or, false_or, and_true, true_and, and_false, false_and, i01_b, if_true]
  | succ d ih =>
    intro i M k hd hi hk
    obtain ⟨k, rfl⟩ : ∃ q, k = q + 1 := ⟨k - 1, by omega⟩
    obtain ⟨M1, r1, r2, r3, r4⟩ := ih (i + 1) (stL M (m + 5) (60 * a + i).toNat (lI 0)) k (by omega) (by omega) (by omega)
    refine ⟨M1, ?_, fun y h0 h1 => ?_, fun y h => ?_, (Fr.stL ⟨by omega, by omega⟩ (Fr.refl M)).trans r4⟩
    · rw [lX11_tray_49]
      simp (disch := omega) only [iI_add, iI_sub, iI_mul, iI_neg, iI_nat, addm1, ixkI, ↓sbind, sbind, ↓bdS, bdS, ↓nm_eq, ↓jn_eq, iI_lt, iI_le, iI_eq, k_0, k_1, k_2, k_3, k_4, k_5, k_6, k_7, k_8, k_9, k_10, k_11, k_12, k_13, k_14, k_15, k_16, k_17, k_18, k_19, k_20, k_21, k_22, k_23, k_24, k_27, k_30, k_32, k_48, k_57, k_59, k_60, k_61, k_62, k_63, k_64, k_72, k_78, k_80, k_82, k_97, k_99, k_100, k_122, k_244, k_255, k_268, k_280, k_300, k_432, k_650, k_900, k_901, k_999, k_1700, k_2600, k_2601, k_2602, k_2603, k_2604, k_2610, k_2618, k_2682, k_2777, k_2844, k_2868, k_2880, k_3245, k_3250, k_9551, k_9999, k_65536, k_100000, k_999999, k_1000000, k_2147483647, lI_add, lI_sub, lI_mul, lI_neg, lI_lt, lI_le, lI_eq, iI_l, kl_0, kl_1, kl_2, kl_6, kl_9, kl_10, kl_32, kl_99, kl_999, kl_9999, kl_999999, lt_T, lt_F, le_T, le_F, eq_T, eq_F, ↓reduceIte, not_true_eq_false, not_false_eq_true, or_true, or_false, true_or, false_or, and_true, true_and, and_false, false_and, r1]
    · by_cases hy : y = i
      · rw [r3 _ (by omega), hy]; exact rL_at rfl rfl
      · exact r2 y (by omega) h1
    · rw [r3 y (by omega)]; exact rL_nk (by omega)
theorem tc_tray (w : WT T) {a s n : Int} (ha : -2147483648 ≤ a ∧ a < 2147483648) (hs : -2147483648 ≤ s ∧ s < 2147483648) (hn : -2147483648 ≤ n ∧ n < 2147483648) {φ : Nat} (hφ : 200 ≤ φ) : ∃ b st T', WT T' ∧ (∀ M, TC1 T M → ∃ M1, fX10_tray φ 0 (iI a) (iI s) (iI n) M = some (iI b, stI M1 0 0 (iI st)) ∧ TC1 T' M1 ∧ Fr (Rg 78 85) M M1) ∧ ∀ m M, TM1 m T M → ∃ M1, fX11_tray φ m (iI a) (iI s) (iI n) M = some (iI b, stI M1 m 2 (iI st)) ∧ TM1 m T' M1 ∧ Fr (Rg (m + 3) (m + 5)) M M1 := by
  by_cases h1 : 0 ≤ a ∧ a < 4
  · by_cases h2 : 0 ≤ s ∧ s ≤ 3
    · by_cases h3 : 0 ≤ n ∧ n ≤ 60
      · refine ⟨1, 0, t_new T a s n, w.new h2 h3, fun M h => ?_, fun m M h => ?_⟩
        · obtain ⟨M1, r1, r2, r3, r4⟩ := c_renew_l (78 + 2 * a.toNat) 60 0 (stI (stI M (78 + 2 * a.toNat) 1 (iI s)) (78 + 2 * a.toNat) 2 (iI n)) φ (by omega) (by omega) (by omega)
          refine ⟨M1, ?_, ?_, (Fr.stI ⟨by omega, by omega⟩ (Fr.stI ⟨by omega, by omega⟩ (Fr.refl M))).trans (r4.mono fun g hg => ⟨by have := hg.1; omega, by have := hg.2; omega⟩)⟩
          · unfold fX10_tray fX7_renew fX10_grant
            rw [c_isTray ha, k_0, k_3, show (60 : Int32) = iI 60 from rfl, c_isWithin hs (by omega) (by omega), c_isWithin hn (by omega) (by omega), s_in_t h1, decide_eq_true h2, decide_eq_true h3]
            simp (disch := omega) only [iI_add, iI_sub, iI_mul, iI_neg, iI_nat, addm1, ixkI, ↓sbind, sbind, ↓bdS, bdS, ↓nm_eq, ↓jn_eq, iI_lt, iI_le, iI_eq, k_0, k_1, k_2, k_3, k_4, k_5, k_6, k_7, k_8, k_9, k_10, k_11, k_12, k_13, k_14, k_15, k_16, k_17, k_18, k_19, k_20, k_21, k_22, k_23, k_24, k_27, k_30, k_32, k_48, k_57, k_59, k_60, k_61, k_62, k_63, k_64, k_72, k_78, k_80, k_82, k_97, k_99, k_100, k_122, k_244, k_255, k_268, k_280, k_300, k_432, k_650, k_900, k_901, k_999, k_1700, k_2600, k_2601, k_2602, k_2603, k_2604, k_2610, k_2618, k_2682, k_2777, k_2844, k_2868, k_2880, k_3245, k_3250, k_9551, k_9999, k_65536, k_100000, k_999999, k_1000000, k_2147483647, lt_T, lt_F, le_T, le_F, eq_T, eq_F, ↓reduceIte, not_true_eq_false, not_false_eq_true, or_true, or_false, true_or, false_or, and_true, true_and, and_false, false_and, srf_t, bI_t, r1, i01_b, if_true]
          · intro x x0 x1
            obtain ⟨g1, g2, g3⟩ := h x x0 x1
            have f1 := (r4 (78 + 2 * x.toNat) (fun q => by have := q.1; have := q.2; omega)).1
            by_cases hx : x = a
            · subst hx
              refine ⟨?_, ?_, fun y y0 y1 => ?_⟩
              · show _ = iI (if x = x then s else T.1 x)
                rw [f1, if_pos rfl]
                simp (disch := omega) only [rI_nk, rI_eq]
              · show _ = iI (if x = x then n else T.2.1 x)
                rw [f1, if_pos rfl]
                simp (disch := omega) only [rI_eq]
              · have y1 : y < (if x = x then n else T.2.1 x) := y1
                rw [if_pos rfl] at y1
                show _ = lI (if x = x then 0 else T.2.2 x y)
                rw [if_pos rfl]
                exact r2 y y0 (by omega)
            · refine ⟨?_, ?_, fun y y0 y1 => ?_⟩
              · show _ = iI (if x = a then s else T.1 x)
                rw [f1, if_neg hx, rI_ng (by omega), rI_ng (by omega)]
                exact g1
              · show _ = iI (if x = a then n else T.2.1 x)
                rw [f1, if_neg hx, rI_ng (by omega), rI_ng (by omega)]
                exact g2
              · have y1 : y < (if x = a then n else T.2.1 x) := y1
                rw [if_neg hx] at y1
                show _ = lI (if x = a then 0 else T.2.2 x y)
                rw [if_neg hx, (r4 (78 + 2 * x.toNat + 1) (fun q => by have := q.1; have := q.2; omega)).2.1]
                exact g3 y y0 y1
        · obtain ⟨M1, r1, r2, r3, r4⟩ := m_tray_l m a n h1 h3 n.toNat 0 (stI (stI M (m + 3) a.toNat (iI s)) (m + 4) a.toNat (iI n)) φ (by omega) (by omega) (by omega)
          refine ⟨M1, ?_, ?_, (Fr.stI ⟨by omega, by omega⟩ (Fr.stI ⟨by omega, by omega⟩ (Fr.refl M))).trans (r4.mono fun g hg => ⟨by have := hg.1; omega, by have := hg.2; omega⟩)⟩
          · unfold fX11_tray
            rw [m_isTray ha, s_in_t h1]
            simp (disch := omega) only [iI_add, iI_sub, iI_mul, iI_neg, iI_nat, addm1, ixkI, ↓sbind, sbind, ↓bdS, bdS, ↓nm_eq, ↓jn_eq, iI_lt, iI_le, iI_eq, k_0, k_1, k_2, k_3, k_4, k_5, k_6, k_7, k_8, k_9, k_10, k_11, k_12, k_13, k_14, k_15, k_16, k_17, k_18, k_19, k_20, k_21, k_22, k_23, k_24, k_27, k_30, k_32, k_48, k_57, k_59, k_60, k_61, k_62, k_63, k_64, k_72, k_78, k_80, k_82, k_97, k_99, k_100, k_122, k_244, k_255, k_268, k_280, k_300, k_432, k_650, k_900, k_901, k_999, k_1700, k_2600, k_2601, k_2602, k_2603, k_2604, k_2610, k_2618, k_2682, k_2777, k_2844, k_2868, k_2880, k_3245, k_3250, k_9551, k_9999, k_65536, k_100000, k_999999, k_1000000, k_2147483647, lt_T, lt_F, le_T, le_F, eq_T, eq_F, ↓reduceIte, not_true_eq_false, not_false_eq_true, or_true, or_false, true_or, false_or, and_true, true_and, and_false, false_and, bI_t, r1]
          · intro x x0 x1
            obtain ⟨g1, g2, g3⟩ := h x x0 x1
            have wx := (w x x0 x1).2.1
            have f1 := (r4 (m + 3) (fun q => by have := q.1; have := q.2; omega)).1
            have f2 := (r4 (m + 4) (fun q => by have := q.1; have := q.2; omega)).1
            by_cases hx : x = a
            · subst hx
              refine ⟨?_, ?_, fun y y0 y1 => ?_⟩
              · show _ = iI (if x = x then s else T.1 x)
                rw [f1, if_pos rfl, rI_ng (by omega)]
                exact rI_at rfl rfl
              · show _ = iI (if x = x then n else T.2.1 x)
                rw [f2, if_pos rfl]
                exact rI_at rfl rfl
              · have y1 : y < (if x = x then n else T.2.1 x) := y1
                rw [if_pos rfl] at y1
                show _ = lI (if x = x then 0 else T.2.2 x y)
                rw [if_pos rfl]
                exact r2 y y0 y1
            · refine ⟨?_, ?_, fun y y0 y1 => ?_⟩
              · show _ = iI (if x = a then s else T.1 x)
                rw [f1, if_neg hx, rI_ng (by omega), rI_nk (by omega)]
                exact g1
              · show _ = iI (if x = a then n else T.2.1 x)
                rw [f2, if_neg hx, rI_nk (by omega), rI_ng (by omega)]
                exact g2
              · have y1 : y < (if x = a then n else T.2.1 x) := y1
                rw [if_neg hx] at y1
                show _ = lI (if x = a then 0 else T.2.2 x y)
                rw [if_neg hx, r3 _ (by omega)]
                exact g3 y y0 y1
      · refine ⟨0, 1, T, w, fun M h => ⟨M, ?_, h, Fr.refl M⟩, fun m M h => ⟨M, ?_, h, Fr.refl M⟩⟩
        · unfold fX10_tray fX10_deny
          rw [c_isTray ha, k_0, k_3, show (60 : Int32) = iI 60 from rfl, c_isWithin hs (by omega) (by omega), c_isWithin hn (by omega) (by omega), s_in_t h1, decide_eq_true h2, decide_eq_false h3]
          simp (disch := omega) only [iI_add, iI_sub, iI_mul, iI_neg, iI_nat, addm1, ixkI, ↓sbind, sbind, ↓bdS, bdS, ↓nm_eq, ↓jn_eq, iI_lt, iI_le, iI_eq, k_0, k_1, k_2, k_3, k_4, k_5, k_6, k_7, k_8, k_9, k_10, k_11, k_12, k_13, k_14, k_15, k_16, k_17, k_18, k_19, k_20, k_21, k_22, k_23, k_24, k_27, k_30, k_32, k_48, k_57, k_59, k_60, k_61, k_62, k_63, k_64, k_72, k_78, k_80, k_82, k_97, k_99, k_100, k_122, k_244, k_255, k_268, k_280, k_300, k_432, k_650, k_900, k_901, k_999, k_1700, k_2600, k_2601, k_2602, k_2603, k_2604, k_2610, k_2618, k_2682, k_2777, k_2844, k_2868, k_2880, k_3245, k_3250, k_9551, k_9999, k_65536, k_100000, k_999999, k_1000000, k_2147483647, lt_T, lt_F, le_T, le_F, eq_T, eq_F, ↓reduceIte, not_true_eq_false, not_false_eq_true, or_true, or_false, true_or, false_or, and_true, true_and, and_false, false_and, bI_t, bI_f, i01_a, if_true]
        · unfold fX11_tray fX11_is
          rw [m_isTray ha, s_in_t h1]
          by_cases hc : n < 0
          · simp (disch := omega) only [iI_add, iI_sub, iI_mul, iI_neg, iI_nat, addm1, ixkI, ↓sbind, sbind, ↓bdS, bdS, ↓nm_eq, ↓jn_eq, iI_lt, iI_le, iI_eq, k_0, k_1, k_2, k_3, k_4, k_5, k_6, k_7, k_8, k_9, k_10, k_11, k_12, k_13, k_14, k_15, k_16, k_17, k_18, k_19, k_20, k_21, k_22, k_23, k_24, k_27, k_30, k_32, k_48, k_57, k_59, k_60, k_61, k_62, k_63, k_64, k_72, k_78, k_80, k_82, k_97, k_99, k_100, k_122, k_244, k_255, k_268, k_280, k_300, k_432, k_650, k_900, k_901, k_999, k_1700, k_2600, k_2601, k_2602, k_2603, k_2604, k_2610, k_2618, k_2682, k_2777, k_2844, k_2868, k_2880, k_3245, k_3250, k_9551, k_9999, k_65536, k_100000, k_999999, k_1000000, k_2147483647, lt_T, lt_F, le_T, le_F, eq_T, eq_F, ↓reduceIte, not_true_eq_false, not_false_eq_true, or_true, or_false, true_or, false_or, and_true, true_and, and_false, false_and, bI_t, i01_a, if_true]
          · simp (disch := omega) only [iI_add, iI_sub, iI_mul, iI_neg, iI_nat, addm1, ixkI, ↓sbind, sbind, ↓bdS, bdS, ↓nm_eq, ↓jn_eq, iI_lt, iI_le, iI_eq, k_0, k_1, k_2, k_3, k_4, k_5, k_6, k_7, k_8, k_9, k_10, k_11, k_12, k_13, k_14, k_15, k_16, k_17, k_18, k_19, k_20, k_21, k_22, k_23, k_24, k_27, k_30, k_32, k_48, k_57, k_59, k_60, k_61, k_62, k_63, k_64, k_72, k_78, k_80, k_82, k_97, k_99, k_100, k_122, k_244, k_255, k_268, k_280, k_300, k_432, k_650, k_900, k_901, k_999, k_1700, k_2600, k_2601, k_2602, k_2603, k_2604, k_2610, k_2618, k_2682, k_2777, k_2844, k_2868, k_2880, k_3245, k_3250, k_9551, k_9999, k_65536, k_100000, k_999999, k_1000000, k_2147483647, lt_T, lt_F, le_T, le_F, eq_T, eq_F, ↓reduceIte, not_true_eq_false, not_false_eq_true, or_true, or_false, true_or, false_or, and_true, true_and, and_false, false_and, bI_t, i01_a, if_true]
    · refine ⟨0, 1, T, w, fun M h => ⟨M, ?_, h, Fr.refl M⟩, fun m M h => ⟨M, ?_, h, Fr.refl M⟩⟩
      · unfold fX10_tray fX10_deny
        rw [c_isTray ha, k_0, k_3, c_isWithin hs (by omega) (by omega), s_in_t h1, decide_eq_false h2]
        simp (disch := omega) only [iI_add, iI_sub, iI_mul, iI_neg, iI_nat, addm1, ixkI, ↓sbind, sbind, ↓bdS, bdS, ↓nm_eq, ↓jn_eq, iI_lt, iI_le, iI_eq, k_0, k_1, k_2, k_3, k_4, k_5, k_6, k_7, k_8, k_9, k_10, k_11, k_12, k_13, k_14, k_15, k_16, k_17, k_18, k_19, k_20, k_21, k_22, k_23, k_24, k_27, k_30, k_32, k_48, k_57, k_59, k_60, k_61, k_62, k_63, k_64, k_72, k_78, k_80, k_82, k_97, k_99, k_100, k_122, k_244, k_255, k_268, k_280, k_300, k_432, k_650, k_900, k_901, k_999, k_1700, k_2600, k_2601, k_2602, k_2603, k_2604, k_2610, k_2618, k_2682, k_2777, k_2844, k_2868, k_2880, k_3245, k_3250, k_9551, k_9999, k_65536, k_100000, k_999999, k_1000000, k_2147483647, lt_T, lt_F, le_T, le_F, eq_T, eq_F, ↓reduceIte, not_true_eq_false, not_false_eq_true, or_true, or_false, true_or, false_or, and_true, true_and, and_false, false_and, bI_t, bI_f, i01_a, if_true]
      · unfold fX11_tray fX11_is
        rw [m_isTray ha, s_in_t h1]
        by_cases hc : s < 0
        · simp (disch := omega) only [iI_add, iI_sub, iI_mul, iI_neg, iI_nat, addm1, ixkI, ↓sbind, sbind, ↓bdS, bdS, ↓nm_eq, ↓jn_eq, iI_lt, iI_le, iI_eq, k_0, k_1, k_2, k_3, k_4, k_5, k_6, k_7, k_8, k_9, k_10, k_11, k_12, k_13, k_14, k_15, k_16, k_17, k_18, k_19, k_20, k_21, k_22, k_23, k_24, k_27, k_30, k_32, k_48, k_57, k_59, k_60, k_61, k_62, k_63, k_64, k_72, k_78, k_80, k_82, k_97, k_99, k_100, k_122, k_244, k_255, k_268, k_280, k_300, k_432, k_650, k_900, k_901, k_999, k_1700, k_2600, k_2601, k_2602, k_2603, k_2604, k_2610, k_2618, k_2682, k_2777, k_2844, k_2868, k_2880, k_3245, k_3250, k_9551, k_9999, k_65536, k_100000, k_999999, k_1000000, k_2147483647, lt_T, lt_F, le_T, le_F, eq_T, eq_F, ↓reduceIte, not_true_eq_false, not_false_eq_true, or_true, or_false, true_or, false_or, and_true, true_and, and_false, false_and, bI_t, i01_a, if_true]
        · simp (disch := omega) only [iI_add, iI_sub, iI_mul, iI_neg, iI_nat, addm1, ixkI, ↓sbind, sbind, ↓bdS, bdS, ↓nm_eq, ↓jn_eq, iI_lt, iI_le, iI_eq, k_0, k_1, k_2, k_3, k_4, k_5, k_6, k_7, k_8, k_9, k_10, k_11, k_12, k_13, k_14, k_15, k_16, k_17, k_18, k_19, k_20, k_21, k_22, k_23, k_24, k_27, k_30, k_32, k_48, k_57, k_59, k_60, k_61, k_62, k_63, k_64, k_72, k_78, k_80, k_82, k_97, k_99, k_100, k_122, k_244, k_255, k_268, k_280, k_300, k_432, k_650, k_900, k_901, k_999, k_1700, k_2600, k_2601, k_2602, k_2603, k_2604, k_2610, k_2618, k_2682, k_2777, k_2844, k_2868, k_2880, k_3245, k_3250, k_9551, k_9999, k_65536, k_100000, k_999999, k_1000000, k_2147483647, lt_T, lt_F, le_T, le_F, eq_T, eq_F, ↓reduceIte, not_true_eq_false, not_false_eq_true, or_true, or_false, true_or, false_or, and_true, true_and, and_false, false_and, bI_t, i01_a, if_true]
  · refine ⟨0, 1, T, w, fun M h => ⟨M, ?_, h, Fr.refl M⟩, fun m M h => ⟨M, ?_, h, Fr.refl M⟩⟩
    · unfold fX10_tray fX10_deny
      rw [c_isTray ha, s_in_f h1]
      simp (disch := omega) only [iI_add, iI_sub, iI_mul, iI_neg, iI_nat, addm1, ixkI, ↓sbind, sbind, ↓bdS, bdS, ↓nm_eq, ↓jn_eq, iI_lt, iI_le, iI_eq, k_0, k_1, k_2, k_3, k_4, k_5, k_6, k_7, k_8, k_9, k_10, k_11, k_12, k_13, k_14, k_15, k_16, k_17, k_18, k_19, k_20, k_21, k_22, k_23, k_24, k_27, k_30, k_32, k_48, k_57, k_59, k_60, k_61, k_62, k_63, k_64, k_72, k_78, k_80, k_82, k_97, k_99, k_100, k_122, k_244, k_255, k_268, k_280, k_300, k_432, k_650, k_900, k_901, k_999, k_1700, k_2600, k_2601, k_2602, k_2603, k_2604, k_2610, k_2618, k_2682, k_2777, k_2844, k_2868, k_2880, k_3245, k_3250, k_9551, k_9999, k_65536, k_100000, k_999999, k_1000000, k_2147483647, lt_T, lt_F, le_T, le_F, eq_T, eq_F, ↓reduceIte, not_true_eq_false, not_false_eq_true, or_true, or_false, true_or, false_or, and_true, true_and, and_false, false_and, bI_f, i01_a, if_true]
    · unfold fX11_tray fX11_is
      rw [m_isTray ha, s_in_f h1]
      simp (disch := omega) only [iI_add, iI_sub, iI_mul, iI_neg, iI_nat, addm1, ixkI, ↓sbind, sbind, ↓bdS, bdS, ↓nm_eq, ↓jn_eq, iI_lt, iI_le, iI_eq, k_0, k_1, k_2, k_3, k_4, k_5, k_6, k_7, k_8, k_9, k_10, k_11, k_12, k_13, k_14, k_15, k_16, k_17, k_18, k_19, k_20, k_21, k_22, k_23, k_24, k_27, k_30, k_32, k_48, k_57, k_59, k_60, k_61, k_62, k_63, k_64, k_72, k_78, k_80, k_82, k_97, k_99, k_100, k_122, k_244, k_255, k_268, k_280, k_300, k_432, k_650, k_900, k_901, k_999, k_1700, k_2600, k_2601, k_2602, k_2603, k_2604, k_2610, k_2618, k_2682, k_2777, k_2844, k_2868, k_2880, k_3245, k_3250, k_9551, k_9999, k_65536, k_100000, k_999999, k_1000000, k_2147483647, lt_T, lt_F, le_T, le_F, eq_T, eq_F, ↓reduceIte, not_true_eq_false, not_false_eq_true, or_true, or_false, true_or, false_or, and_true, true_and, and_false, false_and, bI_f, i01_a, if_true]
end PY
