/-! odds -/
section OD
variable {F : Fld} {M : Mem} {Y : Yr} {N : Int}
theorem m_odds80 {m : Nat} (K : Mem → Option (Int32 × Mem)) (a b c d : Int32) (M0 : Mem) : ∀ (n : Nat) (i : Int), 0 ≤ i → i ≤ 280 → 280 < n + i → ∀ M, (∀ e : Int, 0 ≤ e → M.1 (m + 1) e.toNat = if 3250 ≤ e ∧ e < 3250 + i then M0.1 (m + 1) (e - 3250).toNat else M0.1 (m + 1) e.toNat) → ∃ M1, lX11_odds_80 K m a b c d n (iI i) M = K M1 ∧ Fr (Rg (m + 1) (m + 1)) M M1 ∧ ∀ e : Int, 0 ≤ e → M1.1 (m + 1) e.toNat = if 3250 ≤ e ∧ e < 3530 then M0.1 (m + 1) (e - 3250).toNat else M0.1 (m + 1) e.toNat := by
  refine lup (P := fun n i => ∀ M, (∀ e : Int, 0 ≤ e → M.1 (m + 1) e.toNat = if 3250 ≤ e ∧ e < 3250 + i then M0.1 (m + 1) (e - 3250).toNat else M0.1 (m + 1) e.toNat) → ∃ M1, lX11_odds_80 K m a b c d n (iI i) M = K M1 ∧ Fr (Rg (m + 1) (m + 1)) M M1 ∧ ∀ e : Int, 0 ≤ e → M1.1 (m + 1) e.toNat = if 3250 ≤ e ∧ e < 3530 then M0.1 (m + 1) (e - 3250).toNat else M0.1 (m + 1) e.toNat) (fun n M h => ⟨M, ?_, Fr.refl M, h⟩) (fun n i i0 i1 ih M h => ?_)
  · rw [lX11_odds_80]
    simp (disch := omega) only [iI_add, iI_sub, iI_mul, iI_neg, iI_nat, addm1, ixkI, ↓sbind, sbind, ↓bdS, bdS, ↓nm_eq, ↓jn_eq, iI_lt, iI_le, iI_eq, k_0, k_1, k_2, k_3, k_4, k_5, k_6, k_7, k_8, k_9, k_10, k_11, k_12, k_13, k_14, k_15, k_16, k_17, k_18, k_19, k_20, k_21, k_22, k_23, k_24, k_27, k_30, k_32, k_48, k_57, k_59, k_60, k_61, k_62, k_63, k_64, k_72, k_78, k_80, k_82, k_97, k_99, k_100, k_122, k_244, k_255, k_268, k_280, k_300, k_432, k_650, k_900, k_901, k_999, k_1700, k_2600, k_2601, k_2602, k_2603, k_2604, k_2610, k_2618, k_2682, k_2777, k_2844, k_2868, k_2880, k_3245, k_3250, k_9551, k_9999, k_65536, k_100000, k_999999, k_1000000, k_2147483647, lt_T, lt_F, le_T, le_F, eq_T, eq_F, ↓reduceIte, not_true_eq_false, not_false_eq_true, or_true, or_false, true_or, false_or, and_true, true_and, and_false, false_and]
  · obtain ⟨M1, r1, r2, r3⟩ := ih (stI M (m + 1) (3250 + i).toNat (M.1 (m + 1) i.toNat)) (fun e e0 => by
      by_cases q : e = 3250 + i
      · rw [if_pos (by omega), q, rI_at rfl rfl, show 3250 + i - 3250 = i from by omega, h i i0, if_neg (by omega)]
      · rw [rI_nk (by omega), h e e0]
        by_cases q2 : 3250 ≤ e ∧ e < 3250 + i
        · rw [if_pos q2, if_pos (by omega)]
        · rw [if_neg q2, if_neg (by omega)])
    refine ⟨M1, ?_, (Fr.stI ⟨by omega, by omega⟩ (Fr.refl M)).trans r2, r3⟩
    rw [lX11_odds_80]
    simp (disch := omega) only [iI_add, iI_sub, iI_mul, iI_neg, iI_nat, addm1, ixkI, ↓sbind, sbind, ↓bdS, bdS, ↓nm_eq, ↓jn_eq, iI_lt, iI_le, iI_eq, k_0, k_1, k_2, k_3, k_4, k_5, k_6, k_7, k_8, k_9, k_10, k_11, k_12, k_13, k_14, k_15, k_16, k_17, k_18, k_19, k_20, k_21, k_22, k_23, k_24, k_27, k_30, k_32, k_48, k_57, k_59, k_60, k_61, k_62, k_63, k_64, k_72, k_78, k_80, k_82, k_97, k_99, k_100, k_122, k_244, k_255, k_268, k_280, k_300, k_432, k_650, k_900, k_901, k_999, k_1700, k_2600, k_2601, k_2602, k_2603, k_2604, k_2610, k_2618, k_2682, k_2777, k_2844, k_2868, k_2880, k_3245, k_3250, k_9551, k_9999, k_65536, k_100000, k_999999, k_1000000, k_2147483647, lt_T, lt_F, le_T, le_F, eq_T, eq_F, ↓reduceIte, not_true_eq_false, not_false_eq_true, or_true, or_false, true_or, false_or, and_true, true_and, and_false, false_and, r1]
theorem m_odds155 {m : Nat} (K : Mem → Option (Int32 × Mem)) (a b c d v x : Int32) (M0 : Mem) : ∀ (n : Nat) (i : Int), 0 ≤ i → i ≤ 280 → 280 < n + i → ∀ M, (∀ e : Int, 0 ≤ e → M.1 (m + 1) e.toNat = if e < i then M0.1 (m + 1) (3250 + e).toNat else M0.1 (m + 1) e.toNat) → ∃ M1, lX11_odds_155 K m a b c d v x n (iI i) M = K M1 ∧ Fr (Rg (m + 1) (m + 1)) M M1 ∧ ∀ e : Int, 0 ≤ e → M1.1 (m + 1) e.toNat = if e < 280 then M0.1 (m + 1) (3250 + e).toNat else M0.1 (m + 1) e.toNat := by
  refine lup (P := fun n i => ∀ M, (∀ e : Int, 0 ≤ e → M.1 (m + 1) e.toNat = if e < i then M0.1 (m + 1) (3250 + e).toNat else M0.1 (m + 1) e.toNat) → ∃ M1, lX11_odds_155 K m a b c d v x n (iI i) M = K M1 ∧ Fr (Rg (m + 1) (m + 1)) M M1 ∧ ∀ e : Int, 0 ≤ e → M1.1 (m + 1) e.toNat = if e < 280 then M0.1 (m + 1) (3250 + e).toNat else M0.1 (m + 1) e.toNat) (fun n M h => ⟨M, ?_, Fr.refl M, h⟩) (fun n i i0 i1 ih M h => ?_)
  · rw [lX11_odds_155]
    simp (disch := omega) only [iI_add, iI_sub, iI_mul, iI_neg, iI_nat, addm1, ixkI, ↓sbind, sbind, ↓bdS, bdS, ↓nm_eq, ↓jn_eq, iI_lt, iI_le, iI_eq, k_0, k_1, k_2, k_3, k_4, k_5, k_6, k_7, k_8, k_9, k_10, k_11, k_12, k_13, k_14, k_15, k_16, k_17, k_18, k_19, k_20, k_21, k_22, k_23, k_24, k_27, k_30, k_32, k_48, k_57, k_59, k_60, k_61, k_62, k_63, k_64, k_72, k_78, k_80, k_82, k_97, k_99, k_100, k_122, k_244, k_255, k_268, k_280, k_300, k_432, k_650, k_900, k_901, k_999, k_1700, k_2600, k_2601, k_2602, k_2603, k_2604, k_2610, k_2618, k_2682, k_2777, k_2844, k_2868, k_2880, k_3245, k_3250, k_9551, k_9999, k_65536, k_100000, k_999999, k_1000000, k_2147483647, lt_T, lt_F, le_T, le_F, eq_T, eq_F, ↓reduceIte, not_true_eq_false, not_false_eq_true, or_true, or_false, true_or, false_or, and_true, true_and, and_false, false_and]
  · obtain ⟨M1, r1, r2, r3⟩ := ih (stI M (m + 1) i.toNat (M.1 (m + 1) (3250 + i).toNat)) (fun e e0 => by
      by_cases q : e = i
      · rw [if_pos (by omega), q, rI_at rfl rfl, h (3250 + i) (by omega), if_neg (by omega)]
      · rw [rI_nk (by omega), h e e0]
        by_cases q2 : e < i
        · rw [if_pos q2, if_pos (by omega)]
        · rw [if_neg q2, if_neg (by omega)])
    refine ⟨M1, ?_, (Fr.stI ⟨by omega, by omega⟩ (Fr.refl M)).trans r2, r3⟩
    rw [lX11_odds_155]
    simp (disch := omega) only [iI_add, iI_sub, iI_mul, iI_neg, iI_nat, addm1, ixkI, ↓sbind, sbind, ↓bdS, bdS, ↓nm_eq, ↓jn_eq, iI_lt, iI_le, iI_eq, k_0, k_1, k_2, k_3, k_4, k_5, k_6, k_7, k_8, k_9, k_10, k_11, k_12, k_13, k_14, k_15, k_16, k_17, k_18, k_19, k_20, k_21, k_22, k_23, k_24, k_27, k_30, k_32, k_48, k_57, k_59, k_60, k_61, k_62, k_63, k_64, k_72, k_78, k_80, k_82, k_97, k_99, k_100, k_122, k_244, k_255, k_268, k_280, k_300, k_432, k_650, k_900, k_901, k_999, k_1700, k_2600, k_2601, k_2602, k_2603, k_2604, k_2610, k_2618, k_2682, k_2777, k_2844, k_2868, k_2880, k_3245, k_3250, k_9551, k_9999, k_65536, k_100000, k_999999, k_1000000, k_2147483647, lt_T, lt_F, le_T, le_F, eq_T, eq_F, ↓reduceIte, not_true_eq_false, not_false_eq_true, or_true, or_false, true_or, false_or, and_true, true_and, and_false, false_and, r1]
abbrev cO (gs : Nat) : Nat → Prop := fun z => z = 76 ∨ z = 77 ∨ (gs ≤ z ∧ z ≤ gs + 13)
def mO (m : Nat) (M M1 : Mem) : Prop := (M1.2.1 m = M.2.1 m ∧ ∀ i, i ≠ 39 → i ≠ 40 → M1.1 m i = M.1 m i) ∧ (∀ e : Int, 0 ≤ e → M1.1 (m + 1) e.toNat = M.1 (m + 1) e.toNat) ∧ Fr (mL m) M M1
theorem MR.ce {m : Nat} {r : Int} {M M1 : Mem} (hr : 0 ≤ r) (h : ∀ e : Int, 0 ≤ e → M1.1 (m + 1) e.toNat = M.1 (m + 1) e.toNat) (G : MR m r F M) : MR m r F M1 := G.cell hr fun k k0 _ => h k (by omega)
theorem odds_l (w : WF F) (yn : YN N Y) (hN : 0 ≤ N ∧ N ≤ 60) (hW : ∀ x, 0 ≤ x → x < N → WS F Y x) {h r sd n : Int} (hh : 0 ≤ h ∧ h < F 0 1 0) (hr : 0 ≤ r ∧ r < F 0 0 0) (hs : 0 ≤ sd) (hn : 1 ≤ n ∧ n ≤ 10) (hsn : sd + n ≤ 10000) {φ : Nat} (hφ : 30000 < φ) : ∀ (d : Nat) (i v : Int), n - i = d → 0 ≤ i → 0 ≤ v → v ≤ i → ∃ v', (0 ≤ v' ∧ v' ≤ 10) ∧ (∀ g gs y M (nm : NMs) (K : Int32 → Mem → Option (Int32 × Mem)), dj 76 gs y → (g + 13 < gs ∨ gs + 13 < g) → (g + 13 < 76 ∨ 77 < g) → 0 < gs → M.2.2 0 7 = some g → isO 2 g → M.2.2 0 8 = some gs → isO 2 gs → M.2.2 0 9 = some y → isO 8 y → GR g F M → NCn g F nm M → YC y N Y M → ∀ k, d < k → ∃ M1, lX10_odds_84 K φ 0 (iI h) (iI r) (iI sd) (iI n) k (iI v) (iI i) M = K (iI v') M1 ∧ Fr (cO gs) M M1) ∧ ∀ m M (K : Int32 → Mem → Option (Int32 × Mem)), MR m 0 F M → YM m N Y M → (∀ e : Int, 0 ≤ e → e < 280 → M.1 (m + 1) (3250 + e).toNat = M.1 (m + 1) e.toNat) → ∀ k, d < k → ∃ M1, lX11_odds_118 K φ m (iI h) (iI r) (iI sd) (iI n) k (iI v) (iI i) M = K (iI v') M1 ∧ mO m M M1 := by
  have w0 := w.n0
  intro d
  induction d with
  | zero =>
    intro i v hd hi hv hvi
    refine ⟨v, by omega, fun g gs y M nm K _ _ _ _ _ _ _ _ _ _ _ _ _ k hk => ⟨M, ?_, Fr.refl M⟩, fun m M K _ _ _ k hk => ⟨M, ?_, ⟨rfl, fun _ _ _ => rfl⟩, fun _ _ => rfl, Fr.refl M⟩⟩
    · obtain ⟨k, rfl⟩ : ∃ q, k = q + 1 := ⟨k - 1, by omega⟩
      rw [lX10_odds_84]
      simp (disch := omega) only [iI_add, iI_sub, iI_mul, iI_neg, iI_nat, addm1, ixkI, ↓sbind, sbind, ↓bdS, bdS, ↓nm_eq, ↓jn_eq, iI_lt, iI_le, iI_eq, k_0, k_1, k_2, k_3, k_4, k_5, k_6, k_7, k_8, k_9, k_10, k_11, k_12, k_13, k_14, k_15, k_16, k_17, k_18, k_19, k_20, k_21, k_22, k_23, k_24, k_27, k_30, k_32, k_48, k_57, k_59, k_60, k_61, k_62, k_63, k_64, k_72, k_78, k_80, k_82, k_97, k_99, k_100, k_122, k_244, k_255, k_268, k_280, k_300, k_432, k_650, k_900, k_901, k_999, k_1700, k_2600, k_2601, k_2602, k_2603, k_2604, k_2610, k_2618, k_2682, k_2777, k_2844, k_2868, k_2880, k_3245, k_3250, k_9551, k_9999, k_65536, k_100000, k_999999, k_1000000, k_2147483647, lt_T, lt_F, le_T, le_F, eq_T, eq_F, ↓reduceIte, not_true_eq_false, not_false_eq_true, or_true, or_false, true_or, false_or, and_true, true_and, and_false, false_and]
    · obtain ⟨k, rfl⟩ : ∃ q, k = q + 1 := ⟨k - 1, by omega⟩
      rw [lX11_odds_118]
      simp (disch := omega) only [iI_add, iI_sub, iI_mul, iI_neg, iI_nat, addm1, ixkI, ↓sbind, sbind, ↓bdS, bdS, ↓nm_eq, ↓jn_eq, iI_lt, iI_le, iI_eq, k_0, k_1, k_2, k_3, k_4, k_5, k_6, k_7, k_8, k_9, k_10, k_11, k_12, k_13, k_14, k_15, k_16, k_17, k_18, k_19, k_20, k_21, k_22, k_23, k_24, k_27, k_30, k_32, k_48, k_57, k_59, k_60, k_61, k_62, k_63, k_64, k_72, k_78, k_80, k_82, k_97, k_99, k_100, k_122, k_244, k_255, k_268, k_280, k_300, k_432, k_650, k_900, k_901, k_999, k_1700, k_2600, k_2601, k_2602, k_2603, k_2604, k_2610, k_2618, k_2682, k_2777, k_2844, k_2868, k_2880, k_3245, k_3250, k_9551, k_9999, k_65536, k_100000, k_999999, k_1000000, k_2147483647, lt_T, lt_F, le_T, le_F, eq_T, eq_F, ↓reduceIte, not_true_eq_false, not_false_eq_true, or_true, or_false, true_or, false_or, and_true, true_and, and_false, false_and]
  | succ d ih =>
    intro i v hd hi hv hvi
    obtain ⟨F1, rf1, la1, wo1, n1, cut, w1, f1, lc, lm⟩ := live_b w yn hN hW (sd := sd + i) (by omega) hφ
    have hh1 : 0 ≤ h ∧ h < F1 0 1 0 := by rw [f1 1]; exact hh
    obtain ⟨v', v0, ic, im⟩ := ih (i + 1) (if s_has F1 h r = true then v + 1 else v) (by omega) (by omega) (by split <;> omega) (by split <;> omega)
    refine ⟨v', v0, fun g gs y M nm K dd hgs hg7 hg0 e7 o7 e8 o8 e9 o9 G hn hY k hk => ?_, fun m M K R hY hW k hk => ?_⟩
    · obtain ⟨k, rfl⟩ : ∃ q, k = q + 1 := ⟨k - 1, by omega⟩
      obtain ⟨d1, d2, d3⟩ := dd
      obtain ⟨M1, a1, a2, a3, a4⟩ := c_takeOver (h := gs) w G hn (by omega)
      have Y1 : YC y N Y M1 := hY.fr a4 (fun z a b q => by have := q.1; have := q.2; omega)
      have r0 : M1.2.2 0 = M.2.2 0 := (a4 0 (fun q => by have := q.1; omega)).2.2
      obtain ⟨M2, b1, b2, b3, b4, b5, b6, b7, b8, b9⟩ := lc 76 gs y M1 ⟨d1, d2, d3⟩ a2 Y1
      have r1 : M2.2.2 0 = M.2.2 0 := ((b9 0 (fun q => by rcases q with q | q | q <;> omega)).2.2).trans r0
      have frA : Fr (cO gs) M M2 := (a4.mono (fun z q => Or.inr (Or.inr q))).trans (b9.mono (fun z q => by rcases q with q | q | q; exact Or.inl q; exact Or.inr (Or.inl q); exact Or.inr (Or.inr ⟨by omega, by omega⟩)))
      have hs1 := c_hasRock w1 b2 (r := r) (φ := φ) hh1 (by omega) (by omega)
      obtain ⟨M3, c1, c2⟩ := ic g gs y M2 nm K ⟨d1, d2, d3⟩ hgs hg7 hg0 (by rw [r1]; exact e7) o7 (by rw [r1]; exact e8) o8 (by rw [r1]; exact e9) o9 (G.fr frA (fun z a b q => by rcases q with q | q | q <;> omega)) (hn.fr frA (fun q => by rcases q with q | q | q <;> omega) (fun q => by rcases q with q | q | q <;> omega) (fun q => by rcases q with q | q | q <;> omega)) (hY.fr frA (fun z a b q => by rcases q with q | q | q <;> omega)) k (by omega)
      refine ⟨M3, ?_, frA.trans c2⟩
      have s7 : M1.2.2 0 9 = some y := by rw [r0]; exact e9
      have s8 : M1.2.2 0 8 = some gs := by rw [r0]; exact e8
      have t8 : M2.2.2 0 8 = some gs := by rw [r1]; exact e8
      rw [lX10_odds_84]
      cases hb : s_has F1 h r with
      | true =>
        rw [hb] at hs1 c1
        rw [if_pos rfl] at c1
        simp (disch := omega) only [iI_add, iI_sub, iI_mul, iI_neg, iI_nat, addm1, ixkI, ↓sbind, sbind, ↓bdS, bdS, ↓nm_eq, ↓jn_eq, iI_lt, iI_le, iI_eq, k_0, k_1, k_2, k_3, k_4, k_5, k_6, k_7, k_8, k_9, k_10, k_11, k_12, k_13, k_14, k_15, k_16, k_17, k_18, k_19, k_20, k_21, k_22, k_23, k_24, k_27, k_30, k_32, k_48, k_57, k_59, k_60, k_61, k_62, k_63, k_64, k_72, k_78, k_80, k_82, k_97, k_99, k_100, k_122, k_244, k_255, k_268, k_280, k_300, k_432, k_650, k_900, k_901, k_999, k_1700, k_2600, k_2601, k_2602, k_2603, k_2604, k_2610, k_2618, k_2682, k_2777, k_2844, k_2868, k_2880, k_3245, k_3250, k_9551, k_9999, k_65536, k_100000, k_999999, k_1000000, k_2147483647, lt_T, lt_F, le_T, le_F, eq_T, eq_F, ↓reduceIte, not_true_eq_false, not_false_eq_true, or_true, or_false, true_or, false_or, and_true, true_and, and_false, false_and, Nat.zero_add, bI_t, e7, e8, ldr_ok o7, ldr_ok o8, ldr_ok o9, a1, s7, s8, b1, t8, hs1, c1]
      | false =>
        rw [hb] at hs1 c1
        rw [if_neg (by decide)] at c1
        simp (disch := omega) only [iI_add, iI_sub, iI_mul, iI_neg, iI_nat, addm1, ixkI, ↓sbind, sbind, ↓bdS, bdS, ↓nm_eq, ↓jn_eq, iI_lt, iI_le, iI_eq, k_0, k_1, k_2, k_3, k_4, k_5, k_6, k_7, k_8, k_9, k_10, k_11, k_12, k_13, k_14, k_15, k_16, k_17, k_18, k_19, k_20, k_21, k_22, k_23, k_24, k_27, k_30, k_32, k_48, k_57, k_59, k_60, k_61, k_62, k_63, k_64, k_72, k_78, k_80, k_82, k_97, k_99, k_100, k_122, k_244, k_255, k_268, k_280, k_300, k_432, k_650, k_900, k_901, k_999, k_1700, k_2600, k_2601, k_2602, k_2603, k_2604, k_2610, k_2618, k_2682, k_2777, k_2844, k_2868, k_2880, k_3245, k_3250, k_9551, k_9999, k_65536, k_100000, k_999999, k_1000000, k_2147483647, lt_T, lt_F, le_T, le_F, eq_T, eq_F, ↓reduceIte, not_true_eq_false, not_false_eq_true, or_true, or_false, true_or, false_or, and_true, true_and, and_false, false_and, Nat.zero_add, bI_f, e7, e8, ldr_ok o7, ldr_ok o8, ldr_ok o9, a1, s7, s8, b1, t8, hs1, c1]
    · obtain ⟨k, rfl⟩ : ∃ q, k = q + 1 := ⟨k - 1, by omega⟩
      obtain ⟨M2, b1, b2, b3, b4, b5, b6, b7, b8⟩ := lm m M R hY
      have hs1 := m_hasRock w1 b2 (r := r) (φ := φ) hh1 (by omega) (by omega)
      obtain ⟨v2, hv2⟩ : ∃ v2, v2 = (if s_has F1 h r = true then v + 1 else v) := ⟨_, rfl⟩
      obtain ⟨M3, c1, c2, c3⟩ := m_odds155 (m := m) (fun (M26 : Mem) => lX11_odds_118 K φ m (iI h) (iI r) (iI sd) (iI n) k (iI v2) (iI (i + 1)) M26) (iI h) (iI r) (iI sd) (iI n) (iI v2) (iI i) M2 φ 0 (by omega) (by omega) (by omega) M2 (fun e e0 => by rw [if_neg (by omega)])
      have all : ∀ e : Int, 0 ≤ e → M3.1 (m + 1) e.toNat = M.1 (m + 1) e.toNat := fun e e0 => by
        rw [c3 e e0]
        by_cases q : e < 280
        · rw [if_pos q, b8.2.1 (3250 + e) (by omega), hW e e0 q]
        · rw [if_neg q, b8.2.1 e (by omega)]
      have t3 : M3.1 m = M2.1 m := (c2 m (fun q => by have := q.1; omega)).1
      have O3 : mO m M M3 := ⟨⟨((c2 m (fun q => by have := q.1; omega)).2.1).trans b8.1.1, fun j j1 j2 => by rw [t3]; exact b8.1.2 j j1 j2⟩, all, b8.2.2.trans (c2.mono (fun z q => Or.inr (Or.inl (by have := q.1; have := q.2; omega))))⟩
      obtain ⟨M4, e1, e2⟩ := im m M3 K (R.ce (by omega) all) (hY.ce (fun e q => all e (by omega))) (fun e e0 e1 => by rw [all _ (by omega), all _ e0]; exact hW e e0 e1) k (by omega)
      refine ⟨M4, ?_, ⟨e2.1.1.trans O3.1.1, fun j j1 j2 => (e2.1.2 j j1 j2).trans (O3.1.2 j j1 j2)⟩, fun e e0 => (e2.2.1 e e0).trans (O3.2.1 e e0), O3.2.2.trans e2.2.2⟩
      rw [← hv2] at e1
      rw [e1] at c1
      rw [lX11_odds_118]
      cases hb : s_has F1 h r with
      | true =>
        rw [hb] at hs1 hv2
        rw [if_pos rfl] at hv2
        rw [hv2] at c1
        simp (disch := omega) only [iI_add, iI_sub, iI_mul, iI_neg, iI_nat, addm1, ixkI, ↓sbind, sbind, ↓bdS, bdS, ↓nm_eq, ↓jn_eq, iI_lt, iI_le, iI_eq, k_0, k_1, k_2, k_3, k_4, k_5, k_6, k_7, k_8, k_9, k_10, k_11, k_12, k_13, k_14, k_15, k_16, k_17, k_18, k_19, k_20, k_21, k_22, k_23, k_24, k_27, k_30, k_32, k_48, k_57, k_59, k_60, k_61, k_62, k_63, k_64, k_72, k_78, k_80, k_82, k_97, k_99, k_100, k_122, k_244, k_255, k_268, k_280, k_300, k_432, k_650, k_900, k_901, k_999, k_1700, k_2600, k_2601, k_2602, k_2603, k_2604, k_2610, k_2618, k_2682, k_2777, k_2844, k_2868, k_2880, k_3245, k_3250, k_9551, k_9999, k_65536, k_100000, k_999999, k_1000000, k_2147483647, lt_T, lt_F, le_T, le_F, eq_T, eq_F, ↓reduceIte, not_true_eq_false, not_false_eq_true, or_true, or_false, true_or, false_or, and_true, true_and, and_false, false_and, bI_t, b1, hs1, c1]
      | false =>
        rw [hb] at hs1 hv2
        rw [if_neg (by decide)] at hv2
        rw [hv2] at c1
        have z0 : v + 0 = v := by omega
        simp (disch := omega) only [iI_add, iI_sub, iI_mul, iI_neg, iI_nat, addm1, ixkI, ↓sbind, sbind, ↓bdS, bdS, ↓nm_eq, ↓jn_eq, iI_lt, iI_le, iI_eq, k_0, k_1, k_2, k_3, k_4, k_5, k_6, k_7, k_8, k_9, k_10, k_11, k_12, k_13, k_14, k_15, k_16, k_17, k_18, k_19, k_20, k_21, k_22, k_23, k_24, k_27, k_30, k_32, k_48, k_57, k_59, k_60, k_61, k_62, k_63, k_64, k_72, k_78, k_80, k_82, k_97, k_99, k_100, k_122, k_244, k_255, k_268, k_280, k_300, k_432, k_650, k_900, k_901, k_999, k_1700, k_2600, k_2601, k_2602, k_2603, k_2604, k_2610, k_2618, k_2682, k_2777, k_2844, k_2868, k_2880, k_3245, k_3250, k_9551, k_9999, k_65536, k_100000, k_999999, k_1000000, k_2147483647, lt_T, lt_F, le_T, le_F, eq_T, eq_F, ↓reduceIte, not_true_eq_false, not_false_eq_true, or_true, or_false, true_or, false_or, and_true, true_and, and_false, false_and, bI_f, b1, hs1, z0, c1]
end OD
