/-! the class's beds: growing, joining, numbering -/
section CB2
variable {g t : Nat} {F : Fld} {M : Mem}
theorem c_grow7 (w : WF F) (hd : t + 14 ≤ g ∨ g + 13 < t) (K : Mem → Option (Unit × Mem)) : ∀ (n : Nat) (h : Int), 0 ≤ h → h ≤ F 0 1 0 → F 0 1 0 < n + h → ∀ M, GR g F M → (∀ y : Int, 0 ≤ y → y < h → M.1 (t + 7) y.toNat = iI y) → ∃ M', lX0_growTree_7 K t g n (iI h) M = K M' ∧ Fr (Rg (t + 7) (t + 7)) M M' ∧ ∀ y : Int, 0 ≤ y → y < F 0 1 0 → M'.1 (t + 7) y.toNat = iI y := by
  have h1 := w.n1
  refine lup (N := F 0 1 0) (P := fun n h => ∀ M, GR g F M → (∀ y : Int, 0 ≤ y → y < h → M.1 (t + 7) y.toNat = iI y) → ∃ M', lX0_growTree_7 K t g n (iI h) M = K M' ∧ Fr (Rg (t + 7) (t + 7)) M M' ∧ ∀ y : Int, 0 ≤ y → y < F 0 1 0 → M'.1 (t + 7) y.toNat = iI y) ?_ ?_
  · intro n M hG hM
    refine ⟨M, ?_, Fr.refl M, hM⟩
    rw [lX0_growTree_7_s]
    simp (disch := omega) only [iI_add, iI_sub, iI_mul, iI_neg, iI_nat, addm1, ixkI, ↓sbind, sbind, ↓bdS, bdS, ↓nm_eq, ↓jn_eq, iI_lt, iI_le, iI_eq, k_0, k_1, k_2, k_3, k_4, k_5, k_6, k_7, k_8, k_9, k_10, k_11, k_12, k_13, k_14, k_15, k_16, k_17, k_18, k_19, k_20, k_21, k_22, k_23, k_24, k_27, k_30, k_32, k_48, k_57, k_59, k_60, k_61, k_62, k_63, k_64, k_72, k_78, k_80, k_82, k_97, k_99, k_100, k_122, k_244, k_255, k_268, k_280, k_300, k_432, k_650, k_900, k_901, k_999, k_1700, k_2600, k_2601, k_2602, k_2603, k_2604, k_2610, k_2618, k_2682, k_2777, k_2844, k_2868, k_2880, k_3245, k_3250, k_9551, k_9999, k_65536, k_100000, k_999999, k_1000000, k_2147483647, lt_T, lt_F, le_T, le_F, eq_T, eq_F, ↓reduceIte, not_true_eq_false, not_false_eq_true, or_true, or_false, true_or, false_or, and_true, true_and, and_false, false_and, hG.n1]
  · intro n h h0 hn ih M hG hM
    have hF : Fr (Rg (t + 7) (t + 7)) M (stI M (t + 7) h.toNat (iI h)) := Fr.stI ⟨by omega, by omega⟩ (Fr.refl M)
    obtain ⟨M', e, f, T⟩ := ih (stI M (t + 7) h.toNat (iI h)) (hG.fr hF (fun x a b q => by have := q.1; have := q.2; omega)) (fun y y0 y1 => by
      by_cases hy : y = h
      · rw [hy]; exact rI_eq _ _ _ _
      · rw [rI_nk (by omega)]; exact hM y y0 (by omega))
    refine ⟨M', ?_, hF.trans f, T⟩
    rw [← e, lX0_growTree_7_s]
    simp (disch := omega) only [iI_add, iI_sub, iI_mul, iI_neg, iI_nat, addm1, ixkI, ↓sbind, sbind, ↓bdS, bdS, ↓nm_eq, ↓jn_eq, iI_lt, iI_le, iI_eq, k_0, k_1, k_2, k_3, k_4, k_5, k_6, k_7, k_8, k_9, k_10, k_11, k_12, k_13, k_14, k_15, k_16, k_17, k_18, k_19, k_20, k_21, k_22, k_23, k_24, k_27, k_30, k_32, k_48, k_57, k_59, k_60, k_61, k_62, k_63, k_64, k_72, k_78, k_80, k_82, k_97, k_99, k_100, k_122, k_244, k_255, k_268, k_280, k_300, k_432, k_650, k_900, k_901, k_999, k_1700, k_2600, k_2601, k_2602, k_2603, k_2604, k_2610, k_2618, k_2682, k_2777, k_2844, k_2868, k_2880, k_3245, k_3250, k_9551, k_9999, k_65536, k_100000, k_999999, k_1000000, k_2147483647, lt_T, lt_F, le_T, le_F, eq_T, eq_F, ↓reduceIte, not_true_eq_false, not_false_eq_true, or_true, or_false, true_or, false_or, and_true, true_and, and_false, false_and, hG.n1]
theorem c_grow30 (w : WF F) (hd : t + 14 ≤ g ∨ g + 13 < t) {φ : Nat} (hφ : 2000 < φ) : ∀ (n : Nat) (k : Nat) (M : Mem), (k : Int) ≤ F 0 1 0 - 1 → F 0 1 0 < n + (k + 1) → GR g F M → TC t F k M → ∃ M', lX0_growTree_30 φ t g n (iI (k + 1)) M = some ((), M') ∧ Fr (fun x => x = t ∨ (t + 4 ≤ x ∧ x ≤ t + 7)) M M' ∧ TC t F (s_cn F) M' ∧ ∀ j, j ≠ 2 → M'.1 t j = M.1 t j := by
  have h1 := w.n1
  intro n
  induction n with
  | zero => intro k M hk hn; omega
  | succ n ih =>
    intro k M hk hn hG hT
    by_cases hc : (k : Int) < F 0 1 0 - 1
    · obtain ⟨M1, e1, f1, T1, U1⟩ := c_addNearest w hd hc hφ hG hT
      obtain ⟨M', e, f, T, U⟩ := ih (k + 1) M1 (by omega) (by omega) (hG.fr f1 (fun x a b q => by omega)) T1
      refine ⟨M', ?_, f1.trans f, T, fun j hj => (U j hj).trans (U1 j hj)⟩
      rw [lX0_growTree_30_s, e1]
      simp (disch := omega) only [iI_add, iI_sub, iI_mul, iI_neg, iI_nat, addm1, ixkI, ↓sbind, sbind, ↓bdS, bdS, ↓nm_eq, ↓jn_eq, iI_lt, iI_le, iI_eq, k_0, k_1, k_2, k_3, k_4, k_5, k_6, k_7, k_8, k_9, k_10, k_11, k_12, k_13, k_14, k_15, k_16, k_17, k_18, k_19, k_20, k_21, k_22, k_23, k_24, k_27, k_30, k_32, k_48, k_57, k_59, k_60, k_61, k_62, k_63, k_64, k_72, k_78, k_80, k_82, k_97, k_99, k_100, k_122, k_244, k_255, k_268, k_280, k_300, k_432, k_650, k_900, k_901, k_999, k_1700, k_2600, k_2601, k_2602, k_2603, k_2604, k_2610, k_2618, k_2682, k_2777, k_2844, k_2868, k_2880, k_3245, k_3250, k_9551, k_9999, k_65536, k_100000, k_999999, k_1000000, k_2147483647, lt_T, lt_F, le_T, le_F, eq_T, eq_F, ↓reduceIte, not_true_eq_false, not_false_eq_true, or_true, or_false, true_or, false_or, and_true, true_and, and_false, false_and, hG.n1]
      exact e
    · refine ⟨M, ?_, Fr.refl M, ?_, fun _ _ => rfl⟩
      · rw [lX0_growTree_30_s]
        simp (disch := omega) only [iI_add, iI_sub, iI_mul, iI_neg, iI_nat, addm1, ixkI, ↓sbind, sbind, ↓bdS, bdS, ↓nm_eq, ↓jn_eq, iI_lt, iI_le, iI_eq, k_0, k_1, k_2, k_3, k_4, k_5, k_6, k_7, k_8, k_9, k_10, k_11, k_12, k_13, k_14, k_15, k_16, k_17, k_18, k_19, k_20, k_21, k_22, k_23, k_24, k_27, k_30, k_32, k_48, k_57, k_59, k_60, k_61, k_62, k_63, k_64, k_72, k_78, k_80, k_82, k_97, k_99, k_100, k_122, k_244, k_255, k_268, k_280, k_300, k_432, k_650, k_900, k_901, k_999, k_1700, k_2600, k_2601, k_2602, k_2603, k_2604, k_2610, k_2618, k_2682, k_2777, k_2844, k_2868, k_2880, k_3245, k_3250, k_9551, k_9999, k_65536, k_100000, k_999999, k_1000000, k_2147483647, lt_T, lt_F, le_T, le_F, eq_T, eq_F, ↓reduceIte, not_true_eq_false, not_false_eq_true, or_true, or_false, true_or, false_or, and_true, true_and, and_false, false_and, hG.n1]
      · rw [show s_cn F = k from by unfold s_cn; omega]
        exact hT
theorem c_growTree (w : WF F) (hd : t + 14 ≤ g ∨ g + 13 < t) {φ : Nat} (hφ : 2000 < φ) (G : GR g F M) : ∃ M', fX0_growTree φ t g M = some ((), M') ∧ Fr (fun x => x = t ∨ (t + 4 ≤ x ∧ x ≤ t + 7)) M M' ∧ TC t F (s_cn F) M' ∧ ∀ j, j ≠ 2 → M'.1 t j = M.1 t j := by
  have h1 := w.n1
  have hF : Fr (fun x => x = t ∨ (t + 4 ≤ x ∧ x ≤ t + 7)) M (stI M t 2 (iI 0)) := Fr.stI (Or.inl rfl) (Fr.refl M)
  obtain ⟨M1, e1, f1, T1⟩ := c_grow7 (t := t) w hd (fun M3 => lX0_growTree_30 φ t g φ (iI 1) M3) φ 0 (by omega) (by omega) (by omega) (stI M t 2 (iI 0)) (G.fr hF (fun x a b q => by omega)) (fun y y0 y1 => by omega)
  have G1 := (G.fr hF (fun x a b q => by omega)).fr f1 (fun x a b q => by have := q.1; have := q.2; omega)
  have m2 : M1.1 t 2 = iI 0 := by rw [(f1 t (fun q => by have := q.1; omega)).1]; exact rI_eq _ _ _ _
  have mj : ∀ j, j ≠ 2 → M1.1 t j = M.1 t j := fun j hj => by rw [(f1 t (fun q => by have := q.1; omega)).1, rI_nk hj]
  have f1' : Fr (fun x => x = t ∨ (t + 4 ≤ x ∧ x ≤ t + 7)) M M1 := hF.trans (f1.mono fun x q => Or.inr ⟨by have := q.1; omega, q.2⟩)
  have T0 : TC t F 0 M1 := ⟨m2, T1, fun j hj => absurd hj (Nat.not_lt_zero j)⟩
  by_cases hz : F 0 1 0 = 0
  · refine ⟨M1, ?_, f1', ?_, mj⟩
    · unfold fX0_growTree
      simp only [k_0, k_1, ↓nm_eq]
      refine e1.trans ?_
      obtain ⟨n, rfl⟩ : ∃ n, φ = n + 1 := ⟨φ - 1, by omega⟩
      rw [lX0_growTree_30_s]
      simp (disch := omega) only [iI_add, iI_sub, iI_mul, iI_neg, iI_nat, addm1, ixkI, ↓sbind, sbind, ↓bdS, bdS, ↓nm_eq, ↓jn_eq, iI_lt, iI_le, iI_eq, k_0, k_1, k_2, k_3, k_4, k_5, k_6, k_7, k_8, k_9, k_10, k_11, k_12, k_13, k_14, k_15, k_16, k_17, k_18, k_19, k_20, k_21, k_22, k_23, k_24, k_27, k_30, k_32, k_48, k_57, k_59, k_60, k_61, k_62, k_63, k_64, k_72, k_78, k_80, k_82, k_97, k_99, k_100, k_122, k_244, k_255, k_268, k_280, k_300, k_432, k_650, k_900, k_901, k_999, k_1700, k_2600, k_2601, k_2602, k_2603, k_2604, k_2610, k_2618, k_2682, k_2777, k_2844, k_2868, k_2880, k_3245, k_3250, k_9551, k_9999, k_65536, k_100000, k_999999, k_1000000, k_2147483647, lt_T, lt_F, le_T, le_F, eq_T, eq_F, ↓reduceIte, not_true_eq_false, not_false_eq_true, or_true, or_false, true_or, false_or, and_true, true_and, and_false, false_and, G1.n1]
    · rw [show s_cn F = 0 from by unfold s_cn; omega]
      exact T0
  · obtain ⟨M2, e2, f2, T2, U2⟩ := c_grow30 w hd hφ φ 0 M1 (by omega) (by omega) G1 T0
    refine ⟨M2, ?_, f1'.trans f2, T2, fun j hj => (U2 j hj).trans (mj j hj)⟩
    unfold fX0_growTree
    simp only [k_0, k_1, ↓nm_eq]
    exact e1.trans e2
theorem c_mateOf {a b l : Int} (hn : 0 ≤ F 3 a 2 ∧ F 3 a 2 ≤ 12) (hl : -2147483648 ≤ l ∧ l < 2147483648) (h2 : M.1 t 2 = iI (F 3 a 2)) (hm : ∀ x : Int, 0 ≤ x → x < F 3 a 2 → M.1 (t + 2) x.toNat = iI (s_mt F a b x)) : fX5_mateOf t (iI l) M = some (iI (if 0 ≤ l then s_mt F a b l else -1)) := by
  unfold fX5_mateOf
  by_cases h0 : l < 0
  · simp (disch := omega) only [iI_add, iI_sub, iI_mul, iI_neg, iI_nat, addm1, ixkI, ↓sbind, sbind, ↓bdS, bdS, ↓nm_eq, ↓jn_eq, iI_lt, iI_le, iI_eq, k_0, k_1, k_2, k_3, k_4, k_5, k_6, k_7, k_8, k_9, k_10, k_11, k_12, k_13, k_14, k_15, k_16, k_17, k_18, k_19, k_20, k_21, k_22, k_23, k_24, k_27, k_30, k_32, k_48, k_57, k_59, k_60, k_61, k_62, k_63, k_64, k_72, k_78, k_80, k_82, k_97, k_99, k_100, k_122, k_244, k_255, k_268, k_280, k_300, k_432, k_650, k_900, k_901, k_999, k_1700, k_2600, k_2601, k_2602, k_2603, k_2604, k_2610, k_2618, k_2682, k_2777, k_2844, k_2868, k_2880, k_3245, k_3250, k_9551, k_9999, k_65536, k_100000, k_999999, k_1000000, k_2147483647, lt_T, lt_F, le_T, le_F, eq_T, eq_F, ↓reduceIte, not_true_eq_false, not_false_eq_true, or_true, or_false, true_or, false_or, and_true, true_and, and_false, false_and]
  · by_cases h1 : F 3 a 2 ≤ l
    · simp (disch := omega) only [iI_add, iI_sub, iI_mul, iI_neg, iI_nat, addm1, ixkI, ↓sbind, sbind, ↓bdS, bdS, ↓nm_eq, ↓jn_eq, iI_lt, iI_le, iI_eq, k_0, k_1, k_2, k_3, k_4, k_5, k_6, k_7, k_8, k_9, k_10, k_11, k_12, k_13, k_14, k_15, k_16, k_17, k_18, k_19, k_20, k_21, k_22, k_23, k_24, k_27, k_30, k_32, k_48, k_57, k_59, k_60, k_61, k_62, k_63, k_64, k_72, k_78, k_80, k_82, k_97, k_99, k_100, k_122, k_244, k_255, k_268, k_280, k_300, k_432, k_650, k_900, k_901, k_999, k_1700, k_2600, k_2601, k_2602, k_2603, k_2604, k_2610, k_2618, k_2682, k_2777, k_2844, k_2868, k_2880, k_3245, k_3250, k_9551, k_9999, k_65536, k_100000, k_999999, k_1000000, k_2147483647, lt_T, lt_F, le_T, le_F, eq_T, eq_F, ↓reduceIte, not_true_eq_false, not_false_eq_true, or_true, or_false, true_or, false_or, and_true, true_and, and_false, false_and, h2]
      rw [s_mt_out F a b h1]
    · simp (disch := omega) only [iI_add, iI_sub, iI_mul, iI_neg, iI_nat, addm1, ixkI, ↓sbind, sbind, ↓bdS, bdS, ↓nm_eq, ↓jn_eq, iI_lt, iI_le, iI_eq, k_0, k_1, k_2, k_3, k_4, k_5, k_6, k_7, k_8, k_9, k_10, k_11, k_12, k_13, k_14, k_15, k_16, k_17, k_18, k_19, k_20, k_21, k_22, k_23, k_24, k_27, k_30, k_32, k_48, k_57, k_59, k_60, k_61, k_62, k_63, k_64, k_72, k_78, k_80, k_82, k_97, k_99, k_100, k_122, k_244, k_255, k_268, k_280, k_300, k_432, k_650, k_900, k_901, k_999, k_1700, k_2600, k_2601, k_2602, k_2603, k_2604, k_2610, k_2618, k_2682, k_2777, k_2844, k_2868, k_2880, k_3245, k_3250, k_9551, k_9999, k_65536, k_100000, k_999999, k_1000000, k_2147483647, lt_T, lt_F, le_T, le_F, eq_T, eq_F, ↓reduceIte, not_true_eq_false, not_false_eq_true, or_true, or_false, true_or, false_or, and_true, true_and, and_false, false_and, h2, hm]
theorem c_joinPairs (w : WF F) {a b : Int} (ha : 0 ≤ a ∧ a < F 0 1 0) (hb : 0 ≤ b ∧ b < F 0 1 0) {φ : Nat} (hφ : 2000 < φ) {L : Int → Int} (hL : ∀ s, 0 ≤ s → s < 72 → 0 ≤ L s ∧ L s < 72) (h2 : M.1 (t + 1) 2 = iI (F 3 a 2)) (hm : ∀ x : Int, 0 ≤ x → x < F 3 a 2 → M.1 (t + 1 + 2) x.toNat = iI (s_mt F a b x)) (hg : ∀ s : Int, 0 ≤ s → s < 72 → M.1 (t + 8) s.toNat = iI (L s)) : ∃ M', fX0_joinPairs φ t (iI a) (iI b) M = some ((), M') ∧ Fr (Rg (t + 8) (t + 8)) M M' ∧ ∀ s : Int, 0 ≤ s → s < 72 → M'.1 (t + 8) s.toNat = iI (bC F a b L s) := by
  have n1 := w.n1
  have na := w.nl ha
  have nb := w.nl hb
  have key := lup (N := F 3 a 2) (P := fun n l => ∀ L M, (∀ s, 0 ≤ s → s < 72 → 0 ≤ L s ∧ L s < 72) → M.1 (t + 1) 2 = iI (F 3 a 2) → (∀ x : Int, 0 ≤ x → x < F 3 a 2 → M.1 (t + 1 + 2) x.toNat = iI (s_mt F a b x)) → (∀ s : Int, 0 ≤ s → s < 72 → M.1 (t + 8) s.toNat = iI (L s)) → ∃ M', lX0_joinPairs_2 φ t (iI a) (iI b) n (iI l) M = some ((), M') ∧ Fr (Rg (t + 8) (t + 8)) M M' ∧ ∀ s : Int, 0 ≤ s → s < 72 → M'.1 (t + 8) s.toNat = iI (fo (fun l L => bJ F a b l L) (F 3 a 2) l L s))
    (fun n L M hL h2 hm hg => by
      refine ⟨M, ?_, Fr.refl M, fun s s0 s1 => ?_⟩
      · rw [lX0_joinPairs_2_s]
        simp (disch := omega) only [iI_add, iI_sub, iI_mul, iI_neg, iI_nat, addm1, ixkI, ↓sbind, sbind, ↓bdS, bdS, ↓nm_eq, ↓jn_eq, iI_lt, iI_le, iI_eq, k_0, k_1, k_2, k_3, k_4, k_5, k_6, k_7, k_8, k_9, k_10, k_11, k_12, k_13, k_14, k_15, k_16, k_17, k_18, k_19, k_20, k_21, k_22, k_23, k_24, k_27, k_30, k_32, k_48, k_57, k_59, k_60, k_61, k_62, k_63, k_64, k_72, k_78, k_80, k_82, k_97, k_99, k_100, k_122, k_244, k_255, k_268, k_280, k_300, k_432, k_650, k_900, k_901, k_999, k_1700, k_2600, k_2601, k_2602, k_2603, k_2604, k_2610, k_2618, k_2682, k_2777, k_2844, k_2868, k_2880, k_3245, k_3250, k_9551, k_9999, k_65536, k_100000, k_999999, k_1000000, k_2147483647, lt_T, lt_F, le_T, le_F, eq_T, eq_F, ↓reduceIte, not_true_eq_false, not_false_eq_true, or_true, or_false, true_or, false_or, and_true, true_and, and_false, false_and, h2]
      · rw [fo_e _ (Int.le_refl _)]
        exact hg s s0 s1)
    (fun n l l0 l1 ih L M hL h2 hm hg => by
      have em := c_mateOf (t := t + 1) (l := l) na (by omega) h2 hm
      rw [if_pos l0] at em
      have hr := s_mt_rng F a b l0
      rw [fo_s _ l1]
      by_cases hc : s_mt F a b l = -1
      · have ej : bJ F a b l L = L := by funext s; exact if_pos hc
        rw [ej]
        obtain ⟨M', e, f, T⟩ := ih L M hL h2 hm hg
        refine ⟨M', ?_, f, T⟩
        rw [lX0_joinPairs_2_s, em, ← e]
        simp (disch := omega) only [iI_add, iI_sub, iI_mul, iI_neg, iI_nat, addm1, ixkI, ↓sbind, sbind, ↓bdS, bdS, ↓nm_eq, ↓jn_eq, iI_lt, iI_le, iI_eq, k_0, k_1, k_2, k_3, k_4, k_5, k_6, k_7, k_8, k_9, k_10, k_11, k_12, k_13, k_14, k_15, k_16, k_17, k_18, k_19, k_20, k_21, k_22, k_23, k_24, k_27, k_30, k_32, k_48, k_57, k_59, k_60, k_61, k_62, k_63, k_64, k_72, k_78, k_80, k_82, k_97, k_99, k_100, k_122, k_244, k_255, k_268, k_280, k_300, k_432, k_650, k_900, k_901, k_999, k_1700, k_2600, k_2601, k_2602, k_2603, k_2604, k_2610, k_2618, k_2682, k_2777, k_2844, k_2868, k_2880, k_3245, k_3250, k_9551, k_9999, k_65536, k_100000, k_999999, k_1000000, k_2147483647, lt_T, lt_F, le_T, le_F, eq_T, eq_F, ↓reduceIte, not_true_eq_false, not_false_eq_true, or_true, or_false, true_or, false_or, and_true, true_and, and_false, false_and, h2]
      · have z1 := hL (b * 12 + s_mt F a b l) (by omega) (by omega)
        have z2 := hL (a * 12 + l) (by omega) (by omega)
        have g1 := hg (b * 12 + s_mt F a b l) (by omega) (by omega)
        have g2 := hg (a * 12 + l) (by omega) (by omega)
        obtain ⟨M1, e1, f1, T1, _⟩ := c_relabel (M := M) (x := t + 8) (nt := 72) (N := 72) (fr := L (b * 12 + s_mt F a b l)) (to := L (a * 12 + l)) (L := L) (by omega) (fun h a b => by have := hL h a b; omega) (by omega) hφ hg
        have ej : ∀ s, bJ F a b l L s = if L s = L (b * 12 + s_mt F a b l) then L (a * 12 + l) else L s := fun s => if_neg hc
        obtain ⟨M', e, f, T⟩ := ih (bJ F a b l L) M1 (bJ_rng hL (by omega)) (by rw [(f1 (t + 1) (fun q => by have := q.1; omega)).1]; exact h2) (by rw [(f1 (t + 1 + 2) (fun q => by have := q.1; omega)).1]; exact hm) (fun s s0 s1 => by rw [ej s]; exact T1 s s0 s1)
        refine ⟨M', ?_, f1.trans f, T⟩
        rw [lX0_joinPairs_2_s, em, ← e]
        simp (disch := omega) only [iI_add, iI_sub, iI_mul, iI_neg, iI_nat, addm1, ixkI, ↓sbind, sbind, ↓bdS, bdS, ↓nm_eq, ↓jn_eq, iI_lt, iI_le, iI_eq, k_0, k_1, k_2, k_3, k_4, k_5, k_6, k_7, k_8, k_9, k_10, k_11, k_12, k_13, k_14, k_15, k_16, k_17, k_18, k_19, k_20, k_21, k_22, k_23, k_24, k_27, k_30, k_32, k_48, k_57, k_59, k_60, k_61, k_62, k_63, k_64, k_72, k_78, k_80, k_82, k_97, k_99, k_100, k_122, k_244, k_255, k_268, k_280, k_300, k_432, k_650, k_900, k_901, k_999, k_1700, k_2600, k_2601, k_2602, k_2603, k_2604, k_2610, k_2618, k_2682, k_2777, k_2844, k_2868, k_2880, k_3245, k_3250, k_9551, k_9999, k_65536, k_100000, k_999999, k_1000000, k_2147483647, lt_T, lt_F, le_T, le_F, eq_T, eq_F, ↓reduceIte, not_true_eq_false, not_false_eq_true, or_true, or_false, true_or, false_or, and_true, true_and, and_false, false_and, h2, c_slot, g1, g2, ← k_72]
        simp (disch := omega) only [k_72, e1, bdS, iI_add])
    φ 0 (by omega) (by omega) (by omega) L M hL h2 hm hg
  unfold fX0_joinPairs
  simp only [k_0]
  exact key
/-! numbering -/
def vis (h l h' l' : Int) : Prop := h' < h ∨ (h' = h ∧ l' < l)
def CN (t : Nat) (F : Fld) (L : Int → Int) (q : NS) (h l : Int) (M : Mem) : Prop := nOk q ∧ q.1 ≤ 12 * h + l ∧ M.1 t 7 = iI q.1 ∧ (∀ x : Int, 0 ≤ x → x < 72 → M.1 (t + 10) x.toNat = iI (q.2 x)) ∧ (∀ s : Int, 0 ≤ s → s < 72 → M.1 (t + 8) s.toNat = iI (L s)) ∧ (∀ h' l', vl F h' l' → vis h l h' l' → q.2 (L (h' * 12 + l')) ≠ -1 ∧ M.1 (t + 9) (h' * 12 + l').toNat = iI (q.2 (L (h' * 12 + l'))) ∧ M.1 (t + 11) (q.2 (L (h' * 12 + l')) * 6 + h').toNat = iI l') ∧ ∀ x h' : Int, 0 ≤ x → x < 72 → 0 ≤ h' → h' < 6 → (∀ l', vl F h' l' → vis h l h' l' → q.2 (L (h' * 12 + l')) ≠ x) → M.1 (t + 11) (x * 6 + h').toNat = iI (-1)
theorem CN.mv {L : Int → Int} {q : NS} {h l h2 l2 : Int} (e : ∀ h' l', vl F h' l' → (vis h l h' l' ↔ vis h2 l2 h' l')) (hle : 12 * h + l ≤ 12 * h2 + l2) (hC : CN t F L q h l M) : CN t F L q h2 l2 M := by
  obtain ⟨c1, c2, c3, c4, c5, c6, c7⟩ := hC
  exact ⟨c1, by omega, c3, c4, c5, fun h' l' v u => c6 h' l' v ((e h' l' v).mpr u), fun x h' x0 x1 h0 h1 hn => c7 x h' x0 x1 h0 h1 fun l' v u => hn l' v ((e h' l' v).mp u)⟩
/-- the two stores of one layer -/
theorem CN.put {L : Int → Int} {q q' : NS} {h l : Int} {M8 : Mem} (w : WF F) (hL : ∀ s, 0 ≤ s → s < 72 → 0 ≤ L s ∧ L s < 72) (hU : ∀ h l l', vl F h l → vl F h l' → L (h * 12 + l) = L (h * 12 + l') → l = l') (v : vl F h l) (hC : CN t F L q h l M) (hq : q' = nS L (h * 12 + l) q) (a7 : M8.1 t 7 = iI q'.1) (a10 : ∀ x : Int, 0 ≤ x → x < 72 → M8.1 (t + 10) x.toNat = iI (q'.2 x)) (a8 : M8.1 (t + 8) = M.1 (t + 8)) (a9 : M8.1 (t + 9) = M.1 (t + 9)) (a11 : M8.1 (t + 11) = M.1 (t + 11)) : CN t F L q' h (l + 1) (stI (stI M8 (t + 9) (h * 12 + l).toNat (iI (q'.2 (L (h * 12 + l))))) (t + 11) (q'.2 (L (h * 12 + l)) * 6 + h).toNat (iI l)) := by
  obtain ⟨c1, c2, c3, c4, c5, c6, c7⟩ := hC
  have n1 := w.n1
  have nl := w.nl v.1
  have vv := v
  obtain ⟨⟨v1, v2⟩, v3, v4⟩ := vv
  obtain ⟨d1, d2, d3, d4, d5⟩ := nS_inv (L := L) (s := h * 12 + l) c1
  rw [← hq] at d1 d2 d3 d4 d5
  have hs := hL (h * 12 + l) (by omega) (by omega)
  have hv := d1.2.1 (L (h * 12 + l))
  refine ⟨d1, by omega, ?_, fun x x0 x1 => ?_, fun s s0 s1 => ?_, fun h' l' v' u => ?_, fun x h' x0 x1 h0 h1 hn => ?_⟩
  · rw [rI_ng (by omega), rI_ng (by omega)]; exact a7
  · rw [rI_ng (by omega), rI_ng (by omega)]; exact a10 x x0 x1
  · rw [rI_ng (by omega), rI_ng (by omega), a8]; exact c5 s s0 s1
  · have w1 := v'.1
    have w2 := v'.2
    have nl' := w.nl v'.1
    by_cases hc : h' = h ∧ l' = l
    · rw [hc.1, hc.2]
      exact ⟨d2, by rw [rI_ng (by omega)]; exact rI_eq _ _ _ _, rI_eq _ _ _ _⟩
    · have u0 : vis h l h' l' := by unfold vis at u ⊢; omega
      obtain ⟨k1, k2, k3⟩ := c6 h' l' v' u0
      have kq := d3 _ k1
      have kr := d1.2.1 (L (h' * 12 + l'))
      rw [kq]
      refine ⟨k1, ?_, ?_⟩
      · rw [rI_ng (by omega), rI_nk (by omega), a9]; exact k2
      · rw [rI_nk, rI_ng (by omega), a11]
        · exact k3
        · intro e
          have e1 : q'.2 (L (h * 12 + l)) = q.2 (L (h' * 12 + l')) := by omega
          have e2 : h' = h := by omega
          rw [← kq] at e1
          have e3 := d1.2.2 _ _ d2 e1
          rw [e2] at e3 v' hc
          have := hU h l l' v v' e3
          exact hc ⟨rfl, this.symm⟩
  · rw [rI_nk, rI_ng (by omega), a11]
    · refine c7 x h' x0 x1 h0 h1 fun l' v' u' e => hn l' v' (by unfold vis at u' ⊢; omega) ?_
      rw [d3 _ (c6 h' l' v' u').1]
      exact e
    · intro e
      have e1 : q'.2 (L (h * 12 + l)) = x := by omega
      have e2 : h' = h := by omega
      refine hn l (by rw [e2]; exact v) (by unfold vis; omega) ?_
      rw [e2]
      exact e1
theorem c_num60 (w : WF F) (hd : t + 14 ≤ g ∨ g + 13 < t) {L : Int → Int} (hL : ∀ s, 0 ≤ s → s < 72 → 0 ≤ L s ∧ L s < 72) (hU : ∀ h l l', vl F h l → vl F h l' → L (h * 12 + l) = L (h * 12 + l') → l = l') {h : Int} (hh : 0 ≤ h ∧ h < F 0 1 0) (K : Mem → Option (Unit × Mem)) : ∀ (n : Nat) (l : Int), 0 ≤ l → l ≤ F 3 h 2 → F 3 h 2 < n + l → ∀ q M, GR g F M → CN t F L q h l M → ∃ M', lX0_numberBeds_60 K t g (iI h) n (iI l) M = K M' ∧ Fr (fun x => x = t ∨ (t + 9 ≤ x ∧ x ≤ t + 11)) M M' ∧ CN t F L (fo (fun l q => nS L (h * 12 + l) q) (F 3 h 2) l q) h (F 3 h 2) M' ∧ ∀ j, j ≠ 7 → M'.1 t j = M.1 t j := by
  have n1 := w.n1
  have nl := w.nl hh
  refine lup (N := F 3 h 2) (P := fun n l => ∀ q M, GR g F M → CN t F L q h l M → ∃ M', lX0_numberBeds_60 K t g (iI h) n (iI l) M = K M' ∧ Fr (fun x => x = t ∨ (t + 9 ≤ x ∧ x ≤ t + 11)) M M' ∧ CN t F L (fo (fun l q => nS L (h * 12 + l) q) (F 3 h 2) l q) h (F 3 h 2) M' ∧ ∀ j, j ≠ 7 → M'.1 t j = M.1 t j) ?_ ?_
  · intro n q M hG hC
    refine ⟨M, ?_, Fr.refl M, ?_, fun _ _ => rfl⟩
    · rw [lX0_numberBeds_60_s]
      simp (disch := omega) only [iI_add, iI_sub, iI_mul, iI_neg, iI_nat, addm1, ixkI, ↓sbind, sbind, ↓bdS, bdS, ↓nm_eq, ↓jn_eq, iI_lt, iI_le, iI_eq, k_0, k_1, k_2, k_3, k_4, k_5, k_6, k_7, k_8, k_9, k_10, k_11, k_12, k_13, k_14, k_15, k_16, k_17, k_18, k_19, k_20, k_21, k_22, k_23, k_24, k_27, k_30, k_32, k_48, k_57, k_59, k_60, k_61, k_62, k_63, k_64, k_72, k_78, k_80, k_82, k_97, k_99, k_100, k_122, k_244, k_255, k_268, k_280, k_300, k_432, k_650, k_900, k_901, k_999, k_1700, k_2600, k_2601, k_2602, k_2603, k_2604, k_2610, k_2618, k_2682, k_2777, k_2844, k_2868, k_2880, k_3245, k_3250, k_9551, k_9999, k_65536, k_100000, k_999999, k_1000000, k_2147483647, lt_T, lt_F, le_T, le_F, eq_T, eq_F, ↓reduceIte, not_true_eq_false, not_false_eq_true, or_true, or_false, true_or, false_or, and_true, true_and, and_false, false_and, hG.nl]
    · rw [fo_e _ (Int.le_refl _)]; exact hC
  · intro n l l0 l1 ih q M hG hC
    have hC' := hC
    obtain ⟨c1, c2, c3, c4, c5, c6, c7⟩ := hC'
    have v : vl F h l := ⟨hh, l0, l1⟩
    have s1 := hL (h * 12 + l) (by omega) (by omega)
    have s2 := c5 (h * 12 + l) (by omega) (by omega)
    have s3 := c4 (L (h * 12 + l)) s1.1 s1.2
    have s4 := c1.2.1 (L (h * 12 + l))
    have s0 := c1.1
    rw [fo_s _ l1]
    obtain ⟨q', hq⟩ : ∃ q', q' = nS L (h * 12 + l) q := ⟨_, rfl⟩
    rw [← hq]
    by_cases hc : q.2 (L (h * 12 + l)) = -1
    · have eq : q' = (q.1 + 1, fun x => if x = L (h * 12 + l) then q.1 else q.2 x) := by rw [hq]; exact if_pos hc
      have ev : q'.2 (L (h * 12 + l)) = q.1 := by rw [eq]; exact if_pos rfl
      have hF : Fr (fun x => x = t ∨ (t + 9 ≤ x ∧ x ≤ t + 11)) M (stI (stI (stI (stI M (t + 10) (L (h * 12 + l)).toNat (iI q.1)) t 7 (iI (q.1 + 1))) (t + 9) (h * 12 + l).toNat (iI (q'.2 (L (h * 12 + l))))) (t + 11) (q'.2 (L (h * 12 + l)) * 6 + h).toNat (iI l)) := Fr.stI (Or.inr ⟨by omega, by omega⟩) (Fr.stI (Or.inr ⟨by omega, by omega⟩) (Fr.stI (Or.inl rfl) (Fr.stI (Or.inr ⟨by omega, by omega⟩) (Fr.refl M))))
      have hP := CN.put (M8 := stI (stI M (t + 10) (L (h * 12 + l)).toNat (iI q.1)) t 7 (iI (q.1 + 1))) w hL hU v hC hq (by rw [eq]; exact rI_eq _ _ _ _) (fun x x0 x1 => by
        rw [rI_ng (by omega), eq]
        by_cases hx : x = L (h * 12 + l)
        · rw [hx]
          show _ = iI (if L (h * 12 + l) = L (h * 12 + l) then q.1 else q.2 _)
          rw [if_pos rfl]
          exact rI_eq _ _ _ _
        · show _ = iI (if x = L (h * 12 + l) then q.1 else q.2 _)
          rw [if_neg hx, rI_nk (by omega)]
          exact c4 x x0 x1) (by funext z; rw [rI_ng (by omega), rI_ng (by omega)]) (by funext z; rw [rI_ng (by omega), rI_ng (by omega)]) (by funext z; rw [rI_ng (by omega), rI_ng (by omega)])
      obtain ⟨M', e, f, T, U⟩ := ih q' _ (hG.fr hF (fun x a b q => by omega)) hP
      refine ⟨M', ?_, hF.trans f, T, fun j hj => by rw [U j hj, rI_ng (by omega), rI_ng (by omega), rI_nk hj, rI_ng (by omega)]⟩
      rw [← e, lX0_numberBeds_60_s, ev]
      simp (disch := omega) only [iI_add, iI_sub, iI_mul, iI_neg, iI_nat, addm1, ixkI, ↓sbind, sbind, ↓bdS, bdS, ↓nm_eq, ↓jn_eq, iI_lt, iI_le, iI_eq, k_0, k_1, k_2, k_3, k_4, k_5, k_6, k_7, k_8, k_9, k_10, k_11, k_12, k_13, k_14, k_15, k_16, k_17, k_18, k_19, k_20, k_21, k_22, k_23, k_24, k_27, k_30, k_32, k_48, k_57, k_59, k_60, k_61, k_62, k_63, k_64, k_72, k_78, k_80, k_82, k_97, k_99, k_100, k_122, k_244, k_255, k_268, k_280, k_300, k_432, k_650, k_900, k_901, k_999, k_1700, k_2600, k_2601, k_2602, k_2603, k_2604, k_2610, k_2618, k_2682, k_2777, k_2844, k_2868, k_2880, k_3245, k_3250, k_9551, k_9999, k_65536, k_100000, k_999999, k_1000000, k_2147483647, lt_T, lt_F, le_T, le_F, eq_T, eq_F, ↓reduceIte, not_true_eq_false, not_false_eq_true, or_true, or_false, true_or, false_or, and_true, true_and, and_false, false_and, hG.nl, c_slot, s2, s3, hc, c3, rI_ng, rI_eq]
    · have eq : q' = q := by rw [hq]; exact if_neg hc
      have hF : Fr (fun x => x = t ∨ (t + 9 ≤ x ∧ x ≤ t + 11)) M (stI (stI M (t + 9) (h * 12 + l).toNat (iI (q'.2 (L (h * 12 + l))))) (t + 11) (q'.2 (L (h * 12 + l)) * 6 + h).toNat (iI l)) := Fr.stI (Or.inr ⟨by omega, by omega⟩) (Fr.stI (Or.inr ⟨by omega, by omega⟩) (Fr.refl M))
      have hP := CN.put (M8 := M) w hL hU v hC hq (by rw [eq]; exact c3) (by rw [eq]; exact c4) rfl rfl rfl
      obtain ⟨M', e, f, T, U⟩ := ih q' _ (hG.fr hF (fun x a b q => by omega)) hP
      refine ⟨M', ?_, hF.trans f, T, fun j hj => by rw [U j hj, rI_ng (by omega), rI_ng (by omega)]⟩
      rw [← e, lX0_numberBeds_60_s, eq]
      simp (disch := omega) only [iI_add, iI_sub, iI_mul, iI_neg, iI_nat, addm1, ixkI, ↓sbind, sbind, ↓bdS, bdS, ↓nm_eq, ↓jn_eq, iI_lt, iI_le, iI_eq, k_0, k_1, k_2, k_3, k_4, k_5, k_6, k_7, k_8, k_9, k_10, k_11, k_12, k_13, k_14, k_15, k_16, k_17, k_18, k_19, k_20, k_21, k_22, k_23, k_24, k_27, k_30, k_32, k_48, k_57, k_59, k_60, k_61, k_62, k_63, k_64, k_72, k_78, k_80, k_82, k_97, k_99, k_100, k_122, k_244, k_255, k_268, k_280, k_300, k_432, k_650, k_900, k_901, k_999, k_1700, k_2600, k_2601, k_2602, k_2603, k_2604, k_2610, k_2618, k_2682, k_2777, k_2844, k_2868, k_2880, k_3245, k_3250, k_9551, k_9999, k_65536, k_100000, k_999999, k_1000000, k_2147483647, lt_T, lt_F, le_T, le_F, eq_T, eq_F, ↓reduceIte, not_true_eq_false, not_false_eq_true, or_true, or_false, true_or, false_or, and_true, true_and, and_false, false_and, hG.nl, c_slot, s2, s3, hc, c3, rI_ng, rI_eq]
theorem c_num50 (w : WF F) (hd : t + 14 ≤ g ∨ g + 13 < t) {L : Int → Int} (hL : ∀ s, 0 ≤ s → s < 72 → 0 ≤ L s ∧ L s < 72) (hU : ∀ h l l', vl F h l → vl F h l' → L (h * 12 + l) = L (h * 12 + l') → l = l') {φ : Nat} (hφ : 100 < φ) : ∀ (n : Nat) (h : Int), 0 ≤ h → h ≤ F 0 1 0 → F 0 1 0 < n + h → ∀ q M, GR g F M → CN t F L q h 0 M → ∃ M', lX0_numberBeds_50 φ t g n (iI h) M = some ((), M') ∧ Fr (fun x => x = t ∨ (t + 9 ≤ x ∧ x ≤ t + 11)) M M' ∧ CN t F L (fo (fun h q => nR F L h q) (F 0 1 0) h q) (F 0 1 0) 0 M' ∧ ∀ j, j ≠ 7 → M'.1 t j = M.1 t j := by
  have n1 := w.n1
  refine lup (N := F 0 1 0) (P := fun n h => ∀ q M, GR g F M → CN t F L q h 0 M → ∃ M', lX0_numberBeds_50 φ t g n (iI h) M = some ((), M') ∧ Fr (fun x => x = t ∨ (t + 9 ≤ x ∧ x ≤ t + 11)) M M' ∧ CN t F L (fo (fun h q => nR F L h q) (F 0 1 0) h q) (F 0 1 0) 0 M' ∧ ∀ j, j ≠ 7 → M'.1 t j = M.1 t j) ?_ ?_
  · intro n q M hG hC
    refine ⟨M, ?_, Fr.refl M, ?_, fun _ _ => rfl⟩
    · rw [lX0_numberBeds_50_s]
      simp (disch := omega) only [iI_add, iI_sub, iI_mul, iI_neg, iI_nat, addm1, ixkI, ↓sbind, sbind, ↓bdS, bdS, ↓nm_eq, ↓jn_eq, iI_lt, iI_le, iI_eq, k_0, k_1, k_2, k_3, k_4, k_5, k_6, k_7, k_8, k_9, k_10, k_11, k_12, k_13, k_14, k_15, k_16, k_17, k_18, k_19, k_20, k_21, k_22, k_23, k_24, k_27, k_30, k_32, k_48, k_57, k_59, k_60, k_61, k_62, k_63, k_64, k_72, k_78, k_80, k_82, k_97, k_99, k_100, k_122, k_244, k_255, k_268, k_280, k_300, k_432, k_650, k_900, k_901, k_999, k_1700, k_2600, k_2601, k_2602, k_2603, k_2604, k_2610, k_2618, k_2682, k_2777, k_2844, k_2868, k_2880, k_3245, k_3250, k_9551, k_9999, k_65536, k_100000, k_999999, k_1000000, k_2147483647, lt_T, lt_F, le_T, le_F, eq_T, eq_F, ↓reduceIte, not_true_eq_false, not_false_eq_true, or_true, or_false, true_or, false_or, and_true, true_and, and_false, false_and, hG.n1]
    · rw [fo_e _ (Int.le_refl _)]; exact hC
  · intro n h h0 h1 ih q M hG hC
    have nl := w.nl ⟨h0, h1⟩
    obtain ⟨M1, e1, f1, T1, U1⟩ := c_num60 w hd hL hU ⟨h0, h1⟩ (fun M13 => lX0_numberBeds_50 φ t g n (iI (h + 1)) M13) φ 0 (by omega) (by omega) (by omega) q M hG hC
    obtain ⟨M', e, f, T, U⟩ := ih (nR F L h q) M1 (hG.fr f1 (fun x a b q => by omega)) (CN.mv (fun h' l' v => by
      have h2 := v.2
      unfold vis
      by_cases hc : h' = h
      · rw [hc] at h2; omega
      · omega) (by omega) T1)
    rw [fo_s _ h1]
    refine ⟨M', ?_, f1.trans f, T, fun j hj => (U j hj).trans (U1 j hj)⟩
    rw [← e]
    refine Eq.trans ?_ e1
    rw [lX0_numberBeds_50_s]
    simp (disch := omega) only [iI_add, iI_sub, iI_mul, iI_neg, iI_nat, addm1, ixkI, ↓sbind, sbind, ↓bdS, bdS, ↓nm_eq, ↓jn_eq, iI_lt, iI_le, iI_eq, k_0, k_1, k_2, k_3, k_4, k_5, k_6, k_7, k_8, k_9, k_10, k_11, k_12, k_13, k_14, k_15, k_16, k_17, k_18, k_19, k_20, k_21, k_22, k_23, k_24, k_27, k_30, k_32, k_48, k_57, k_59, k_60, k_61, k_62, k_63, k_64, k_72, k_78, k_80, k_82, k_97, k_99, k_100, k_122, k_244, k_255, k_268, k_280, k_300, k_432, k_650, k_900, k_901, k_999, k_1700, k_2600, k_2601, k_2602, k_2603, k_2604, k_2610, k_2618, k_2682, k_2777, k_2844, k_2868, k_2880, k_3245, k_3250, k_9551, k_9999, k_65536, k_100000, k_999999, k_1000000, k_2147483647, lt_T, lt_F, le_T, le_F, eq_T, eq_F, ↓reduceIte, not_true_eq_false, not_false_eq_true, or_true, or_false, true_or, false_or, and_true, true_and, and_false, false_and, hG.n1]
end CB2
