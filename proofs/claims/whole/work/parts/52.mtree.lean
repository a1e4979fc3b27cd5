/-! the reference's tree -/
section MTr
variable {t : Nat} {F : Fld} {M : Mem}
theorem m_square (w : WF F) (G : MR t 0 F M) {a b : Int} (ha : 0 ≤ a ∧ a < F 0 1 0) (hb : 0 ≤ b ∧ b < F 0 1 0) : fX11_square t (iI a) (iI b) M = some (iI (s_sq F a b)) := by
  have h1 := w.n1
  unfold fX11_square fX11_holeRow s_sq
  simp (disch := omega) only [iI_add, iI_sub, iI_mul, iI_neg, iI_nat, addm1, ixkI, ↓sbind, sbind, ↓bdS, bdS, ↓nm_eq, ↓jn_eq, iI_lt, iI_le, iI_eq, k_0, k_1, k_2, k_3, k_4, k_5, k_6, k_7, k_8, k_9, k_10, k_11, k_12, k_13, k_14, k_15, k_16, k_17, k_18, k_19, k_20, k_21, k_22, k_23, k_24, k_27, k_30, k_32, k_48, k_57, k_59, k_60, k_61, k_62, k_63, k_64, k_72, k_78, k_80, k_82, k_97, k_99, k_100, k_122, k_244, k_255, k_268, k_280, k_300, k_432, k_650, k_900, k_901, k_999, k_1700, k_2600, k_2601, k_2602, k_2603, k_2604, k_2610, k_2618, k_2682, k_2777, k_2844, k_2868, k_2880, k_3245, k_3250, k_9551, k_9999, k_65536, k_100000, k_999999, k_1000000, k_2147483647, G.x, G.hw]
def qv (F : Fld) (q : Int × Int) : Prop := (q.1 = -1 ∧ q.2 = -1) ∨ ((0 ≤ q.1 ∧ q.1 < F 0 1 0) ∧ 0 ≤ q.2 ∧ q.2 < F 0 1 0)
theorem qv_st {p : Int → Int} {a b : Int} {q : Int × Int} (ha : 0 ≤ a ∧ a < F 0 1 0) (hb : 0 ≤ b ∧ b < F 0 1 0) (hq : qv F q) : qv F (s_st F p a b q) := by
  unfold s_st
  by_cases h1 : p a = p b
  · rw [if_pos h1]; exact hq
  · rw [if_neg h1]
    by_cases h2 : q.1 = -1
    · rw [if_pos h2]; exact Or.inr ⟨ha, hb⟩
    · rw [if_neg h2]
      by_cases h3 : s_sq F a b < s_sq F q.1 q.2
      · rw [if_pos h3]; exact Or.inr ⟨ha, hb⟩
      · rw [if_neg h3]; exact hq
theorem m_tree61 (w : WF F) (G : MR t 0 F M) {p : Int → Int} (hp : ∀ h, 0 ≤ h → h < F 0 1 0 → 0 ≤ p h ∧ p h < F 0 1 0) (hm : ∀ h : Int, 0 ≤ h → h < F 0 1 0 → M.1 (t + 14) h.toNat = iI (p h)) {a : Int} (ha : 0 ≤ a ∧ a < F 0 1 0) (K : Int32 → Int32 → Option (Unit × Mem)) : ∀ (n : Nat) (b : Int), 0 ≤ b → b ≤ F 0 1 0 → F 0 1 0 < n + b → ∀ q, qv F q → lX11_laysTree_61 K t (iI (F 0 1 0)) (iI a) M n (iI q.1) (iI q.2) (iI b) = K (iI (fo (fun b q => s_st F p a b q) (F 0 1 0) b q).1) (iI (fo (fun b q => s_st F p a b q) (F 0 1 0) b q).2) ∧ qv F (fo (fun b q => s_st F p a b q) (F 0 1 0) b q) := by
  have h1 := w.n1
  refine lup (N := F 0 1 0) (P := fun n b => ∀ q, qv F q → lX11_laysTree_61 K t (iI (F 0 1 0)) (iI a) M n (iI q.1) (iI q.2) (iI b) = K (iI (fo (fun b q => s_st F p a b q) (F 0 1 0) b q).1) (iI (fo (fun b q => s_st F p a b q) (F 0 1 0) b q).2) ∧ qv F (fo (fun b q => s_st F p a b q) (F 0 1 0) b q)) ?_ ?_
  · intro n q hq
    rw [lX11_laysTree_61_s, fo_e _ (Int.le_refl _)]
    simp (disch := omega) only [iI_add, iI_sub, iI_mul, iI_neg, iI_nat, addm1, ixkI, ↓sbind, sbind, ↓bdS, bdS, ↓nm_eq, ↓jn_eq, iI_lt, iI_le, iI_eq, k_0, k_1, k_2, k_3, k_4, k_5, k_6, k_7, k_8, k_9, k_10, k_11, k_12, k_13, k_14, k_15, k_16, k_17, k_18, k_19, k_20, k_21, k_22, k_23, k_24, k_27, k_30, k_32, k_48, k_57, k_59, k_60, k_61, k_62, k_63, k_64, k_72, k_78, k_80, k_82, k_97, k_99, k_100, k_122, k_244, k_255, k_268, k_280, k_300, k_432, k_650, k_900, k_901, k_999, k_1700, k_2600, k_2601, k_2602, k_2603, k_2604, k_2610, k_2618, k_2682, k_2777, k_2844, k_2868, k_2880, k_3245, k_3250, k_9551, k_9999, k_65536, k_100000, k_999999, k_1000000, k_2147483647, lt_T, lt_F, le_T, le_F, eq_T, eq_F, ↓reduceIte, not_true_eq_false, not_false_eq_true, or_true, or_false, true_or, false_or, and_true, true_and, and_false, false_and]
    exact hq
  · intro n b b0 b1 ih q hq
    have sb := s_sq_bd w ha ⟨b0, b1⟩
    have pa := hp a ha.1 ha.2
    have pb := hp b b0 b1
    have ea := hm a ha.1 ha.2
    have eb := hm b b0 b1
    have sq := m_square w G ha ⟨b0, b1⟩
    rw [fo_s _ b1]
    refine ⟨?_, (ih _ (qv_st ha ⟨b0, b1⟩ hq)).2⟩
    rw [← (ih _ (qv_st ha ⟨b0, b1⟩ hq)).1, lX11_laysTree_61_s]
    by_cases he : p a = p b
    · rw [show s_st F p a b q = q from if_pos he]
      simp (disch := omega) only [iI_add, iI_sub, iI_mul, iI_neg, iI_nat, addm1, ixkI, ↓sbind, sbind, ↓bdS, bdS, ↓nm_eq, ↓jn_eq, iI_lt, iI_le, iI_eq, k_0, k_1, k_2, k_3, k_4, k_5, k_6, k_7, k_8, k_9, k_10, k_11, k_12, k_13, k_14, k_15, k_16, k_17, k_18, k_19, k_20, k_21, k_22, k_23, k_24, k_27, k_30, k_32, k_48, k_57, k_59, k_60, k_61, k_62, k_63, k_64, k_72, k_78, k_80, k_82, k_97, k_99, k_100, k_122, k_244, k_255, k_268, k_280, k_300, k_432, k_650, k_900, k_901, k_999, k_1700, k_2600, k_2601, k_2602, k_2603, k_2604, k_2610, k_2618, k_2682, k_2777, k_2844, k_2868, k_2880, k_3245, k_3250, k_9551, k_9999, k_65536, k_100000, k_999999, k_1000000, k_2147483647, lt_T, lt_F, le_T, le_F, eq_T, eq_F, ↓reduceIte, not_true_eq_false, not_false_eq_true, or_true, or_false, true_or, false_or, and_true, true_and, and_false, false_and, ea, eb]
    · by_cases h2 : q.1 = -1
      · rw [show s_st F p a b q = (a, b) from by unfold s_st; rw [if_neg he, if_pos h2]]
        simp (disch := omega) only [iI_add, iI_sub, iI_mul, iI_neg, iI_nat, addm1, ixkI, ↓sbind, sbind, ↓bdS, bdS, ↓nm_eq, ↓jn_eq, iI_lt, iI_le, iI_eq, k_0, k_1, k_2, k_3, k_4, k_5, k_6, k_7, k_8, k_9, k_10, k_11, k_12, k_13, k_14, k_15, k_16, k_17, k_18, k_19, k_20, k_21, k_22, k_23, k_24, k_27, k_30, k_32, k_48, k_57, k_59, k_60, k_61, k_62, k_63, k_64, k_72, k_78, k_80, k_82, k_97, k_99, k_100, k_122, k_244, k_255, k_268, k_280, k_300, k_432, k_650, k_900, k_901, k_999, k_1700, k_2600, k_2601, k_2602, k_2603, k_2604, k_2610, k_2618, k_2682, k_2777, k_2844, k_2868, k_2880, k_3245, k_3250, k_9551, k_9999, k_65536, k_100000, k_999999, k_1000000, k_2147483647, lt_T, lt_F, le_T, le_F, eq_T, eq_F, ↓reduceIte, not_true_eq_false, not_false_eq_true, or_true, or_false, true_or, false_or, and_true, true_and, and_false, false_and, ea, eb]
      · have hq' := hq.resolve_left (fun q => h2 q.1)
        have sc := s_sq_bd w hq'.1 hq'.2
        have sq2 := m_square w G hq'.1 hq'.2
        by_cases h3 : s_sq F a b < s_sq F q.1 q.2
        · rw [show s_st F p a b q = (a, b) from by unfold s_st; rw [if_neg he, if_neg h2, if_pos h3]]
          simp (disch := omega) only [iI_add, iI_sub, iI_mul, iI_neg, iI_nat, addm1, ixkI, ↓sbind, sbind, ↓bdS, bdS, ↓nm_eq, ↓jn_eq, iI_lt, iI_le, iI_eq, k_0, k_1, k_2, k_3, k_4, k_5, k_6, k_7, k_8, k_9, k_10, k_11, k_12, k_13, k_14, k_15, k_16, k_17, k_18, k_19, k_20, k_21, k_22, k_23, k_24, k_27, k_30, k_32, k_48, k_57, k_59, k_60, k_61, k_62, k_63, k_64, k_72, k_78, k_80, k_82, k_97, k_99, k_100, k_122, k_244, k_255, k_268, k_280, k_300, k_432, k_650, k_900, k_901, k_999, k_1700, k_2600, k_2601, k_2602, k_2603, k_2604, k_2610, k_2618, k_2682, k_2777, k_2844, k_2868, k_2880, k_3245, k_3250, k_9551, k_9999, k_65536, k_100000, k_999999, k_1000000, k_2147483647, lt_T, lt_F, le_T, le_F, eq_T, eq_F, ↓reduceIte, not_true_eq_false, not_false_eq_true, or_true, or_false, true_or, false_or, and_true, true_and, and_false, false_and, ea, eb, sq, sq2]
        · rw [show s_st F p a b q = q from by unfold s_st; rw [if_neg he, if_neg h2, if_neg h3]]
          simp (disch := omega) only [iI_add, iI_sub, iI_mul, iI_neg, iI_nat, addm1, ixkI, ↓sbind, sbind, ↓bdS, bdS, ↓nm_eq, ↓jn_eq, iI_lt, iI_le, iI_eq, k_0, k_1, k_2, k_3, k_4, k_5, k_6, k_7, k_8, k_9, k_10, k_11, k_12, k_13, k_14, k_15, k_16, k_17, k_18, k_19, k_20, k_21, k_22, k_23, k_24, k_27, k_30, k_32, k_48, k_57, k_59, k_60, k_61, k_62, k_63, k_64, k_72, k_78, k_80, k_82, k_97, k_99, k_100, k_122, k_244, k_255, k_268, k_280, k_300, k_432, k_650, k_900, k_901, k_999, k_1700, k_2600, k_2601, k_2602, k_2603, k_2604, k_2610, k_2618, k_2682, k_2777, k_2844, k_2868, k_2880, k_3245, k_3250, k_9551, k_9999, k_65536, k_100000, k_999999, k_1000000, k_2147483647, lt_T, lt_F, le_T, le_F, eq_T, eq_F, ↓reduceIte, not_true_eq_false, not_false_eq_true, or_true, or_false, true_or, false_or, and_true, true_and, and_false, false_and, ea, eb, sq, sq2]
theorem m_tree49 (w : WF F) (G : MR t 0 F M) {p : Int → Int} (hp : ∀ h, 0 ≤ h → h < F 0 1 0 → 0 ≤ p h ∧ p h < F 0 1 0) (hm : ∀ h : Int, 0 ≤ h → h < F 0 1 0 → M.1 (t + 14) h.toNat = iI (p h)) {φ : Nat} (hφ : 100 < φ) (K : Int32 → Int32 → Option (Unit × Mem)) : ∀ (n : Nat) (a : Int), 0 ≤ a → a ≤ F 0 1 0 → F 0 1 0 < n + a → ∀ q, qv F q → lX11_laysTree_49 K φ t (iI (F 0 1 0)) M n (iI q.1) (iI q.2) (iI a) = K (iI (fo (fun a q => s_row F p a q) (F 0 1 0) a q).1) (iI (fo (fun a q => s_row F p a q) (F 0 1 0) a q).2) := by
  have h1 := w.n1
  refine lup (N := F 0 1 0) (P := fun n a => ∀ q, qv F q → lX11_laysTree_49 K φ t (iI (F 0 1 0)) M n (iI q.1) (iI q.2) (iI a) = K (iI (fo (fun a q => s_row F p a q) (F 0 1 0) a q).1) (iI (fo (fun a q => s_row F p a q) (F 0 1 0) a q).2)) ?_ ?_
  · intro n q hq
    rw [lX11_laysTree_49_s, fo_e _ (Int.le_refl _)]
    simp (disch := omega) only [iI_add, iI_sub, iI_mul, iI_neg, iI_nat, addm1, ixkI, ↓sbind, sbind, ↓bdS, bdS, ↓nm_eq, ↓jn_eq, iI_lt, iI_le, iI_eq, k_0, k_1, k_2, k_3, k_4, k_5, k_6, k_7, k_8, k_9, k_10, k_11, k_12, k_13, k_14, k_15, k_16, k_17, k_18, k_19, k_20, k_21, k_22, k_23, k_24, k_27, k_30, k_32, k_48, k_57, k_59, k_60, k_61, k_62, k_63, k_64, k_72, k_78, k_80, k_82, k_97, k_99, k_100, k_122, k_244, k_255, k_268, k_280, k_300, k_432, k_650, k_900, k_901, k_999, k_1700, k_2600, k_2601, k_2602, k_2603, k_2604, k_2610, k_2618, k_2682, k_2777, k_2844, k_2868, k_2880, k_3245, k_3250, k_9551, k_9999, k_65536, k_100000, k_999999, k_1000000, k_2147483647, lt_T, lt_F, le_T, le_F, eq_T, eq_F, ↓reduceIte, not_true_eq_false, not_false_eq_true, or_true, or_false, true_or, false_or, and_true, true_and, and_false, false_and]
  · intro n a a0 a1 ih q hq
    obtain ⟨e1, v1⟩ := m_tree61 w G hp hm ⟨a0, a1⟩ (fun v12 v13 => lX11_laysTree_49 K φ t (iI (F 0 1 0)) M n v12 v13 (iI (a + 1))) φ (a + 1) (by omega) (by omega) (by omega) q hq
    rw [fo_s _ a1, ← ih (s_row F p a q) v1]
    refine Eq.trans ?_ e1
    rw [lX11_laysTree_49_s]
    simp (disch := omega) only [iI_add, iI_sub, iI_mul, iI_neg, iI_nat, addm1, ixkI, ↓sbind, sbind, ↓bdS, bdS, ↓nm_eq, ↓jn_eq, iI_lt, iI_le, iI_eq, k_0, k_1, k_2, k_3, k_4, k_5, k_6, k_7, k_8, k_9, k_10, k_11, k_12, k_13, k_14, k_15, k_16, k_17, k_18, k_19, k_20, k_21, k_22, k_23, k_24, k_27, k_30, k_32, k_48, k_57, k_59, k_60, k_61, k_62, k_63, k_64, k_72, k_78, k_80, k_82, k_97, k_99, k_100, k_122, k_244, k_255, k_268, k_280, k_300, k_432, k_650, k_900, k_901, k_999, k_1700, k_2600, k_2601, k_2602, k_2603, k_2604, k_2610, k_2618, k_2682, k_2777, k_2844, k_2868, k_2880, k_3245, k_3250, k_9551, k_9999, k_65536, k_100000, k_999999, k_1000000, k_2147483647, lt_T, lt_F, le_T, le_F, eq_T, eq_F, ↓reduceIte, not_true_eq_false, not_false_eq_true, or_true, or_false, true_or, false_or, and_true, true_and, and_false, false_and]
theorem m_tree158 (w : WF F) {p : Int → Int} (hp : ∀ h, 0 ≤ h → h < F 0 1 0 → 0 ≤ p h ∧ p h < F 0 1 0) {q : Int × Int} (ho : s_ok F p q) (K : Mem → Option (Unit × Mem)) : ∀ (n : Nat) (i : Int), 0 ≤ i → i ≤ F 0 1 0 → F 0 1 0 < n + i → ∀ M, (∀ h : Int, 0 ≤ h → h < F 0 1 0 → M.1 (t + 14) h.toNat = iI (if h < i ∧ p h = p q.2 then p q.1 else p h)) → ∃ M', lX11_laysTree_158 K t (iI (F 0 1 0)) (iI q.1) (iI (p q.2)) n (iI i) M = K M' ∧ Fr (Rg (t + 14) (t + 14)) M M' ∧ ∀ h : Int, 0 ≤ h → h < F 0 1 0 → M'.1 (t + 14) h.toNat = iI (s_rel p q h) := by
  have h1 := w.n1
  obtain ⟨q1, q2, q3, q4⟩ := ho
  have z1 := hp q.1 q1 (by omega)
  have z2 := hp q.2 (by omega) q3
  refine lup (N := F 0 1 0) (P := fun n i => ∀ M, (∀ h : Int, 0 ≤ h → h < F 0 1 0 → M.1 (t + 14) h.toNat = iI (if h < i ∧ p h = p q.2 then p q.1 else p h)) → ∃ M', lX11_laysTree_158 K t (iI (F 0 1 0)) (iI q.1) (iI (p q.2)) n (iI i) M = K M' ∧ Fr (Rg (t + 14) (t + 14)) M M' ∧ ∀ h : Int, 0 ≤ h → h < F 0 1 0 → M'.1 (t + 14) h.toNat = iI (s_rel p q h)) ?_ ?_
  · intro n M hM
    refine ⟨M, ?_, Fr.refl M, fun h a b => ?_⟩
    · rw [lX11_laysTree_158_s]
      simp (disch := omega) only [iI_add, iI_sub, iI_mul, iI_neg, iI_nat, addm1, ixkI, ↓sbind, sbind, ↓bdS, bdS, ↓nm_eq, ↓jn_eq, iI_lt, iI_le, iI_eq, k_0, k_1, k_2, k_3, k_4, k_5, k_6, k_7, k_8, k_9, k_10, k_11, k_12, k_13, k_14, k_15, k_16, k_17, k_18, k_19, k_20, k_21, k_22, k_23, k_24, k_27, k_30, k_32, k_48, k_57, k_59, k_60, k_61, k_62, k_63, k_64, k_72, k_78, k_80, k_82, k_97, k_99, k_100, k_122, k_244, k_255, k_268, k_280, k_300, k_432, k_650, k_900, k_901, k_999, k_1700, k_2600, k_2601, k_2602, k_2603, k_2604, k_2610, k_2618, k_2682, k_2777, k_2844, k_2868, k_2880, k_3245, k_3250, k_9551, k_9999, k_65536, k_100000, k_999999, k_1000000, k_2147483647, lt_T, lt_F, le_T, le_F, eq_T, eq_F, ↓reduceIte, not_true_eq_false, not_false_eq_true, or_true, or_false, true_or, false_or, and_true, true_and, and_false, false_and]
    · rw [hM h a b]
      unfold s_rel
      by_cases hc : p h = p q.2
      · rw [if_pos ⟨b, hc⟩, if_pos hc]
      · rw [if_neg (fun q => hc q.2), if_neg hc]
  · intro n i i0 i1 ih M hM
    have hi := hM i i0 i1
    rw [if_neg (fun q => by omega)] at hi
    have h1' := hM q.1 q1 (by omega)
    rw [if_neg (fun q => q4 q.2)] at h1'
    have hb := hp i i0 i1
    by_cases hc : p i = p q.2
    · have hF : Fr (Rg (t + 14) (t + 14)) M (stI M (t + 14) i.toNat (iI (p q.1))) := Fr.stI ⟨by omega, by omega⟩ (Fr.refl M)
      obtain ⟨M', e, f, T⟩ := ih (stI M (t + 14) i.toNat (iI (p q.1))) (fun h a b => by
        by_cases hh : h = i
        · rw [hh, rI_eq, if_pos ⟨by omega, hc⟩]
        · rw [rI_nk (by omega), hM h a b]
          by_cases hi : h < i
          · by_cases hd : p h = p q.2
            · rw [if_pos ⟨hi, hd⟩, if_pos ⟨by omega, hd⟩]
            · rw [if_neg (fun q => hd q.2), if_neg (fun q => hd q.2)]
          · rw [if_neg (fun q => hi q.1), if_neg (fun q => by omega)])
      refine ⟨M', ?_, hF.trans f, T⟩
      rw [lX11_laysTree_158_s, ← e]
      simp (disch := omega) only [iI_add, iI_sub, iI_mul, iI_neg, iI_nat, addm1, ixkI, ↓sbind, sbind, ↓bdS, bdS, ↓nm_eq, ↓jn_eq, iI_lt, iI_le, iI_eq, k_0, k_1, k_2, k_3, k_4, k_5, k_6, k_7, k_8, k_9, k_10, k_11, k_12, k_13, k_14, k_15, k_16, k_17, k_18, k_19, k_20, k_21, k_22, k_23, k_24, k_27, k_30, k_32, k_48, k_57, k_59, k_60, k_61, k_62, k_63, k_64, k_72, k_78, k_80, k_82, k_97, k_99, k_100, k_122, k_244, k_255, k_268, k_280, k_300, k_432, k_650, k_900, k_901, k_999, k_1700, k_2600, k_2601, k_2602, k_2603, k_2604, k_2610, k_2618, k_2682, k_2777, k_2844, k_2868, k_2880, k_3245, k_3250, k_9551, k_9999, k_65536, k_100000, k_999999, k_1000000, k_2147483647, lt_T, lt_F, le_T, le_F, eq_T, eq_F, ↓reduceIte, not_true_eq_false, not_false_eq_true, or_true, or_false, true_or, false_or, and_true, true_and, and_false, false_and, hi, h1']
    · obtain ⟨M', e, f, T⟩ := ih M (fun h a b => by
        rw [hM h a b]
        by_cases hd : p h = p q.2
        · have : h ≠ i := fun q => hc (q ▸ hd)
          by_cases hi : h < i
          · rw [if_pos ⟨hi, hd⟩, if_pos ⟨by omega, hd⟩]
          · rw [if_neg (fun q => hi q.1), if_neg (fun q => by omega)]
        · rw [if_neg (fun q => hd q.2), if_neg (fun q => hd q.2)])
      refine ⟨M', ?_, f, T⟩
      rw [lX11_laysTree_158_s, ← e]
      simp (disch := omega) only [iI_add, iI_sub, iI_mul, iI_neg, iI_nat, addm1, ixkI, ↓sbind, sbind, ↓bdS, bdS, ↓nm_eq, ↓jn_eq, iI_lt, iI_le, iI_eq, k_0, k_1, k_2, k_3, k_4, k_5, k_6, k_7, k_8, k_9, k_10, k_11, k_12, k_13, k_14, k_15, k_16, k_17, k_18, k_19, k_20, k_21, k_22, k_23, k_24, k_27, k_30, k_32, k_48, k_57, k_59, k_60, k_61, k_62, k_63, k_64, k_72, k_78, k_80, k_82, k_97, k_99, k_100, k_122, k_244, k_255, k_268, k_280, k_300, k_432, k_650, k_900, k_901, k_999, k_1700, k_2600, k_2601, k_2602, k_2603, k_2604, k_2610, k_2618, k_2682, k_2777, k_2844, k_2868, k_2880, k_3245, k_3250, k_9551, k_9999, k_65536, k_100000, k_999999, k_1000000, k_2147483647, lt_T, lt_F, le_T, le_F, eq_T, eq_F, ↓reduceIte, not_true_eq_false, not_false_eq_true, or_true, or_false, true_or, false_or, and_true, true_and, and_false, false_and, hi]
/-- the tree's couples up to k, in the reference -/
def TM (t : Nat) (F : Fld) (k : Nat) (M : Mem) : Prop := M.1 t 30 = iI k ∧ (∀ h : Int, 0 ≤ h → h < F 0 1 0 → M.1 (t + 14) h.toNat = iI (tP F k h)) ∧ ∀ j : Nat, j < k → M.1 (t + 12) j = iI (tQ F j).1 ∧ M.1 (t + 13) j = iI (tQ F j).2
/-- what the tree and the beds may change -/
abbrev mS (t : Nat) : Nat → Prop := fun x => x = t ∨ (t + 9 ≤ x ∧ x ≤ t + 10) ∨ (t + 12 ≤ x ∧ x ≤ t + 17)
theorem m_tree32 (w : WF F) {φ : Nat} (hφ : 100 < φ) : ∀ (n k : Nat) (M : Mem), k ≤ s_cn F → s_cn F < n + k → MR t 0 F M → TM t F k M → ∃ M', lX11_laysTree_32 φ t (iI (F 0 1 0)) n M = some ((), M') ∧ Fr (mS t) M M' ∧ TM t F (s_cn F) M' ∧ (∀ j, j ≠ 30 → M'.1 t j = M.1 t j) ∧ M'.2.1 t = M.2.1 t := by
  have h1 := w.n1
  have hcn : ((s_cn F : Nat) : Int) ≤ 5 := by unfold s_cn; omega
  intro n
  induction n with
  | zero => intro k M hk hn; omega
  | succ n ih =>
    intro k M hk hn hG hT
    obtain ⟨t2, t3, t4⟩ := hT
    by_cases hlt : k < s_cn F
    · have hq : (k : Int) < F 0 1 0 - 1 := by unfold s_cn at hlt; omega
      obtain ⟨ti, _⟩ := tP_inv w k (by omega)
      have hp : ∀ h, 0 ≤ h → h < F 0 1 0 → 0 ≤ tP F k h ∧ tP F k h < F 0 1 0 := fun h a b => ⟨(ti h a b).1, (ti h a b).2.1⟩
      have ho := tQ_ok w hq
      obtain ⟨q1, q2, q3, q4⟩ := ho
      have hF : Fr (mS t) M (stI (stI M (t + 12) k (iI (tQ F k).1)) (t + 13) k (iI (tQ F k).2)) := Fr.stI (Or.inr (Or.inr ⟨by omega, by omega⟩)) (Fr.stI (Or.inr (Or.inr ⟨by omega, by omega⟩)) (Fr.refl M))
      obtain ⟨M1, e1, f1, T1⟩ := m_tree158 (t := t) w hp (tQ_ok w hq) (fun M22 => nm (stI M22 t 30 ((M22.1 t 30) + iI 1)) (fun M23 => lX11_laysTree_32 φ t (iI (F 0 1 0)) n M23)) φ 0 (by omega) (by omega) (by omega) (stI (stI M (t + 12) k (iI (tQ F k).1)) (t + 13) k (iI (tQ F k).2)) (fun h a b => by rw [rI_ng (by omega), rI_ng (by omega), if_neg (fun q => by omega)]; exact t3 h a b)
      have m30 : M1.1 t 30 = iI k := by rw [(f1 t (fun q => by have := q.1; omega)).1, rI_ng (by omega), rI_ng (by omega)]; exact t2
      have fA : Fr (mS t) M (stI M1 t 30 (iI (k + 1))) := Fr.stI (Or.inl rfl) (hF.trans (f1.mono fun x q => Or.inr (Or.inr ⟨by have := q.1; omega, by have := q.2; omega⟩)))
      obtain ⟨M', e, f, T, U, V⟩ := ih (k + 1) (stI M1 t 30 (iI (k + 1))) (by omega) (by omega) (hG.fr fA (fun q => by omega)) ⟨by rw [rI_eq]; rfl, fun h a b => by rw [rI_ng (by omega), T1 h a b]; rfl, fun j hj => by
        rw [rI_ng (by omega), rI_ng (by omega), (f1 (t + 12) (fun q => by have := q.1; omega)).1, (f1 (t + 13) (fun q => by have := q.1; omega)).1]
        by_cases hjk : j = k
        · rw [hjk, rI_ng (by omega), rI_eq, rI_eq]
          exact ⟨rfl, rfl⟩
        · rw [rI_ng (by omega), rI_nk hjk, rI_nk hjk, rI_ng (by omega)]
          exact t4 j (by omega)⟩
      refine ⟨M', ?_, fA.trans f, T, fun j hj => by rw [U j hj, rI_nk hj, (f1 t (fun q => by have := q.1; omega)).1, rI_ng (by omega), rI_ng (by omega)], V.trans (f1 t (fun q => by have := q.1; omega)).2.1⟩
      rw [lX11_laysTree_32_s, ← e]
      have e49 := fun K => m_tree49 w hG hp t3 hφ K φ 0 (by omega) (by omega) (by omega) (-1, -1) (Or.inl ⟨rfl, rfl⟩)
      have eq : fo (fun a q => s_row F (tP F k) a q) (F 0 1 0) 0 (-1, -1) = tQ F k := rfl
      rw [eq] at e49
      simp (disch := omega) only [k_0, k_1, iI_neg, iI_sub, iI_le, t2, lt_T, lt_F, le_T, le_F, eq_T, eq_F, ↓reduceIte, not_true_eq_false, not_false_eq_true, or_true, or_false, true_or, false_or, and_true, true_and, and_false, false_and, e49]
      have g2 : (stI (stI M (t + 12) k (iI (tQ F k).1)) (t + 13) k (iI (tQ F k).2)).1 (t + 14) (tQ F k).2.toNat = iI (tP F k (tQ F k).2) := by rw [rI_ng (by omega), rI_ng (by omega)]; exact t3 _ (by omega) q3
      have e1' := e1
      simp (disch := omega) only [nm_eq, m30, iI_add] at e1'
      rw [← e1']
      simp (disch := omega) only [iI_add, iI_sub, iI_mul, iI_neg, iI_nat, addm1, ixkI, ↓sbind, sbind, ↓bdS, bdS, ↓nm_eq, ↓jn_eq, iI_lt, iI_le, iI_eq, k_0, k_1, k_2, k_3, k_4, k_5, k_6, k_7, k_8, k_9, k_10, k_11, k_12, k_13, k_14, k_15, k_16, k_17, k_18, k_19, k_20, k_21, k_22, k_23, k_24, k_27, k_30, k_32, k_48, k_57, k_59, k_60, k_61, k_62, k_63, k_64, k_72, k_78, k_80, k_82, k_97, k_99, k_100, k_122, k_244, k_255, k_268, k_280, k_300, k_432, k_650, k_900, k_901, k_999, k_1700, k_2600, k_2601, k_2602, k_2603, k_2604, k_2610, k_2618, k_2682, k_2777, k_2844, k_2868, k_2880, k_3245, k_3250, k_9551, k_9999, k_65536, k_100000, k_999999, k_1000000, k_2147483647, lt_T, lt_F, le_T, le_F, eq_T, eq_F, ↓reduceIte, not_true_eq_false, not_false_eq_true, or_true, or_false, true_or, false_or, and_true, true_and, and_false, false_and, rI_ng, t2, Int.toNat_natCast]
      have g3 := t3 _ (by omega) q3
      rw [g3]
    · have hkk : k = s_cn F := by omega
      refine ⟨M, ?_, Fr.refl M, by rw [← hkk]; exact ⟨t2, t3, t4⟩, fun _ _ => rfl, rfl⟩
      rw [lX11_laysTree_32_s]
      have : F 0 1 0 - 1 ≤ (k : Int) := by unfold s_cn at hkk; omega
      simp (disch := omega) only [iI_add, iI_sub, iI_mul, iI_neg, iI_nat, addm1, ixkI, ↓sbind, sbind, ↓bdS, bdS, ↓nm_eq, ↓jn_eq, iI_lt, iI_le, iI_eq, k_0, k_1, k_2, k_3, k_4, k_5, k_6, k_7, k_8, k_9, k_10, k_11, k_12, k_13, k_14, k_15, k_16, k_17, k_18, k_19, k_20, k_21, k_22, k_23, k_24, k_27, k_30, k_32, k_48, k_57, k_59, k_60, k_61, k_62, k_63, k_64, k_72, k_78, k_80, k_82, k_97, k_99, k_100, k_122, k_244, k_255, k_268, k_280, k_300, k_432, k_650, k_900, k_901, k_999, k_1700, k_2600, k_2601, k_2602, k_2603, k_2604, k_2610, k_2618, k_2682, k_2777, k_2844, k_2868, k_2880, k_3245, k_3250, k_9551, k_9999, k_65536, k_100000, k_999999, k_1000000, k_2147483647, lt_T, lt_F, le_T, le_F, eq_T, eq_F, ↓reduceIte, not_true_eq_false, not_false_eq_true, or_true, or_false, true_or, false_or, and_true, true_and, and_false, false_and, t2]
theorem m_tree9 (w : WF F) (K : Mem → Option (Unit × Mem)) : ∀ (n : Nat) (x : Int), 0 ≤ x → x ≤ F 0 1 0 → F 0 1 0 < n + x → ∀ M, (∀ y : Int, 0 ≤ y → y < x → M.1 (t + 14) y.toNat = iI y) → ∃ M', lX11_laysTree_9 K t (iI (F 0 1 0)) n (iI x) M = K M' ∧ Fr (Rg (t + 14) (t + 14)) M M' ∧ ∀ y : Int, 0 ≤ y → y < F 0 1 0 → M'.1 (t + 14) y.toNat = iI y := by
  have h1 := w.n1
  refine lup (N := F 0 1 0) (P := fun n x => ∀ M, (∀ y : Int, 0 ≤ y → y < x → M.1 (t + 14) y.toNat = iI y) → ∃ M', lX11_laysTree_9 K t (iI (F 0 1 0)) n (iI x) M = K M' ∧ Fr (Rg (t + 14) (t + 14)) M M' ∧ ∀ y : Int, 0 ≤ y → y < F 0 1 0 → M'.1 (t + 14) y.toNat = iI y) ?_ ?_
  · intro n M hM
    refine ⟨M, ?_, Fr.refl M, hM⟩
    rw [lX11_laysTree_9_s]
    simp (disch := omega) only [iI_add, iI_sub, iI_mul, iI_neg, iI_nat, addm1, ixkI, ↓sbind, sbind, ↓bdS, bdS, ↓nm_eq, ↓jn_eq, iI_lt, iI_le, iI_eq, k_0, k_1, k_2, k_3, k_4, k_5, k_6, k_7, k_8, k_9, k_10, k_11, k_12, k_13, k_14, k_15, k_16, k_17, k_18, k_19, k_20, k_21, k_22, k_23, k_24, k_27, k_30, k_32, k_48, k_57, k_59, k_60, k_61, k_62, k_63, k_64, k_72, k_78, k_80, k_82, k_97, k_99, k_100, k_122, k_244, k_255, k_268, k_280, k_300, k_432, k_650, k_900, k_901, k_999, k_1700, k_2600, k_2601, k_2602, k_2603, k_2604, k_2610, k_2618, k_2682, k_2777, k_2844, k_2868, k_2880, k_3245, k_3250, k_9551, k_9999, k_65536, k_100000, k_999999, k_1000000, k_2147483647, lt_T, lt_F, le_T, le_F, eq_T, eq_F, ↓reduceIte, not_true_eq_false, not_false_eq_true, or_true, or_false, true_or, false_or, and_true, true_and, and_false, false_and]
  · intro n x x0 x1 ih M hM
    have hF : Fr (Rg (t + 14) (t + 14)) M (stI M (t + 14) x.toNat (iI x)) := Fr.stI ⟨by omega, by omega⟩ (Fr.refl M)
    obtain ⟨M', e, f, T⟩ := ih (stI M (t + 14) x.toNat (iI x)) (fun y y0 y1 => by
      by_cases hy : y = x
      · rw [hy]; exact rI_eq _ _ _ _
      · rw [rI_nk (by omega)]; exact hM y y0 (by omega))
    refine ⟨M', ?_, hF.trans f, T⟩
    rw [lX11_laysTree_9_s, ← e]
    simp (disch := omega) only [iI_add, iI_sub, iI_mul, iI_neg, iI_nat, addm1, ixkI, ↓sbind, sbind, ↓bdS, bdS, ↓nm_eq, ↓jn_eq, iI_lt, iI_le, iI_eq, k_0, k_1, k_2, k_3, k_4, k_5, k_6, k_7, k_8, k_9, k_10, k_11, k_12, k_13, k_14, k_15, k_16, k_17, k_18, k_19, k_20, k_21, k_22, k_23, k_24, k_27, k_30, k_32, k_48, k_57, k_59, k_60, k_61, k_62, k_63, k_64, k_72, k_78, k_80, k_82, k_97, k_99, k_100, k_122, k_244, k_255, k_268, k_280, k_300, k_432, k_650, k_900, k_901, k_999, k_1700, k_2600, k_2601, k_2602, k_2603, k_2604, k_2610, k_2618, k_2682, k_2777, k_2844, k_2868, k_2880, k_3245, k_3250, k_9551, k_9999, k_65536, k_100000, k_999999, k_1000000, k_2147483647, lt_T, lt_F, le_T, le_F, eq_T, eq_F, ↓reduceIte, not_true_eq_false, not_false_eq_true, or_true, or_false, true_or, false_or, and_true, true_and, and_false, false_and]
theorem m_laysTree (w : WF F) {φ : Nat} (hφ : 100 < φ) (G : MR t 0 F M) : ∃ M', fX11_laysTree φ t M = some ((), M') ∧ Fr (mS t) M M' ∧ TM t F (s_cn F) M' ∧ (∀ j, j ≠ 30 → M'.1 t j = M.1 t j) ∧ M'.2.1 t = M.2.1 t := by
  have h1 := w.n1
  obtain ⟨M1, e1, f1, T1⟩ := m_tree9 (t := t) w (fun M3 => nm (stI M3 t 30 (iI 0)) (fun M4 => lX11_laysTree_32 φ t (iI (F 0 1 0)) φ M4)) φ 0 (by omega) (by omega) (by omega) M (fun y a b => by omega)
  have fA : Fr (mS t) M (stI M1 t 30 (iI 0)) := Fr.stI (Or.inl rfl) (f1.mono fun x q => Or.inr (Or.inr ⟨by have := q.1; omega, by have := q.2; omega⟩))
  obtain ⟨M', e, f, T, U, V⟩ := m_tree32 (t := t) w hφ φ 0 (stI M1 t 30 (iI 0)) (by omega) (by unfold s_cn; omega) (G.fr fA (fun q => by omega)) ⟨rI_eq _ _ _ _, fun h a b => by rw [rI_ng (by omega), T1 h a b]; rfl, fun j hj => absurd hj (Nat.not_lt_zero j)⟩
  refine ⟨M', ?_, fA.trans f, T, fun j hj => by rw [U j hj, rI_nk hj, (f1 t (fun q => by have := q.1; omega)).1], V.trans (f1 t (fun q => by have := q.1; omega)).2.1⟩
  rw [← e]
  have e1' := e1
  simp only [nm_eq] at e1'
  rw [← e1']
  unfold fX11_laysTree
  simp (disch := omega) only [iI_add, iI_sub, iI_mul, iI_neg, iI_nat, addm1, ixkI, ↓sbind, sbind, ↓bdS, bdS, ↓nm_eq, ↓jn_eq, iI_lt, iI_le, iI_eq, k_0, k_1, k_2, k_3, k_4, k_5, k_6, k_7, k_8, k_9, k_10, k_11, k_12, k_13, k_14, k_15, k_16, k_17, k_18, k_19, k_20, k_21, k_22, k_23, k_24, k_27, k_30, k_32, k_48, k_57, k_59, k_60, k_61, k_62, k_63, k_64, k_72, k_78, k_80, k_82, k_97, k_99, k_100, k_122, k_244, k_255, k_268, k_280, k_300, k_432, k_650, k_900, k_901, k_999, k_1700, k_2600, k_2601, k_2602, k_2603, k_2604, k_2610, k_2618, k_2682, k_2777, k_2844, k_2868, k_2880, k_3245, k_3250, k_9551, k_9999, k_65536, k_100000, k_999999, k_1000000, k_2147483647, G.c1]
end MTr
