/-! the reference's beds -/
def fv2 (F : Fld) (h l : Int) : Int := if h < F 0 1 0 ∧ l < F 3 h 2 then bA F h l else -1
def BM (t : Nat) (F : Fld) (M : Mem) : Prop := M.1 t 30 = iI (s_cn F : Nat) ∧ M.1 t 32 = iI (bN F) ∧ (∀ j : Nat, j < s_cn F → M.1 (t + 12) j = iI (tQ F j).1 ∧ M.1 (t + 13) j = iI (tQ F j).2) ∧ ∀ h l : Int, 0 ≤ h → h < 6 → 0 ≤ l → l < 12 → M.1 (t + 15) (12 * h + l).toNat = iI (fv2 F h l)
section MB
variable {t : Nat} {F : Fld} {M : Mem}
theorem m_beds6 (K : Mem → Option (Unit × Mem)) : ∀ (n : Nat) (x : Int), 0 ≤ x → x ≤ 72 → 72 < n + x → ∀ M, (∀ y : Int, 0 ≤ y → y < x → M.1 (t + 15) y.toNat = iI y) → ∃ M', lX11_laysBeds_6 K t n (iI x) M = K M' ∧ Fr (Rg (t + 15) (t + 15)) M M' ∧ ∀ y : Int, 0 ≤ y → y < 72 → M'.1 (t + 15) y.toNat = iI y := by
  refine lup (N := 72) (P := fun n x => ∀ M, (∀ y : Int, 0 ≤ y → y < x → M.1 (t + 15) y.toNat = iI y) → ∃ M', lX11_laysBeds_6 K t n (iI x) M = K M' ∧ Fr (Rg (t + 15) (t + 15)) M M' ∧ ∀ y : Int, 0 ≤ y → y < 72 → M'.1 (t + 15) y.toNat = iI y) ?_ ?_
  · intro n M hM
    refine ⟨M, ?_, Fr.refl M, hM⟩
    rw [lX11_laysBeds_6_s]
    simp (disch := omega) only [iI_add, iI_sub, iI_mul, iI_neg, iI_nat, addm1, ixkI, ↓sbind, sbind, ↓bdS, bdS, ↓nm_eq, ↓jn_eq, iI_lt, iI_le, iI_eq, k_0, k_1, k_2, k_3, k_4, k_5, k_6, k_7, k_8, k_9, k_10, k_11, k_12, k_13, k_14, k_15, k_16, k_17, k_18, k_19, k_20, k_21, k_22, k_23, k_24, k_27, k_30, k_32, k_48, k_57, k_59, k_60, k_61, k_62, k_63, k_64, k_72, k_78, k_80, k_82, k_97, k_99, k_100, k_122, k_244, k_255, k_268, k_280, k_300, k_432, k_650, k_900, k_901, k_999, k_1700, k_2600, k_2601, k_2602, k_2603, k_2604, k_2610, k_2618, k_2682, k_2777, k_2844, k_2868, k_2880, k_3245, k_3250, k_9551, k_9999, k_65536, k_100000, k_999999, k_1000000, k_2147483647, lt_T, lt_F, le_T, le_F, eq_T, eq_F, ↓reduceIte, not_true_eq_false, not_false_eq_true, or_true, or_false, true_or, false_or, and_true, true_and, and_false, false_and]
  · intro n x x0 x1 ih M hM
    have hF : Fr (Rg (t + 15) (t + 15)) M (stI M (t + 15) x.toNat (iI x)) := Fr.stI ⟨by omega, by omega⟩ (Fr.refl M)
    obtain ⟨M', e, f, T⟩ := ih (stI M (t + 15) x.toNat (iI x)) (fun y y0 y1 => by
      by_cases hy : y = x
      · rw [hy]; exact rI_eq _ _ _ _
      · rw [rI_nk (by omega)]; exact hM y y0 (by omega))
    refine ⟨M', ?_, hF.trans f, T⟩
    rw [lX11_laysBeds_6_s, ← e]
    simp (disch := omega) only [iI_add, iI_sub, iI_mul, iI_neg, iI_nat, addm1, ixkI, ↓sbind, sbind, ↓bdS, bdS, ↓nm_eq, ↓jn_eq, iI_lt, iI_le, iI_eq, k_0, k_1, k_2, k_3, k_4, k_5, k_6, k_7, k_8, k_9, k_10, k_11, k_12, k_13, k_14, k_15, k_16, k_17, k_18, k_19, k_20, k_21, k_22, k_23, k_24, k_27, k_30, k_32, k_48, k_57, k_59, k_60, k_61, k_62, k_63, k_64, k_72, k_78, k_80, k_82, k_97, k_99, k_100, k_122, k_244, k_255, k_268, k_280, k_300, k_432, k_650, k_900, k_901, k_999, k_1700, k_2600, k_2601, k_2602, k_2603, k_2604, k_2610, k_2618, k_2682, k_2777, k_2844, k_2868, k_2880, k_3245, k_3250, k_9551, k_9999, k_65536, k_100000, k_999999, k_1000000, k_2147483647, lt_T, lt_F, le_T, le_F, eq_T, eq_F, ↓reduceIte, not_true_eq_false, not_false_eq_true, or_true, or_false, true_or, false_or, and_true, true_and, and_false, false_and]
theorem m_beds124 {fr to : Int} {L : Int → Int} (hL : ∀ h, 0 ≤ h → h < 72 → -1000 ≤ L h ∧ L h ≤ 1000) (hf : -1000 ≤ fr ∧ fr ≤ 1000) (x1 x2 : Int32) (K : Mem → Option (Unit × Mem)) : ∀ (n : Nat) (i : Int), 0 ≤ i → i ≤ 72 → 72 < n + i → ∀ M, (∀ h : Int, 0 ≤ h → h < 72 → M.1 (t + 15) h.toNat = iI (if h < i ∧ L h = fr then to else L h)) → ∃ M', lX11_laysBeds_124 K t x1 x2 (iI to) (iI fr) n (iI i) M = K M' ∧ Fr (Rg (t + 15) (t + 15)) M M' ∧ ∀ h : Int, 0 ≤ h → h < 72 → M'.1 (t + 15) h.toNat = iI (if L h = fr then to else L h) := by
  refine lup (N := 72) (P := fun n i => ∀ M, (∀ h : Int, 0 ≤ h → h < 72 → M.1 (t + 15) h.toNat = iI (if h < i ∧ L h = fr then to else L h)) → ∃ M', lX11_laysBeds_124 K t x1 x2 (iI to) (iI fr) n (iI i) M = K M' ∧ Fr (Rg (t + 15) (t + 15)) M M' ∧ ∀ h : Int, 0 ≤ h → h < 72 → M'.1 (t + 15) h.toNat = iI (if L h = fr then to else L h)) ?_ ?_
  · intro n M hM
    refine ⟨M, ?_, Fr.refl M, fun h h0 h1 => ?_⟩
    · rw [lX11_laysBeds_124_s]
      simp (disch := omega) only [iI_add, iI_sub, iI_mul, iI_neg, iI_nat, addm1, ixkI, ↓sbind, sbind, ↓bdS, bdS, ↓nm_eq, ↓jn_eq, iI_lt, iI_le, iI_eq, k_0, k_1, k_2, k_3, k_4, k_5, k_6, k_7, k_8, k_9, k_10, k_11, k_12, k_13, k_14, k_15, k_16, k_17, k_18, k_19, k_20, k_21, k_22, k_23, k_24, k_27, k_30, k_32, k_48, k_57, k_59, k_60, k_61, k_62, k_63, k_64, k_72, k_78, k_80, k_82, k_97, k_99, k_100, k_122, k_244, k_255, k_268, k_280, k_300, k_432, k_650, k_900, k_901, k_999, k_1700, k_2600, k_2601, k_2602, k_2603, k_2604, k_2610, k_2618, k_2682, k_2777, k_2844, k_2868, k_2880, k_3245, k_3250, k_9551, k_9999, k_65536, k_100000, k_999999, k_1000000, k_2147483647, lt_T, lt_F, le_T, le_F, eq_T, eq_F, ↓reduceIte, not_true_eq_false, not_false_eq_true, or_true, or_false, true_or, false_or, and_true, true_and, and_false, false_and]
    · rw [hM h h0 h1]
      by_cases hc : L h = fr
      · rw [if_pos ⟨h1, hc⟩, if_pos hc]
      · rw [if_neg (fun q => hc q.2), if_neg hc]
  · intro n i i0 i1 ih M hM
    have hi := hM i i0 i1
    rw [if_neg (fun q => by omega)] at hi
    have hb := hL i i0 i1
    by_cases hc : L i = fr
    · have hF : Fr (Rg (t + 15) (t + 15)) M (stI M (t + 15) i.toNat (iI to)) := Fr.stI ⟨by omega, by omega⟩ (Fr.refl M)
      obtain ⟨M', e, f, T⟩ := ih (stI M (t + 15) i.toNat (iI to)) (fun h h0 h1 => by
        by_cases hh : h = i
        · rw [hh, rI_eq, if_pos ⟨by omega, hc⟩]
        · rw [rI_nk (by omega), hM h h0 h1]
          by_cases hi : h < i
          · by_cases hd : L h = fr
            · rw [if_pos ⟨hi, hd⟩, if_pos ⟨by omega, hd⟩]
            · rw [if_neg (fun q => hd q.2), if_neg (fun q => hd q.2)]
          · rw [if_neg (fun q => hi q.1), if_neg (fun q => by omega)])
      refine ⟨M', ?_, hF.trans f, T⟩
      rw [lX11_laysBeds_124_s, ← e]
      simp (disch := omega) only [iI_add, iI_sub, iI_mul, iI_neg, iI_nat, addm1, ixkI, ↓sbind, sbind, ↓bdS, bdS, ↓nm_eq, ↓jn_eq, iI_lt, iI_le, iI_eq, k_0, k_1, k_2, k_3, k_4, k_5, k_6, k_7, k_8, k_9, k_10, k_11, k_12, k_13, k_14, k_15, k_16, k_17, k_18, k_19, k_20, k_21, k_22, k_23, k_24, k_27, k_30, k_32, k_48, k_57, k_59, k_60, k_61, k_62, k_63, k_64, k_72, k_78, k_80, k_82, k_97, k_99, k_100, k_122, k_244, k_255, k_268, k_280, k_300, k_432, k_650, k_900, k_901, k_999, k_1700, k_2600, k_2601, k_2602, k_2603, k_2604, k_2610, k_2618, k_2682, k_2777, k_2844, k_2868, k_2880, k_3245, k_3250, k_9551, k_9999, k_65536, k_100000, k_999999, k_1000000, k_2147483647, lt_T, lt_F, le_T, le_F, eq_T, eq_F, ↓reduceIte, not_true_eq_false, not_false_eq_true, or_true, or_false, true_or, false_or, and_true, true_and, and_false, false_and, hi]
    · obtain ⟨M', e, f, T⟩ := ih M (fun h h0 h1 => by
        rw [hM h h0 h1]
        by_cases hd : L h = fr
        · have : h ≠ i := fun q => hc (q ▸ hd)
          by_cases hi : h < i
          · rw [if_pos ⟨hi, hd⟩, if_pos ⟨by omega, hd⟩]
          · rw [if_neg (fun q => hi q.1), if_neg (fun q => by omega)]
        · rw [if_neg (fun q => hd q.2), if_neg (fun q => hd q.2)])
      refine ⟨M', ?_, f, T⟩
      rw [lX11_laysBeds_124_s, ← e]
      simp (disch := omega) only [iI_add, iI_sub, iI_mul, iI_neg, iI_nat, addm1, ixkI, ↓sbind, sbind, ↓bdS, bdS, ↓nm_eq, ↓jn_eq, iI_lt, iI_le, iI_eq, k_0, k_1, k_2, k_3, k_4, k_5, k_6, k_7, k_8, k_9, k_10, k_11, k_12, k_13, k_14, k_15, k_16, k_17, k_18, k_19, k_20, k_21, k_22, k_23, k_24, k_27, k_30, k_32, k_48, k_57, k_59, k_60, k_61, k_62, k_63, k_64, k_72, k_78, k_80, k_82, k_97, k_99, k_100, k_122, k_244, k_255, k_268, k_280, k_300, k_432, k_650, k_900, k_901, k_999, k_1700, k_2600, k_2601, k_2602, k_2603, k_2604, k_2610, k_2618, k_2682, k_2777, k_2844, k_2868, k_2880, k_3245, k_3250, k_9551, k_9999, k_65536, k_100000, k_999999, k_1000000, k_2147483647, lt_T, lt_F, le_T, le_F, eq_T, eq_F, ↓reduceIte, not_true_eq_false, not_false_eq_true, or_true, or_false, true_or, false_or, and_true, true_and, and_false, false_and, hi]
theorem m_beds229 {fr c : Int} {L : Int → Int} (hL : ∀ h, 0 ≤ h → h < 72 → -1000 ≤ L h ∧ L h ≤ 1000) (hf : -1000 ≤ fr ∧ fr ≤ 1000) (x1 x2 : Int32) (K : Mem → Option (Unit × Mem)) : ∀ (n : Nat) (i : Int), 0 ≤ i → i ≤ 72 → 72 < n + i → ∀ M, M.1 t 32 = iI c → (∀ h : Int, 0 ≤ h → h < 72 → M.1 (t + 15) h.toNat = iI (if h < i ∧ L h = fr then -c else L h)) → ∃ M', lX11_laysBeds_229 K t x1 x2 (iI fr) n (iI i) M = K M' ∧ Fr (Rg (t + 15) (t + 15)) M M' ∧ ∀ h : Int, 0 ≤ h → h < 72 → M'.1 (t + 15) h.toNat = iI (if L h = fr then -c else L h) := by
  refine lup (N := 72) (P := fun n i => ∀ M, M.1 t 32 = iI c → (∀ h : Int, 0 ≤ h → h < 72 → M.1 (t + 15) h.toNat = iI (if h < i ∧ L h = fr then -c else L h)) → ∃ M', lX11_laysBeds_229 K t x1 x2 (iI fr) n (iI i) M = K M' ∧ Fr (Rg (t + 15) (t + 15)) M M' ∧ ∀ h : Int, 0 ≤ h → h < 72 → M'.1 (t + 15) h.toNat = iI (if L h = fr then -c else L h)) ?_ ?_
  · intro n M h32 hM
    refine ⟨M, ?_, Fr.refl M, fun h h0 h1 => ?_⟩
    · rw [lX11_laysBeds_229_s]
      simp (disch := omega) only [iI_add, iI_sub, iI_mul, iI_neg, iI_nat, addm1, ixkI, ↓sbind, sbind, ↓bdS, bdS, ↓nm_eq, ↓jn_eq, iI_lt, iI_le, iI_eq, k_0, k_1, k_2, k_3, k_4, k_5, k_6, k_7, k_8, k_9, k_10, k_11, k_12, k_13, k_14, k_15, k_16, k_17, k_18, k_19, k_20, k_21, k_22, k_23, k_24, k_27, k_30, k_32, k_48, k_57, k_59, k_60, k_61, k_62, k_63, k_64, k_72, k_78, k_80, k_82, k_97, k_99, k_100, k_122, k_244, k_255, k_268, k_280, k_300, k_432, k_650, k_900, k_901, k_999, k_1700, k_2600, k_2601, k_2602, k_2603, k_2604, k_2610, k_2618, k_2682, k_2777, k_2844, k_2868, k_2880, k_3245, k_3250, k_9551, k_9999, k_65536, k_100000, k_999999, k_1000000, k_2147483647, lt_T, lt_F, le_T, le_F, eq_T, eq_F, ↓reduceIte, not_true_eq_false, not_false_eq_true, or_true, or_false, true_or, false_or, and_true, true_and, and_false, false_and]
    · rw [hM h h0 h1]
      by_cases hc : L h = fr
      · rw [if_pos ⟨h1, hc⟩, if_pos hc]
      · rw [if_neg (fun q => hc q.2), if_neg hc]
  · intro n i i0 i1 ih M h32 hM
    have hi := hM i i0 i1
    rw [if_neg (fun q => by omega)] at hi
    have hb := hL i i0 i1
    by_cases hc : L i = fr
    · have hF : Fr (Rg (t + 15) (t + 15)) M (stI M (t + 15) i.toNat (iI (-c))) := Fr.stI ⟨by omega, by omega⟩ (Fr.refl M)
      obtain ⟨M', e, f, T⟩ := ih (stI M (t + 15) i.toNat (iI (-c))) (by rw [rI_ng (by omega)]; exact h32) (fun h h0 h1 => by
        by_cases hh : h = i
        · rw [hh, rI_eq, if_pos ⟨by omega, hc⟩]
        · rw [rI_nk (by omega), hM h h0 h1]
          by_cases hi : h < i
          · by_cases hd : L h = fr
            · rw [if_pos ⟨hi, hd⟩, if_pos ⟨by omega, hd⟩]
            · rw [if_neg (fun q => hd q.2), if_neg (fun q => hd q.2)]
          · rw [if_neg (fun q => hi q.1), if_neg (fun q => by omega)])
      refine ⟨M', ?_, hF.trans f, T⟩
      rw [lX11_laysBeds_229_s, ← e]
      simp (disch := omega) only [iI_add, iI_sub, iI_mul, iI_neg, iI_nat, addm1, ixkI, ↓sbind, sbind, ↓bdS, bdS, ↓nm_eq, ↓jn_eq, iI_lt, iI_le, iI_eq, k_0, k_1, k_2, k_3, k_4, k_5, k_6, k_7, k_8, k_9, k_10, k_11, k_12, k_13, k_14, k_15, k_16, k_17, k_18, k_19, k_20, k_21, k_22, k_23, k_24, k_27, k_30, k_32, k_48, k_57, k_59, k_60, k_61, k_62, k_63, k_64, k_72, k_78, k_80, k_82, k_97, k_99, k_100, k_122, k_244, k_255, k_268, k_280, k_300, k_432, k_650, k_900, k_901, k_999, k_1700, k_2600, k_2601, k_2602, k_2603, k_2604, k_2610, k_2618, k_2682, k_2777, k_2844, k_2868, k_2880, k_3245, k_3250, k_9551, k_9999, k_65536, k_100000, k_999999, k_1000000, k_2147483647, lt_T, lt_F, le_T, le_F, eq_T, eq_F, ↓reduceIte, not_true_eq_false, not_false_eq_true, or_true, or_false, true_or, false_or, and_true, true_and, and_false, false_and, hi, h32]
    · obtain ⟨M', e, f, T⟩ := ih M h32 (fun h h0 h1 => by
        rw [hM h h0 h1]
        by_cases hd : L h = fr
        · have : h ≠ i := fun q => hc (q ▸ hd)
          by_cases hi : h < i
          · rw [if_pos ⟨hi, hd⟩, if_pos ⟨by omega, hd⟩]
          · rw [if_neg (fun q => hi q.1), if_neg (fun q => by omega)]
        · rw [if_neg (fun q => hd q.2), if_neg (fun q => hd q.2)])
      refine ⟨M', ?_, f, T⟩
      rw [lX11_laysBeds_229_s, ← e]
      simp (disch := omega) only [iI_add, iI_sub, iI_mul, iI_neg, iI_nat, addm1, ixkI, ↓sbind, sbind, ↓bdS, bdS, ↓nm_eq, ↓jn_eq, iI_lt, iI_le, iI_eq, k_0, k_1, k_2, k_3, k_4, k_5, k_6, k_7, k_8, k_9, k_10, k_11, k_12, k_13, k_14, k_15, k_16, k_17, k_18, k_19, k_20, k_21, k_22, k_23, k_24, k_27, k_30, k_32, k_48, k_57, k_59, k_60, k_61, k_62, k_63, k_64, k_72, k_78, k_80, k_82, k_97, k_99, k_100, k_122, k_244, k_255, k_268, k_280, k_300, k_432, k_650, k_900, k_901, k_999, k_1700, k_2600, k_2601, k_2602, k_2603, k_2604, k_2610, k_2618, k_2682, k_2777, k_2844, k_2868, k_2880, k_3245, k_3250, k_9551, k_9999, k_65536, k_100000, k_999999, k_1000000, k_2147483647, lt_T, lt_F, le_T, le_F, eq_T, eq_F, ↓reduceIte, not_true_eq_false, not_false_eq_true, or_true, or_false, true_or, false_or, and_true, true_and, and_false, false_and, hi]
theorem m_beds54 (w : WF F) {φ : Nat} (hφ : 100 < φ) {k : Nat} (hk : k < 6) {a b : Int} (ha : 0 ≤ a ∧ a < F 0 1 0) (hb : 0 ≤ b ∧ b < F 0 1 0) (K : Mem → Option (Unit × Mem)) : ∀ (n : Nat) (l : Int), 0 ≤ l → l ≤ F 3 a 2 → F 3 a 2 < n + l → ∀ L M, (∀ s, 0 ≤ s → s < 72 → 0 ≤ L s ∧ L s < 72) → MR t 0 F M → M.1 (t + 12) k = iI a → M.1 (t + 13) k = iI b → (∀ x : Int, 0 ≤ x → x < 12 → M.1 (t + 10) x.toNat = iI (s_mt F a b x)) → (∀ s : Int, 0 ≤ s → s < 72 → M.1 (t + 15) s.toNat = iI (L s)) → ∃ M', lX11_laysBeds_54 K φ t (iI (k : Nat)) n (iI l) M = K M' ∧ Fr (Rg (t + 15) (t + 15)) M M' ∧ ∀ s : Int, 0 ≤ s → s < 72 → M'.1 (t + 15) s.toNat = iI (fo (fun l L => bJ F a b l L) (F 3 a 2) l L s) := by
  have n1 := w.n1
  have na := w.nl ha
  have nb := w.nl hb
  refine lup (N := F 3 a 2) (P := fun n l => ∀ L M, (∀ s, 0 ≤ s → s < 72 → 0 ≤ L s ∧ L s < 72) → MR t 0 F M → M.1 (t + 12) k = iI a → M.1 (t + 13) k = iI b → (∀ x : Int, 0 ≤ x → x < 12 → M.1 (t + 10) x.toNat = iI (s_mt F a b x)) → (∀ s : Int, 0 ≤ s → s < 72 → M.1 (t + 15) s.toNat = iI (L s)) → ∃ M', lX11_laysBeds_54 K φ t (iI (k : Nat)) n (iI l) M = K M' ∧ Fr (Rg (t + 15) (t + 15)) M M' ∧ ∀ s : Int, 0 ≤ s → s < 72 → M'.1 (t + 15) s.toNat = iI (fo (fun l L => bJ F a b l L) (F 3 a 2) l L s)) ?_ ?_
  · intro n L M hL hG hA hB hm hg
    refine ⟨M, ?_, Fr.refl M, fun s s0 s1 => ?_⟩
    · rw [lX11_laysBeds_54_s]
      have e := m_layersOf hG (h := a) (by omega)
      simp (disch := omega) only [iI_add, iI_sub, iI_mul, iI_neg, iI_nat, addm1, ixkI, ↓sbind, sbind, ↓bdS, bdS, ↓nm_eq, ↓jn_eq, iI_lt, iI_le, iI_eq, k_0, k_1, k_2, k_3, k_4, k_5, k_6, k_7, k_8, k_9, k_10, k_11, k_12, k_13, k_14, k_15, k_16, k_17, k_18, k_19, k_20, k_21, k_22, k_23, k_24, k_27, k_30, k_32, k_48, k_57, k_59, k_60, k_61, k_62, k_63, k_64, k_72, k_78, k_80, k_82, k_97, k_99, k_100, k_122, k_244, k_255, k_268, k_280, k_300, k_432, k_650, k_900, k_901, k_999, k_1700, k_2600, k_2601, k_2602, k_2603, k_2604, k_2610, k_2618, k_2682, k_2777, k_2844, k_2868, k_2880, k_3245, k_3250, k_9551, k_9999, k_65536, k_100000, k_999999, k_1000000, k_2147483647, lt_T, lt_F, le_T, le_F, eq_T, eq_F, ↓reduceIte, not_true_eq_false, not_false_eq_true, or_true, or_false, true_or, false_or, and_true, true_and, and_false, false_and, Int.toNat_natCast, hA, e]
    · rw [fo_e _ (Int.le_refl _)]
      exact hg s s0 s1
  · intro n l l0 l1 ih L M hL hG hA hB hm hg
    have el := m_layersOf hG (h := a) (by omega)
    have hr := s_mt_rng F a b l0
    have em := hm l l0 (by omega)
    rw [fo_s _ l1]
    by_cases hc : s_mt F a b l = -1
    · have ej : bJ F a b l L = L := by funext s; exact if_pos hc
      rw [ej]
      obtain ⟨M', e, f, T⟩ := ih L M hL hG hA hB hm hg
      refine ⟨M', ?_, f, T⟩
      rw [lX11_laysBeds_54_s, ← e]
      simp (disch := omega) only [iI_add, iI_sub, iI_mul, iI_neg, iI_nat, addm1, ixkI, ↓sbind, sbind, ↓bdS, bdS, ↓nm_eq, ↓jn_eq, iI_lt, iI_le, iI_eq, k_0, k_1, k_2, k_3, k_4, k_5, k_6, k_7, k_8, k_9, k_10, k_11, k_12, k_13, k_14, k_15, k_16, k_17, k_18, k_19, k_20, k_21, k_22, k_23, k_24, k_27, k_30, k_32, k_48, k_57, k_59, k_60, k_61, k_62, k_63, k_64, k_72, k_78, k_80, k_82, k_97, k_99, k_100, k_122, k_244, k_255, k_268, k_280, k_300, k_432, k_650, k_900, k_901, k_999, k_1700, k_2600, k_2601, k_2602, k_2603, k_2604, k_2610, k_2618, k_2682, k_2777, k_2844, k_2868, k_2880, k_3245, k_3250, k_9551, k_9999, k_65536, k_100000, k_999999, k_1000000, k_2147483647, lt_T, lt_F, le_T, le_F, eq_T, eq_F, ↓reduceIte, not_true_eq_false, not_false_eq_true, or_true, or_false, true_or, false_or, and_true, true_and, and_false, false_and, Int.toNat_natCast, hA, el, em]
    · have z1 := hL (b * 12 + s_mt F a b l) (by omega) (by omega)
      have z2 := hL (a * 12 + l) (by omega) (by omega)
      have g1 := hg (b * 12 + s_mt F a b l) (by omega) (by omega)
      have g2 := hg (a * 12 + l) (by omega) (by omega)
      rw [Int.mul_comm b 12] at g1
      rw [Int.mul_comm a 12] at g2
      rw [Int.mul_comm b 12] at z1
      rw [Int.mul_comm a 12] at z2
      obtain ⟨M1, e1, f1, T1⟩ := m_beds124 (t := t) (fr := L (12 * b + s_mt F a b l)) (to := L (12 * a + l)) (L := L) (fun h a b => by have := hL h a b; omega) (by omega) (iI (k : Nat)) (iI l) (fun M15 => lX11_laysBeds_54 K φ t (iI (k : Nat)) n (iI (l + 1)) M15) φ 0 (by omega) (by omega) (by omega) M (fun h h0 h1 => by rw [if_neg (fun q => by omega)]; exact hg h h0 h1)
      have ej : ∀ s, bJ F a b l L s = if L s = L (12 * b + s_mt F a b l) then L (12 * a + l) else L s := fun s => by rw [Int.mul_comm 12 b, Int.mul_comm 12 a]; exact if_neg hc
      obtain ⟨M', e, f, T⟩ := ih (bJ F a b l L) M1 (bJ_rng hL (by omega)) (hG.fr f1 (fun q => by have := q.1; omega)) (by rw [(f1 (t + 12) (fun q => by have := q.1; omega)).1]; exact hA) (by rw [(f1 (t + 13) (fun q => by have := q.1; omega)).1]; exact hB) (by rw [(f1 (t + 10) (fun q => by have := q.1; omega)).1]; exact hm) (fun s s0 s1 => by rw [ej s]; exact T1 s s0 s1)
      refine ⟨M', ?_, f1.trans f, T⟩
      rw [lX11_laysBeds_54_s, ← e, ← e1]
      simp (disch := omega) only [iI_add, iI_sub, iI_mul, iI_neg, iI_nat, addm1, ixkI, ↓sbind, sbind, ↓bdS, bdS, ↓nm_eq, ↓jn_eq, iI_lt, iI_le, iI_eq, k_0, k_1, k_2, k_3, k_4, k_5, k_6, k_7, k_8, k_9, k_10, k_11, k_12, k_13, k_14, k_15, k_16, k_17, k_18, k_19, k_20, k_21, k_22, k_23, k_24, k_27, k_30, k_32, k_48, k_57, k_59, k_60, k_61, k_62, k_63, k_64, k_72, k_78, k_80, k_82, k_97, k_99, k_100, k_122, k_244, k_255, k_268, k_280, k_300, k_432, k_650, k_900, k_901, k_999, k_1700, k_2600, k_2601, k_2602, k_2603, k_2604, k_2610, k_2618, k_2682, k_2777, k_2844, k_2868, k_2880, k_3245, k_3250, k_9551, k_9999, k_65536, k_100000, k_999999, k_1000000, k_2147483647, lt_T, lt_F, le_T, le_F, eq_T, eq_F, ↓reduceIte, not_true_eq_false, not_false_eq_true, or_true, or_false, true_or, false_or, and_true, true_and, and_false, false_and, Int.toNat_natCast, hA, hB, el, em, g1, g2]
theorem m_beds27 (w : WF F) {φ : Nat} (hφ : 100 < φ) (K : Mem → Option (Unit × Mem)) : ∀ (n k : Nat) (M : Mem), k ≤ s_cn F → s_cn F < n + k → MR t 0 F M → TM t F (s_cn F) M → (∀ s : Int, 0 ≤ s → s < 72 → M.1 (t + 15) s.toNat = iI (bL F k s)) → ∃ M', lX11_laysBeds_27 K φ t n (iI (k : Nat)) M = K M' ∧ Fr (fun x => (t + 9 ≤ x ∧ x ≤ t + 10) ∨ x = t + 15) M M' ∧ ∀ s : Int, 0 ≤ s → s < 72 → M'.1 (t + 15) s.toNat = iI (s_lab F s) := by
  have n1 := w.n1
  have hcn : ((s_cn F : Nat) : Int) ≤ 5 := by unfold s_cn; omega
  intro n
  induction n with
  | zero => intro k M hk hn; omega
  | succ n ih =>
    intro k M hk hn hG hT hg
    obtain ⟨t2, t3, t4⟩ := hT
    by_cases hlt : k < s_cn F
    · have hq : (k : Int) < F 0 1 0 - 1 := by unfold s_cn at hlt; omega
      obtain ⟨q1, q2, q3, q4⟩ := tQ_ok w hq
      have ha : 0 ≤ (tQ F k).1 ∧ (tQ F k).1 < F 0 1 0 := by omega
      have hb : 0 ≤ (tQ F k).2 ∧ (tQ F k).2 < F 0 1 0 := by omega
      obtain ⟨r1, r2⟩ := t4 k hlt
      obtain ⟨M1, e1, f1, a3⟩ := m_matches w ha hb hφ hG
      have f1' : Fr (fun x => (t + 9 ≤ x ∧ x ≤ t + 10) ∨ x = t + 15) M M1 := f1.mono fun x q => Or.inl q
      have G1 := hG.fr f1 (fun q => by have := q.1; omega)
      have na := w.nl ha
      obtain ⟨M2, e2, f2, T2⟩ := m_beds54 (t := t) w hφ (k := k) (by omega) ha hb (fun M16 => lX11_laysBeds_27 K φ t n (iI (k + 1)) M16) φ 0 (by omega) (by omega) (by omega) (bL F k) M1 (bL_rng w k (by omega)) G1 (by rw [(f1 (t + 12) (fun q => by have := q.2; omega)).1]; exact r1) (by rw [(f1 (t + 13) (fun q => by have := q.2; omega)).1]; exact r2) a3 (by rw [(f1 (t + 15) (fun q => by have := q.2; omega)).1]; exact hg)
      have f12 : Fr (fun x => (t + 9 ≤ x ∧ x ≤ t + 10) ∨ x = t + 15) M M2 := f1'.trans (f2.mono fun x q => Or.inr (by have := q.1; have := q.2; omega))
      obtain ⟨M', e, f, T⟩ := ih (k + 1) M2 (by omega) (by omega) (hG.fr f12 (fun q => by omega)) ⟨by rw [(f12 t (fun q => by omega)).1]; exact t2, by rw [(f12 (t + 14) (fun q => by omega)).1]; exact t3, by rw [(f12 (t + 12) (fun q => by omega)).1, (f12 (t + 13) (fun q => by omega)).1]; exact t4⟩ (fun s s0 s1 => by rw [T2 s s0 s1]; rfl)
      refine ⟨M', ?_, f12.trans f, T⟩
      rw [lX11_laysBeds_27_s, ← e]
      refine Eq.trans ?_ e2
      simp (disch := omega) only [iI_add, iI_sub, iI_mul, iI_neg, iI_nat, addm1, ixkI, ↓sbind, sbind, ↓bdS, bdS, ↓nm_eq, ↓jn_eq, iI_lt, iI_le, iI_eq, k_0, k_1, k_2, k_3, k_4, k_5, k_6, k_7, k_8, k_9, k_10, k_11, k_12, k_13, k_14, k_15, k_16, k_17, k_18, k_19, k_20, k_21, k_22, k_23, k_24, k_27, k_30, k_32, k_48, k_57, k_59, k_60, k_61, k_62, k_63, k_64, k_72, k_78, k_80, k_82, k_97, k_99, k_100, k_122, k_244, k_255, k_268, k_280, k_300, k_432, k_650, k_900, k_901, k_999, k_1700, k_2600, k_2601, k_2602, k_2603, k_2604, k_2610, k_2618, k_2682, k_2777, k_2844, k_2868, k_2880, k_3245, k_3250, k_9551, k_9999, k_65536, k_100000, k_999999, k_1000000, k_2147483647, lt_T, lt_F, le_T, le_F, eq_T, eq_F, ↓reduceIte, not_true_eq_false, not_false_eq_true, or_true, or_false, true_or, false_or, and_true, true_and, and_false, false_and, t2, Int.toNat_natCast, r1, r2, e1]
    · have hkk : k = s_cn F := by omega
      refine ⟨M, ?_, Fr.refl M, fun s s0 s1 => by rw [hg s s0 s1, hkk]; rfl⟩
      rw [lX11_laysBeds_27_s]
      simp (disch := omega) only [iI_add, iI_sub, iI_mul, iI_neg, iI_nat, addm1, ixkI, ↓sbind, sbind, ↓bdS, bdS, ↓nm_eq, ↓jn_eq, iI_lt, iI_le, iI_eq, k_0, k_1, k_2, k_3, k_4, k_5, k_6, k_7, k_8, k_9, k_10, k_11, k_12, k_13, k_14, k_15, k_16, k_17, k_18, k_19, k_20, k_21, k_22, k_23, k_24, k_27, k_30, k_32, k_48, k_57, k_59, k_60, k_61, k_62, k_63, k_64, k_72, k_78, k_80, k_82, k_97, k_99, k_100, k_122, k_244, k_255, k_268, k_280, k_300, k_432, k_650, k_900, k_901, k_999, k_1700, k_2600, k_2601, k_2602, k_2603, k_2604, k_2610, k_2618, k_2682, k_2777, k_2844, k_2868, k_2880, k_3245, k_3250, k_9551, k_9999, k_65536, k_100000, k_999999, k_1000000, k_2147483647, lt_T, lt_F, le_T, le_F, eq_T, eq_F, ↓reduceIte, not_true_eq_false, not_false_eq_true, or_true, or_false, true_or, false_or, and_true, true_and, and_false, false_and, t2]
/-! numbering, by numbers below 0 -/
def nv (L : Int → Int) (q : NS) (s : Int) : Int := if q.2 (L s) = -1 then L s else -(q.2 (L s) + 1)
def MN (t : Nat) (L : Int → Int) (q : NS) (k : Int) (M : Mem) : Prop := nOk q ∧ q.1 ≤ k ∧ M.1 t 32 = iI q.1 ∧ ∀ s : Int, 0 ≤ s → s < 72 → M.1 (t + 15) s.toNat = iI (nv L q s)
theorem nv_bd {L : Int → Int} (hL : ∀ s, 0 ≤ s → s < 72 → 0 ≤ L s ∧ L s < 72) {q : NS} (hq : nOk q) {k : Int} (hk : q.1 ≤ k ∧ k ≤ 100) {s : Int} (s0 : 0 ≤ s) (s1 : s < 72) : (q.2 (L s) = -1 ∧ nv L q s = L s) ∨ (q.2 (L s) ≠ -1 ∧ -102 ≤ nv L q s ∧ nv L q s < 0) := by
  have h1 := hL s s0 s1
  have h2 := hq.2.1 (L s)
  unfold nv
  by_cases h : q.2 (L s) = -1
  · rw [if_pos h]; exact Or.inl ⟨h, rfl⟩
  · rw [if_neg h]; exact Or.inr ⟨h, by omega, by omega⟩
theorem m_beds188 (w : WF F) {φ : Nat} (hφ : 100 < φ) {L : Int → Int} (hL : ∀ s, 0 ≤ s → s < 72 → 0 ≤ L s ∧ L s < 72) {h : Int} (hh : 0 ≤ h ∧ h < F 0 1 0) (K : Mem → Option (Unit × Mem)) : ∀ (n : Nat) (l : Int), 0 ≤ l → l ≤ F 3 h 2 → F 3 h 2 < n + l → ∀ q M, MR t 0 F M → MN t L q (12 * h + l) M → ∃ M', lX11_laysBeds_188 K φ t (iI h) n (iI l) M = K M' ∧ Fr (fun x => x = t ∨ x = t + 15) M M' ∧ MN t L (fo (fun l q => nS L (h * 12 + l) q) (F 3 h 2) l q) (12 * h + 12) M' ∧ (∀ j, j ≠ 32 → M'.1 t j = M.1 t j) ∧ M'.2.1 t = M.2.1 t := by
  have n1 := w.n1
  have nl := w.nl hh
  refine lup (N := F 3 h 2) (P := fun n l => ∀ q M, MR t 0 F M → MN t L q (12 * h + l) M → ∃ M', lX11_laysBeds_188 K φ t (iI h) n (iI l) M = K M' ∧ Fr (fun x => x = t ∨ x = t + 15) M M' ∧ MN t L (fo (fun l q => nS L (h * 12 + l) q) (F 3 h 2) l q) (12 * h + 12) M' ∧ (∀ j, j ≠ 32 → M'.1 t j = M.1 t j) ∧ M'.2.1 t = M.2.1 t) ?_ ?_
  · intro n q M hG hN
    refine ⟨M, ?_, Fr.refl M, ?_, fun _ _ => rfl, rfl⟩
    · rw [lX11_laysBeds_188_s, m_layersOf hG (by omega)]
      simp (disch := omega) only [iI_add, iI_sub, iI_mul, iI_neg, iI_nat, addm1, ixkI, ↓sbind, sbind, ↓bdS, bdS, ↓nm_eq, ↓jn_eq, iI_lt, iI_le, iI_eq, k_0, k_1, k_2, k_3, k_4, k_5, k_6, k_7, k_8, k_9, k_10, k_11, k_12, k_13, k_14, k_15, k_16, k_17, k_18, k_19, k_20, k_21, k_22, k_23, k_24, k_27, k_30, k_32, k_48, k_57, k_59, k_60, k_61, k_62, k_63, k_64, k_72, k_78, k_80, k_82, k_97, k_99, k_100, k_122, k_244, k_255, k_268, k_280, k_300, k_432, k_650, k_900, k_901, k_999, k_1700, k_2600, k_2601, k_2602, k_2603, k_2604, k_2610, k_2618, k_2682, k_2777, k_2844, k_2868, k_2880, k_3245, k_3250, k_9551, k_9999, k_65536, k_100000, k_999999, k_1000000, k_2147483647, lt_T, lt_F, le_T, le_F, eq_T, eq_F, ↓reduceIte, not_true_eq_false, not_false_eq_true, or_true, or_false, true_or, false_or, and_true, true_and, and_false, false_and]
    · rw [fo_e _ (Int.le_refl _)]
      exact ⟨hN.1, by have := hN.2.1; omega, hN.2.2⟩
  · intro n l l0 l1 ih q M hG hN
    obtain ⟨c1, c2, c3, c4⟩ := hN
    have el := m_layersOf hG (h := h) (by omega)
    have s1 := hL (h * 12 + l) (by omega) (by omega)
    have e4 := c4 (h * 12 + l) (by omega) (by omega)
    rw [fo_s _ l1]
    rcases nv_bd hL c1 (k := 12 * h + l) (by omega) (s := h * 12 + l) (by omega) (by omega) with ⟨v1, v2⟩ | ⟨v1, v2, v3⟩
    · rw [v2] at e4
      rw [Int.mul_comm h 12] at e4
      have eq : nS L (h * 12 + l) q = (q.1 + 1, fun x => if x = L (h * 12 + l) then q.1 else q.2 x) := if_pos v1
      have hF : Fr (fun x => x = t ∨ x = t + 15) M (stI M t 32 (iI (q.1 + 1))) := Fr.stI (Or.inl rfl) (Fr.refl M)
      obtain ⟨M1, e1, f1, T1⟩ := m_beds229 (t := t) (fr := L (12 * h + l)) (c := q.1 + 1) (L := nv L q) (fun s a b => by have := nv_bd hL c1 (k := 12 * h + l) (by omega) a b; have := hL s a b; omega) (by have := hL (12 * h + l) (by omega) (by omega); omega) (iI h) (iI l) (fun M27 => lX11_laysBeds_188 K φ t (iI h) n (iI (l + 1)) M27) φ 0 (by omega) (by omega) (by omega) (stI M t 32 (iI (q.1 + 1))) (rI_eq _ _ _ _) (fun s a b => by rw [rI_ng (by omega), if_neg (fun q => by omega)]; exact c4 s a b)
      have fA := hF.trans (f1.mono fun x q => Or.inr (by have := q.1; have := q.2; omega))
      have hnew := nS_inv (L := L) (s := h * 12 + l) c1
      obtain ⟨M', e, f, T, U, V⟩ := ih (nS L (h * 12 + l) q) M1 (hG.fr fA (fun q => by omega)) ⟨hnew.1, by have := hnew.2.2.2.2; omega, by rw [(f1 t (fun q => by have := q.1; omega)).1, rI_eq, eq], fun s a b => by
        rw [T1 s a b, eq]
        have hs := hL s a b
        rw [Int.mul_comm 12 h]
        rcases nv_bd hL c1 (k := 12 * h + l) (by omega) a b with ⟨u1, u2⟩ | ⟨u1, u2, u3⟩
        · rw [u2]
          unfold nv
          by_cases hc : L s = L (h * 12 + l)
          · simp only [hc, if_true]
            have := c1.1
            rw [if_neg (by omega)]
          · simp only [hc, if_false, u1, if_true]
        · rw [if_neg (by omega)]
          have hc : ¬ L s = L (h * 12 + l) := fun z => u1 (by rw [z]; exact v1)
          unfold nv
          simp only [hc, if_false]⟩
      refine ⟨M', ?_, fA.trans f, T, fun j hj => by rw [U j hj, (f1 t (fun q => by have := q.1; omega)).1, rI_nk hj], V.trans (f1 t (fun q => by have := q.1; omega)).2.1⟩
      rw [lX11_laysBeds_188_s, el, ← e, ← e1]
      have hs12 := hL (12 * h + l) (by omega) (by omega)
      simp (disch := omega) only [iI_add, iI_sub, iI_mul, iI_neg, iI_nat, addm1, ixkI, ↓sbind, sbind, ↓bdS, bdS, ↓nm_eq, ↓jn_eq, iI_lt, iI_le, iI_eq, k_0, k_1, k_2, k_3, k_4, k_5, k_6, k_7, k_8, k_9, k_10, k_11, k_12, k_13, k_14, k_15, k_16, k_17, k_18, k_19, k_20, k_21, k_22, k_23, k_24, k_27, k_30, k_32, k_48, k_57, k_59, k_60, k_61, k_62, k_63, k_64, k_72, k_78, k_80, k_82, k_97, k_99, k_100, k_122, k_244, k_255, k_268, k_280, k_300, k_432, k_650, k_900, k_901, k_999, k_1700, k_2600, k_2601, k_2602, k_2603, k_2604, k_2610, k_2618, k_2682, k_2777, k_2844, k_2868, k_2880, k_3245, k_3250, k_9551, k_9999, k_65536, k_100000, k_999999, k_1000000, k_2147483647, lt_T, lt_F, le_T, le_F, eq_T, eq_F, ↓reduceIte, not_true_eq_false, not_false_eq_true, or_true, or_false, true_or, false_or, and_true, true_and, and_false, false_and, e4, c3]
    · rw [Int.mul_comm h 12] at e4
      have eq : nS L (h * 12 + l) q = q := if_neg v1
      rw [Int.mul_comm h 12] at v2 v3
      obtain ⟨M', e, f, T, U, V⟩ := ih (nS L (h * 12 + l) q) M hG (by rw [eq]; exact ⟨c1, by omega, c3, c4⟩)
      refine ⟨M', ?_, f, T, U, V⟩
      rw [lX11_laysBeds_188_s, el, ← e]
      simp (disch := omega) only [iI_add, iI_sub, iI_mul, iI_neg, iI_nat, addm1, ixkI, ↓sbind, sbind, ↓bdS, bdS, ↓nm_eq, ↓jn_eq, iI_lt, iI_le, iI_eq, k_0, k_1, k_2, k_3, k_4, k_5, k_6, k_7, k_8, k_9, k_10, k_11, k_12, k_13, k_14, k_15, k_16, k_17, k_18, k_19, k_20, k_21, k_22, k_23, k_24, k_27, k_30, k_32, k_48, k_57, k_59, k_60, k_61, k_62, k_63, k_64, k_72, k_78, k_80, k_82, k_97, k_99, k_100, k_122, k_244, k_255, k_268, k_280, k_300, k_432, k_650, k_900, k_901, k_999, k_1700, k_2600, k_2601, k_2602, k_2603, k_2604, k_2610, k_2618, k_2682, k_2777, k_2844, k_2868, k_2880, k_3245, k_3250, k_9551, k_9999, k_65536, k_100000, k_999999, k_1000000, k_2147483647, lt_T, lt_F, le_T, le_F, eq_T, eq_F, ↓reduceIte, not_true_eq_false, not_false_eq_true, or_true, or_false, true_or, false_or, and_true, true_and, and_false, false_and, e4]
theorem m_beds176 (w : WF F) {φ : Nat} (hφ : 100 < φ) {L : Int → Int} (hL : ∀ s, 0 ≤ s → s < 72 → 0 ≤ L s ∧ L s < 72) (K : Mem → Option (Unit × Mem)) : ∀ (n : Nat) (h : Int), 0 ≤ h → h ≤ F 0 1 0 → F 0 1 0 < n + h → ∀ q M, MR t 0 F M → MN t L q (12 * h) M → ∃ M', lX11_laysBeds_176 K φ t n (iI h) M = K M' ∧ Fr (fun x => x = t ∨ x = t + 15) M M' ∧ MN t L (fo (fun h q => nR F L h q) (F 0 1 0) h q) (12 * F 0 1 0) M' ∧ (∀ j, j ≠ 32 → M'.1 t j = M.1 t j) ∧ M'.2.1 t = M.2.1 t := by
  have n1 := w.n1
  refine lup (N := F 0 1 0) (P := fun n h => ∀ q M, MR t 0 F M → MN t L q (12 * h) M → ∃ M', lX11_laysBeds_176 K φ t n (iI h) M = K M' ∧ Fr (fun x => x = t ∨ x = t + 15) M M' ∧ MN t L (fo (fun h q => nR F L h q) (F 0 1 0) h q) (12 * F 0 1 0) M' ∧ (∀ j, j ≠ 32 → M'.1 t j = M.1 t j) ∧ M'.2.1 t = M.2.1 t) ?_ ?_
  · intro n q M hG hN
    refine ⟨M, ?_, Fr.refl M, ?_, fun _ _ => rfl, rfl⟩
    · rw [lX11_laysBeds_176_s]
      simp (disch := omega) only [iI_add, iI_sub, iI_mul, iI_neg, iI_nat, addm1, ixkI, ↓sbind, sbind, ↓bdS, bdS, ↓nm_eq, ↓jn_eq, iI_lt, iI_le, iI_eq, k_0, k_1, k_2, k_3, k_4, k_5, k_6, k_7, k_8, k_9, k_10, k_11, k_12, k_13, k_14, k_15, k_16, k_17, k_18, k_19, k_20, k_21, k_22, k_23, k_24, k_27, k_30, k_32, k_48, k_57, k_59, k_60, k_61, k_62, k_63, k_64, k_72, k_78, k_80, k_82, k_97, k_99, k_100, k_122, k_244, k_255, k_268, k_280, k_300, k_432, k_650, k_900, k_901, k_999, k_1700, k_2600, k_2601, k_2602, k_2603, k_2604, k_2610, k_2618, k_2682, k_2777, k_2844, k_2868, k_2880, k_3245, k_3250, k_9551, k_9999, k_65536, k_100000, k_999999, k_1000000, k_2147483647, lt_T, lt_F, le_T, le_F, eq_T, eq_F, ↓reduceIte, not_true_eq_false, not_false_eq_true, or_true, or_false, true_or, false_or, and_true, true_and, and_false, false_and, hG.c1]
    · rw [fo_e _ (Int.le_refl _)]; exact hN
  · intro n h h0 h1 ih q M hG hN
    have nl := w.nl ⟨h0, h1⟩
    obtain ⟨M1, e1, f1, T1, U1, V1⟩ := m_beds188 (t := t) w hφ hL ⟨h0, h1⟩ (fun M28 => lX11_laysBeds_176 K φ t n (iI (h + 1)) M28) φ 0 (by omega) (by omega) (by omega) q M hG ⟨hN.1, by have := hN.2.1; omega, hN.2.2⟩
    obtain ⟨M', e, f, T, U, V⟩ := ih (nR F L h q) M1 (hG.fr f1 (fun q => by omega)) ⟨T1.1, by have := T1.2.1; have e9 : nR F L h q = fo (fun l q => nS L (h * 12 + l) q) (F 3 h 2) 0 q := rfl; rw [e9]; omega, T1.2.2⟩
    rw [fo_s _ h1]
    refine ⟨M', ?_, f1.trans f, T, fun j hj => (U j hj).trans (U1 j hj), V.trans V1⟩
    rw [← e]
    refine Eq.trans ?_ e1
    rw [lX11_laysBeds_176_s]
    simp (disch := omega) only [iI_add, iI_sub, iI_mul, iI_neg, iI_nat, addm1, ixkI, ↓sbind, sbind, ↓bdS, bdS, ↓nm_eq, ↓jn_eq, iI_lt, iI_le, iI_eq, k_0, k_1, k_2, k_3, k_4, k_5, k_6, k_7, k_8, k_9, k_10, k_11, k_12, k_13, k_14, k_15, k_16, k_17, k_18, k_19, k_20, k_21, k_22, k_23, k_24, k_27, k_30, k_32, k_48, k_57, k_59, k_60, k_61, k_62, k_63, k_64, k_72, k_78, k_80, k_82, k_97, k_99, k_100, k_122, k_244, k_255, k_268, k_280, k_300, k_432, k_650, k_900, k_901, k_999, k_1700, k_2600, k_2601, k_2602, k_2603, k_2604, k_2610, k_2618, k_2682, k_2777, k_2844, k_2868, k_2880, k_3245, k_3250, k_9551, k_9999, k_65536, k_100000, k_999999, k_1000000, k_2147483647, lt_T, lt_F, le_T, le_F, eq_T, eq_F, ↓reduceIte, not_true_eq_false, not_false_eq_true, or_true, or_false, true_or, false_or, and_true, true_and, and_false, false_and, hG.c1]
/-- the last pass -/
def MZ (t : Nat) (F : Fld) (k : Int) (M : Mem) : Prop := ∀ h l : Int, 0 ≤ h → h < 6 → 0 ≤ l → l < 12 → M.1 (t + 15) (12 * h + l).toNat = iI (if 12 * h + l < k then fv2 F h l else nv (s_lab F) (nA F (s_lab F)) (12 * h + l))
theorem nv_fin (w : WF F) {h l : Int} (v : vl F h l) : -nv (s_lab F) (nA F (s_lab F)) (12 * h + l) - 1 = bA F h l ∧ 0 ≤ bA F h l ∧ bA F h l < 72 := by
  have h1 := nA_inv w (s_lab F)
  have h2 := h1.2.1 h l v
  have h3 := bA_rng w v
  have h4 := bN_rng w
  unfold nv
  rw [Int.mul_comm 12 h, if_neg h2]
  unfold bA
  refine ⟨by omega, ?_, ?_⟩
  · have := h3.1; unfold bA at this; exact this
  · have := h3.2; unfold bA at this; omega
theorem m_beds287 (w : WF F) {h : Int} (hh : 0 ≤ h ∧ h < 6) (K : Mem → Option (Unit × Mem)) : ∀ (n : Nat) (l : Int), 0 ≤ l → l ≤ 12 → 12 < n + l → ∀ M, MR t 0 F M → MZ t F (12 * h + l) M → ∃ M', lX11_laysBeds_287 K t (iI h) n (iI l) M = K M' ∧ Fr (Rg (t + 15) (t + 15)) M M' ∧ MZ t F (12 * h + 12) M' := by
  have n1 := w.n1
  refine lup (N := 12) (P := fun n l => ∀ M, MR t 0 F M → MZ t F (12 * h + l) M → ∃ M', lX11_laysBeds_287 K t (iI h) n (iI l) M = K M' ∧ Fr (Rg (t + 15) (t + 15)) M M' ∧ MZ t F (12 * h + 12) M') ?_ ?_
  · intro n M hG hZ
    refine ⟨M, ?_, Fr.refl M, hZ⟩
    rw [lX11_laysBeds_287_s]
    simp (disch := omega) only [iI_add, iI_sub, iI_mul, iI_neg, iI_nat, addm1, ixkI, ↓sbind, sbind, ↓bdS, bdS, ↓nm_eq, ↓jn_eq, iI_lt, iI_le, iI_eq, k_0, k_1, k_2, k_3, k_4, k_5, k_6, k_7, k_8, k_9, k_10, k_11, k_12, k_13, k_14, k_15, k_16, k_17, k_18, k_19, k_20, k_21, k_22, k_23, k_24, k_27, k_30, k_32, k_48, k_57, k_59, k_60, k_61, k_62, k_63, k_64, k_72, k_78, k_80, k_82, k_97, k_99, k_100, k_122, k_244, k_255, k_268, k_280, k_300, k_432, k_650, k_900, k_901, k_999, k_1700, k_2600, k_2601, k_2602, k_2603, k_2604, k_2610, k_2618, k_2682, k_2777, k_2844, k_2868, k_2880, k_3245, k_3250, k_9551, k_9999, k_65536, k_100000, k_999999, k_1000000, k_2147483647, lt_T, lt_F, le_T, le_F, eq_T, eq_F, ↓reduceIte, not_true_eq_false, not_false_eq_true, or_true, or_false, true_or, false_or, and_true, true_and, and_false, false_and]
  · intro n l l0 l1 ih M hG hZ
    have ez := hZ h l hh.1 hh.2 l0 l1
    rw [if_neg (by omega)] at ez
    have hF : Fr (Rg (t + 15) (t + 15)) M (stI M (t + 15) (12 * h + l).toNat (iI (fv2 F h l))) := Fr.stI ⟨by omega, by omega⟩ (Fr.refl M)
    obtain ⟨M', e, f, T⟩ := ih (stI M (t + 15) (12 * h + l).toNat (iI (fv2 F h l))) (hG.fr hF (fun q => by have := q.1; omega)) (fun h' l' a b c d => by
      by_cases hc : h' = h ∧ l' = l
      · rw [hc.1, hc.2, rI_eq, if_pos (by omega)]
      · rw [rI_nk (by omega), hZ h' l' a b c d]
        by_cases hi : 12 * h' + l' < 12 * h + l
        · rw [if_pos hi, if_pos (by omega)]
        · rw [if_neg hi, if_neg (by omega)])
    refine ⟨M', ?_, hF.trans f, T⟩
    rw [lX11_laysBeds_287_s, ← e]
    by_cases c1 : h < F 0 1 0
    · have el := m_layersOf hG (h := h) (by omega)
      have nl := w.nl ⟨hh.1, c1⟩
      by_cases c2 : l < F 3 h 2
      · have z := nv_fin w (h := h) (l := l) ⟨⟨hh.1, c1⟩, l0, c2⟩
        have ef : fv2 F h l = bA F h l := if_pos ⟨c1, c2⟩
        simp (disch := omega) only [iI_add, iI_sub, iI_mul, iI_neg, iI_nat, addm1, ixkI, ↓sbind, sbind, ↓bdS, bdS, ↓nm_eq, ↓jn_eq, iI_lt, iI_le, iI_eq, k_0, k_1, k_2, k_3, k_4, k_5, k_6, k_7, k_8, k_9, k_10, k_11, k_12, k_13, k_14, k_15, k_16, k_17, k_18, k_19, k_20, k_21, k_22, k_23, k_24, k_27, k_30, k_32, k_48, k_57, k_59, k_60, k_61, k_62, k_63, k_64, k_72, k_78, k_80, k_82, k_97, k_99, k_100, k_122, k_244, k_255, k_268, k_280, k_300, k_432, k_650, k_900, k_901, k_999, k_1700, k_2600, k_2601, k_2602, k_2603, k_2604, k_2610, k_2618, k_2682, k_2777, k_2844, k_2868, k_2880, k_3245, k_3250, k_9551, k_9999, k_65536, k_100000, k_999999, k_1000000, k_2147483647, lt_T, lt_F, le_T, le_F, eq_T, eq_F, ↓reduceIte, not_true_eq_false, not_false_eq_true, or_true, or_false, true_or, false_or, and_true, true_and, and_false, false_and, hG.c1, el, ez]
        rw [z.1, ef]
      · have ef : fv2 F h l = -1 := if_neg (fun q => c2 q.2)
        rw [ef]
        simp (disch := omega) only [iI_add, iI_sub, iI_mul, iI_neg, iI_nat, addm1, ixkI, ↓sbind, sbind, ↓bdS, bdS, ↓nm_eq, ↓jn_eq, iI_lt, iI_le, iI_eq, k_0, k_1, k_2, k_3, k_4, k_5, k_6, k_7, k_8, k_9, k_10, k_11, k_12, k_13, k_14, k_15, k_16, k_17, k_18, k_19, k_20, k_21, k_22, k_23, k_24, k_27, k_30, k_32, k_48, k_57, k_59, k_60, k_61, k_62, k_63, k_64, k_72, k_78, k_80, k_82, k_97, k_99, k_100, k_122, k_244, k_255, k_268, k_280, k_300, k_432, k_650, k_900, k_901, k_999, k_1700, k_2600, k_2601, k_2602, k_2603, k_2604, k_2610, k_2618, k_2682, k_2777, k_2844, k_2868, k_2880, k_3245, k_3250, k_9551, k_9999, k_65536, k_100000, k_999999, k_1000000, k_2147483647, lt_T, lt_F, le_T, le_F, eq_T, eq_F, ↓reduceIte, not_true_eq_false, not_false_eq_true, or_true, or_false, true_or, false_or, and_true, true_and, and_false, false_and, hG.c1, el]
    · have ef : fv2 F h l = -1 := if_neg (fun q => c1 q.1)
      rw [ef]
      simp (disch := omega) only [iI_add, iI_sub, iI_mul, iI_neg, iI_nat, addm1, ixkI, ↓sbind, sbind, ↓bdS, bdS, ↓nm_eq, ↓jn_eq, iI_lt, iI_le, iI_eq, k_0, k_1, k_2, k_3, k_4, k_5, k_6, k_7, k_8, k_9, k_10, k_11, k_12, k_13, k_14, k_15, k_16, k_17, k_18, k_19, k_20, k_21, k_22, k_23, k_24, k_27, k_30, k_32, k_48, k_57, k_59, k_60, k_61, k_62, k_63, k_64, k_72, k_78, k_80, k_82, k_97, k_99, k_100, k_122, k_244, k_255, k_268, k_280, k_300, k_432, k_650, k_900, k_901, k_999, k_1700, k_2600, k_2601, k_2602, k_2603, k_2604, k_2610, k_2618, k_2682, k_2777, k_2844, k_2868, k_2880, k_3245, k_3250, k_9551, k_9999, k_65536, k_100000, k_999999, k_1000000, k_2147483647, lt_T, lt_F, le_T, le_F, eq_T, eq_F, ↓reduceIte, not_true_eq_false, not_false_eq_true, or_true, or_false, true_or, false_or, and_true, true_and, and_false, false_and, hG.c1]
theorem m_beds279 (w : WF F) {φ : Nat} (hφ : 100 < φ) : ∀ (n : Nat) (h : Int), 0 ≤ h → h ≤ 6 → 6 < n + h → ∀ M, MR t 0 F M → MZ t F (12 * h) M → ∃ M', lX11_laysBeds_279 φ t n (iI h) M = some ((), M') ∧ Fr (Rg (t + 15) (t + 15)) M M' ∧ MZ t F 72 M' := by
  refine lup (N := 6) (P := fun n h => ∀ M, MR t 0 F M → MZ t F (12 * h) M → ∃ M', lX11_laysBeds_279 φ t n (iI h) M = some ((), M') ∧ Fr (Rg (t + 15) (t + 15)) M M' ∧ MZ t F 72 M') ?_ ?_
  · intro n M hG hZ
    refine ⟨M, ?_, Fr.refl M, hZ⟩
    rw [lX11_laysBeds_279_s]
    simp (disch := omega) only [iI_add, iI_sub, iI_mul, iI_neg, iI_nat, addm1, ixkI, ↓sbind, sbind, ↓bdS, bdS, ↓nm_eq, ↓jn_eq, iI_lt, iI_le, iI_eq, k_0, k_1, k_2, k_3, k_4, k_5, k_6, k_7, k_8, k_9, k_10, k_11, k_12, k_13, k_14, k_15, k_16, k_17, k_18, k_19, k_20, k_21, k_22, k_23, k_24, k_27, k_30, k_32, k_48, k_57, k_59, k_60, k_61, k_62, k_63, k_64, k_72, k_78, k_80, k_82, k_97, k_99, k_100, k_122, k_244, k_255, k_268, k_280, k_300, k_432, k_650, k_900, k_901, k_999, k_1700, k_2600, k_2601, k_2602, k_2603, k_2604, k_2610, k_2618, k_2682, k_2777, k_2844, k_2868, k_2880, k_3245, k_3250, k_9551, k_9999, k_65536, k_100000, k_999999, k_1000000, k_2147483647, lt_T, lt_F, le_T, le_F, eq_T, eq_F, ↓reduceIte, not_true_eq_false, not_false_eq_true, or_true, or_false, true_or, false_or, and_true, true_and, and_false, false_and]
  · intro n h h0 h1 ih M hG hZ
    obtain ⟨M1, e1, f1, T1⟩ := m_beds287 (t := t) w ⟨h0, h1⟩ (fun M35 => lX11_laysBeds_279 φ t n (iI (h + 1)) M35) φ 0 (by omega) (by omega) (by omega) M hG (by rw [Int.add_zero]; exact hZ)
    obtain ⟨M', e, f, T⟩ := ih M1 (hG.fr f1 (fun q => by have := q.1; omega)) (by rw [show 12 * (h + 1) = 12 * h + 12 from by omega]; exact T1)
    refine ⟨M', ?_, f1.trans f, T⟩
    rw [← e]
    refine Eq.trans ?_ e1
    rw [lX11_laysBeds_279_s]
    simp (disch := omega) only [iI_add, iI_sub, iI_mul, iI_neg, iI_nat, addm1, ixkI, ↓sbind, sbind, ↓bdS, bdS, ↓nm_eq, ↓jn_eq, iI_lt, iI_le, iI_eq, k_0, k_1, k_2, k_3, k_4, k_5, k_6, k_7, k_8, k_9, k_10, k_11, k_12, k_13, k_14, k_15, k_16, k_17, k_18, k_19, k_20, k_21, k_22, k_23, k_24, k_27, k_30, k_32, k_48, k_57, k_59, k_60, k_61, k_62, k_63, k_64, k_72, k_78, k_80, k_82, k_97, k_99, k_100, k_122, k_244, k_255, k_268, k_280, k_300, k_432, k_650, k_900, k_901, k_999, k_1700, k_2600, k_2601, k_2602, k_2603, k_2604, k_2610, k_2618, k_2682, k_2777, k_2844, k_2868, k_2880, k_3245, k_3250, k_9551, k_9999, k_65536, k_100000, k_999999, k_1000000, k_2147483647, lt_T, lt_F, le_T, le_F, eq_T, eq_F, ↓reduceIte, not_true_eq_false, not_false_eq_true, or_true, or_false, true_or, false_or, and_true, true_and, and_false, false_and]
theorem m_laysBeds (w : WF F) {φ : Nat} (hφ : 100 < φ) (G : MR t 0 F M) : ∃ M', fX11_laysBeds φ t M = some ((), M') ∧ Fr (mS t) M M' ∧ BM t F M' ∧ (∀ j, j ≠ 30 → j ≠ 32 → M'.1 t j = M.1 t j) ∧ M'.2.1 t = M.2.1 t := by
  have n1 := w.n1
  have hcn : ((s_cn F : Nat) : Int) ≤ 5 := by unfold s_cn; omega
  obtain ⟨M1, e1, f1, T1, U1, V1⟩ := m_laysTree w hφ G
  have G1 := G.fr f1 (fun q => by omega)
  obtain ⟨M2, e2, f2, T2⟩ := m_beds6 (t := t) (fun M4 => lX11_laysBeds_27 (fun M17 => nm (stI M17 t 32 (iI 0)) (fun M18 => lX11_laysBeds_176 (fun M29 => lX11_laysBeds_279 φ t φ (iI 0) M29) φ t φ (iI 0) M18)) φ t φ (iI 0) M4) φ 0 (by omega) (by omega) (by omega) M1 (fun y a b => by omega)
  have f2' : Fr (mS t) M1 M2 := f2.mono fun x q => Or.inr (Or.inr ⟨by have := q.1; omega, by have := q.2; omega⟩)
  have G2 := G1.fr f2' (fun q => by omega)
  have T1' : TM t F (s_cn F) M2 := ⟨by rw [(f2 t (fun q => by have := q.1; omega)).1]; exact T1.1, by rw [(f2 (t + 14) (fun q => by have := q.1; omega)).1]; exact T1.2.1, by rw [(f2 (t + 12) (fun q => by have := q.1; omega)).1, (f2 (t + 13) (fun q => by have := q.1; omega)).1]; exact T1.2.2⟩
  obtain ⟨M3, e3, f3, T3⟩ := m_beds27 (t := t) w hφ (fun M17 => nm (stI M17 t 32 (iI 0)) (fun M18 => lX11_laysBeds_176 (fun M29 => lX11_laysBeds_279 φ t φ (iI 0) M29) φ t φ (iI 0) M18)) φ 0 M2 (by omega) (by omega) G2 T1' T2
  have f3' : Fr (mS t) M2 M3 := f3.mono fun x q => by omega
  have G3 := G2.fr f3' (fun q => by omega)
  have hF : Fr (mS t) M3 (stI M3 t 32 (iI 0)) := Fr.stI (Or.inl rfl) (Fr.refl M3)
  obtain ⟨M4, e4, f4, T4, U4, V4⟩ := m_beds176 (t := t) w hφ (s_lab_rng w) (fun M29 => lX11_laysBeds_279 φ t φ (iI 0) M29) φ 0 (by omega) (by omega) (by omega) (0, fun _ => -1) (stI M3 t 32 (iI 0)) (G3.fr hF (fun q => by omega)) ⟨⟨Int.le_refl 0, fun x => Or.inl rfl, fun x y hx => absurd rfl hx⟩, Int.le_refl _, rI_eq _ _ _ _, fun s s0 s1 => by rw [rI_ng (by omega), T3 s s0 s1]; rfl⟩
  have eq : fo (fun h q => nR F (s_lab F) h q) (F 0 1 0) 0 ((0 : Int), fun _ => (-1 : Int)) = nA F (s_lab F) := rfl
  rw [eq] at T4
  have f4' : Fr (mS t) (stI M3 t 32 (iI 0)) M4 := f4.mono fun x q => by omega
  have G4 := (G3.fr hF (fun q => by omega)).fr f4' (fun q => by omega)
  obtain ⟨M5, e5, f5, T5⟩ := m_beds279 (t := t) w hφ φ 0 (by omega) (by omega) (by omega) M4 G4 (fun h l a b c d => by rw [if_neg (by omega)]; exact T4.2.2.2 _ (by omega) (by omega))
  have f5' : Fr (mS t) M4 M5 := f5.mono fun x q => Or.inr (Or.inr ⟨by have := q.1; omega, by have := q.2; omega⟩)
  have mt : ∀ j, j ≠ 32 → M5.1 t j = M1.1 t j := fun j hj => by rw [(f5 t (fun q => by have := q.1; omega)).1, U4 j hj, rI_nk hj, (f3 t (fun q => by omega)).1, (f2 t (fun q => by have := q.1; omega)).1]
  have mc : ∀ c, c = t + 12 ∨ c = t + 13 → M5.1 c = M1.1 c := fun c hc => by
    rw [(f5 c (fun q => by have := q.1; omega)).1, (f4 c (fun q => by omega)).1, show (stI M3 t 32 (iI 0)).1 c = M3.1 c from by funext z; exact rI_ng (by omega), (f3 c (fun q => by omega)).1, (f2 c (fun q => by have := q.1; omega)).1]
  refine ⟨M5, ?_, f1.trans (f2'.trans (f3'.trans (hF.trans (f4'.trans f5')))), ⟨by rw [mt 30 (by decide)]; exact T1.1, ?_, ?_, fun h l a b c d => ?_⟩, fun j h30 h32 => by rw [mt j h32, U1 j h30], ?_⟩
  · unfold fX11_laysBeds
    rw [e1]
    simp only [k_0, bdS]
    refine e2.trans ?_
    have e3' : lX11_laysBeds_27 (fun M17 => nm (stI M17 t 32 (iI 0)) (fun M18 => lX11_laysBeds_176 (fun M29 => lX11_laysBeds_279 φ t φ (iI 0) M29) φ t φ (iI 0) M18)) φ t φ (iI 0) M2 = _ := e3
    refine e3'.trans ?_
    exact e4.trans e5
  · rw [(f5 t (fun q => by have := q.1; omega)).1]; exact T4.2.2.1
  · rw [mc (t + 12) (Or.inl rfl), mc (t + 13) (Or.inr rfl)]; exact T1.2.2
  · rw [T5 h l a b c d, if_pos (by omega)]
  · rw [(f5 t (fun q => by have := q.1; omega)).2.1, V4]
    show M3.2.1 t = M.2.1 t
    rw [(f3 t (fun q => by omega)).2.1, (f2 t (fun q => by have := q.1; omega)).2.1, V1]
end MB
