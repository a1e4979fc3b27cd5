/-! laying and wearing off: the reference -/
section MW
variable {m : Nat} {F : Fld} {M : Mem}
theorem m_lays51 {b : Int} (hb : 0 ≤ b ∧ b ≤ 500) {n2 : Int} (hn : 0 ≤ n2 ∧ n2 ≤ 24) (M0 : Mem) (x2 x3 : Int32) (K : Mem → Option (Unit × Mem)) : ∀ (n : Nat) (k : Int), -1 ≤ k → k + 1 < n → k < n2 → ∀ M, (∀ e : Int, 0 ≤ e → M.1 (m + 1) e.toNat = if b + 5 + k < e ∧ e < b + 5 + n2 then M0.1 (m + 1) (e - 2).toNat else M0.1 (m + 1) e.toNat) → ∃ M', lX11_lays_51 K m x2 x3 (iI b) n (iI k) M = K M' ∧ Fr (Rg (m + 1) (m + 1)) M M' ∧ ∀ e : Int, 0 ≤ e → M'.1 (m + 1) e.toNat = if b + 5 ≤ e ∧ e < b + 5 + n2 then M0.1 (m + 1) (e - 2).toNat else M0.1 (m + 1) e.toNat := by
  intro n k hk hkn
  refine ldn (P := fun n k => k < n2 → ∀ M, (∀ e : Int, 0 ≤ e → M.1 (m + 1) e.toNat = if b + 5 + k < e ∧ e < b + 5 + n2 then M0.1 (m + 1) (e - 2).toNat else M0.1 (m + 1) e.toNat) → ∃ M', lX11_lays_51 K m x2 x3 (iI b) n (iI k) M = K M' ∧ Fr (Rg (m + 1) (m + 1)) M M' ∧ ∀ e : Int, 0 ≤ e → M'.1 (m + 1) e.toNat = if b + 5 ≤ e ∧ e < b + 5 + n2 then M0.1 (m + 1) (e - 2).toNat else M0.1 (m + 1) e.toNat) ?_ ?_ n k hk hkn
  · intro n _ M hM
    refine ⟨M, ?_, Fr.refl M, fun e e0 => ?_⟩
    · rw [lX11_lays_51_s]
      simp (disch := omega) only [iI_add, iI_sub, iI_mul, iI_neg, iI_nat, addm1, ixkI, ↓sbind, sbind, ↓bdS, bdS, ↓nm_eq, ↓jn_eq, iI_lt, iI_le, iI_eq, k_0, k_1, k_2, k_3, k_4, k_5, k_6, k_7, k_8, k_9, k_10, k_11, k_12, k_13, k_14, k_15, k_16, k_17, k_18, k_19, k_20, k_21, k_22, k_23, k_24, k_27, k_30, k_32, k_48, k_57, k_59, k_60, k_61, k_62, k_63, k_64, k_72, k_78, k_80, k_82, k_97, k_99, k_100, k_122, k_244, k_255, k_268, k_280, k_300, k_432, k_650, k_900, k_901, k_999, k_1700, k_2600, k_2601, k_2602, k_2603, k_2604, k_2610, k_2618, k_2682, k_2777, k_2844, k_2868, k_2880, k_3245, k_3250, k_9551, k_9999, k_65536, k_100000, k_999999, k_1000000, k_2147483647, lt_T, lt_F, le_T, le_F, eq_T, eq_F, ↓reduceIte, not_true_eq_false, not_false_eq_true, or_true, or_false, true_or, false_or, and_true, true_and, and_false, false_and]
    · rw [hM e e0]
      by_cases hc : b + 5 ≤ e ∧ e < b + 5 + n2
      · rw [if_pos hc, if_pos (by omega)]
      · rw [if_neg hc, if_neg (by omega)]
  · intro n k k0 ih k1 M hM
    have e1 := hM (b + 3 + k) (by omega)
    rw [if_neg (by omega)] at e1
    have hF : Fr (Rg (m + 1) (m + 1)) M (stI M (m + 1) (b + 3 + 2 + k).toNat (M0.1 (m + 1) (b + 3 + k).toNat)) := Fr.stI ⟨by omega, by omega⟩ (Fr.refl M)
    obtain ⟨M', e, f, T⟩ := ih (by omega) (stI M (m + 1) (b + 3 + 2 + k).toNat (M0.1 (m + 1) (b + 3 + k).toNat)) (fun e e0 => by
      by_cases he : e = b + 3 + 2 + k
      · rw [he, rI_eq, if_pos (by omega), show b + 3 + 2 + k - 2 = b + 3 + k from by omega]
      · rw [rI_nk (by omega), hM e e0]
        by_cases hc : b + 5 + k < e ∧ e < b + 5 + n2
        · rw [if_pos hc, if_pos (by omega)]
        · rw [if_neg hc, if_neg (by omega)])
    refine ⟨M', ?_, hF.trans f, T⟩
    rw [← e, lX11_lays_51_s]
    simp (disch := omega) only [iI_add, iI_sub, iI_mul, iI_neg, iI_nat, addm1, ixkI, ↓sbind, sbind, ↓bdS, bdS, ↓nm_eq, ↓jn_eq, iI_lt, iI_le, iI_eq, k_0, k_1, k_2, k_3, k_4, k_5, k_6, k_7, k_8, k_9, k_10, k_11, k_12, k_13, k_14, k_15, k_16, k_17, k_18, k_19, k_20, k_21, k_22, k_23, k_24, k_27, k_30, k_32, k_48, k_57, k_59, k_60, k_61, k_62, k_63, k_64, k_72, k_78, k_80, k_82, k_97, k_99, k_100, k_122, k_244, k_255, k_268, k_280, k_300, k_432, k_650, k_900, k_901, k_999, k_1700, k_2600, k_2601, k_2602, k_2603, k_2604, k_2610, k_2618, k_2682, k_2777, k_2844, k_2868, k_2880, k_3245, k_3250, k_9551, k_9999, k_65536, k_100000, k_999999, k_1000000, k_2147483647, lt_T, lt_F, le_T, le_F, eq_T, eq_F, ↓reduceIte, not_true_eq_false, not_false_eq_true, or_true, or_false, true_or, false_or, and_true, true_and, and_false, false_and, e1]
theorem m_lays (w : WF F) (G : MR m 0 F M) {h r k : Int} (hh : 0 ≤ h ∧ h < F 0 1 0) (hr : 0 ≤ r ∧ r < F 0 0 0) (hk : 1 ≤ k ∧ k ≤ 999) (hw : s_wl F h r k = 0) {φ : Nat} (hφ : 100 < φ) : ∃ M', fX11_lays φ m (iI h) (iI r) (iI k) M = some ((), M') ∧ MR m 0 (s_lay2 F h r k) M' ∧ Fr (Rg (m + 1) (m + 1)) M M' ∧ ∀ e : Int, e = 4 ∨ 280 ≤ e → M'.1 (m + 1) e.toNat = M.1 (m + 1) e.toNat := by
  have n0 := w.n0
  have n1 := w.n1
  have nl := w.nl hh
  have el := m_layersOf G (h := h) (by omega)
  have er := m_rockOf G (h := h) (l := 0) (by omega) (by omega)
  have gx := fun a (x : 0 ≤ a) (y : a < 6) => G.x (k := a) ⟨x, y⟩
  have gw := fun a z (x : 0 ≤ a) (y : a < 6) (u : 0 ≤ z) (v : z < 3) => G.hw (k := a) (w := z) ⟨⟨x, y⟩, u, v⟩
  by_cases hc : 0 < F 3 h 2 ∧ F 4 h 0 = r
  · have e5 := G.th (k := h) (l := 0) (by omega)
    rw [show 82 + 27 * h + 3 + 2 * 0 + 1 = 82 + 27 * h + 3 + 1 from by omega] at e5
    have hF : Fr (Rg (m + 1) (m + 1)) M (stI M (m + 1) (82 + 27 * h + 3 + 1).toNat (iI (F 5 h 0 + k))) := Fr.stI ⟨by omega, by omega⟩ (Fr.refl M)
    refine ⟨stI M (m + 1) (82 + 27 * h + 3 + 1).toNat (iI (F 5 h 0 + k)), ?_, ?_, hF, fun e he => rI_nk (by omega)⟩
    · unfold fX11_lays fX11_holeRow
      rw [el, k_0, er]
      have hc2 : F 4 h 0 = r := hc.2
      simp (disch := omega) only [iI_add, iI_sub, iI_mul, iI_neg, iI_nat, addm1, ixkI, ↓sbind, sbind, ↓bdS, bdS, ↓nm_eq, ↓jn_eq, iI_lt, iI_le, iI_eq, k_0, k_1, k_2, k_3, k_4, k_5, k_6, k_7, k_8, k_9, k_10, k_11, k_12, k_13, k_14, k_15, k_16, k_17, k_18, k_19, k_20, k_21, k_22, k_23, k_24, k_27, k_30, k_32, k_48, k_57, k_59, k_60, k_61, k_62, k_63, k_64, k_72, k_78, k_80, k_82, k_97, k_99, k_100, k_122, k_244, k_255, k_268, k_280, k_300, k_432, k_650, k_900, k_901, k_999, k_1700, k_2600, k_2601, k_2602, k_2603, k_2604, k_2610, k_2618, k_2682, k_2777, k_2844, k_2868, k_2880, k_3245, k_3250, k_9551, k_9999, k_65536, k_100000, k_999999, k_1000000, k_2147483647, lt_T, lt_F, le_T, le_F, eq_T, eq_F, ↓reduceIte, not_true_eq_false, not_false_eq_true, or_true, or_false, true_or, false_or, and_true, true_and, and_false, false_and, e5]
    · unfold s_lay2
      rw [if_pos hc]
      refine G.lk (Lk.thn F h _) (fun e e0 he => rI_nk (by omega)) (fun a a0 a1 => ?_) (fun a l a0 a1 l0 l1 => ?_)
      · rw [rI_nk (by omega), rI_nk (by omega), rI_nk (by omega), thn_k F (by decide)]
        exact ⟨rfl, rfl, gw a 2 a0 a1 (by omega) (by omega)⟩
      · rw [rI_nk (by omega), thn_k F (by decide)]
        refine ⟨G.rk ⟨⟨a0, a1⟩, l0, l1⟩, ?_⟩
        by_cases ha : a = h ∧ l = 0
        · rw [ha.1, ha.2, thn_5, show 82 + 27 * h + 3 + 2 * 0 + 1 = 82 + 27 * h + 3 + 1 from by omega, rI_eq]
        · rw [thn_5n F (by omega), rI_nk (by omega)]
          exact G.th ⟨⟨a0, a1⟩, l0, l1⟩
  · have h12 : F 3 h 2 < 12 := by
      unfold s_wl at hw
      rw [if_neg hc] at hw
      by_cases hz : F 3 h 2 = 12
      · rw [if_pos hz] at hw; omega
      · omega
    obtain ⟨M1, e1, f1, T1⟩ := m_lays51 (m := m) (b := 82 + 27 * h) (by omega) (n2 := 2 * F 3 h 2) (by omega) M (iI r) (iI k) (fun (M7 : Mem) => ixk (iI (82 + 27 * h + 3)) 3900 (nm (stI M7 (m + 1) (iI (82 + 27 * h + 3)).toNatClampNeg (iI r)) (fun M8 => ixk (iI (82 + 27 * h + 3 + 1)) 3900 (nm (stI M8 (m + 1) (iI (82 + 27 * h + 3 + 1)).toNatClampNeg (iI k)) (fun M9 => ixk (iI (82 + 27 * h + 2)) 3900 (ixk (iI (82 + 27 * h + 2)) 3900 (nm (stI M9 (m + 1) (iI (82 + 27 * h + 2)).toNatClampNeg ((M9.1 (m + 1) (iI (82 + 27 * h + 2)).toNatClampNeg) + iI 1)) (fun M10 => some ((), M10))))))))) φ (2 * F 3 h 2 - 1) (by omega) (by omega) (by omega) M (fun e e0 => by rw [if_neg (by omega)])
    have e2 := T1 (82 + 27 * h + 2) (by omega)
    rw [if_neg (by omega), gw h 2 (by omega) (by omega) (by omega) (by omega)] at e2
    have f2 : (stI (stI M1 (m + 1) (82 + 27 * h + 3).toNat (iI r)) (m + 1) (82 + 27 * h + 3 + 1).toNat (iI k)).1 (m + 1) (82 + 27 * h + 2).toNat = iI (F 3 h 2) := by rw [rI_nk (by omega), rI_nk (by omega)]; exact e2
    refine ⟨stI (stI (stI M1 (m + 1) (82 + 27 * h + 3).toNat (iI r)) (m + 1) (82 + 27 * h + 3 + 1).toNat (iI k)) (m + 1) (82 + 27 * h + 2).toNat (iI (F 3 h 2 + 1)), ?_, ?_, Fr.stI ⟨by omega, by omega⟩ (Fr.stI ⟨by omega, by omega⟩ (Fr.stI ⟨by omega, by omega⟩ f1)), fun e he => by rw [rI_nk (by omega), rI_nk (by omega), rI_nk (by omega), T1 e (by omega), if_neg (by omega)]⟩
    · refine Eq.trans ?_ (e1.trans ?_)
      · unfold fX11_lays fX11_holeRow
        rw [el, k_0, er]
        by_cases hz : F 3 h 2 ≤ 0
        · simp (disch := omega) only [k_1, k_2, k_3, k_27, k_82, iI_mul, iI_add, iI_sub, sbind, jn_eq, nm_eq, iI_le, lt_T, lt_F, le_T, le_F, eq_T, eq_F, ↓reduceIte, not_true_eq_false, not_false_eq_true, or_true, or_false, true_or, false_or, and_true, true_and, and_false, false_and]
        · have hd : ¬ F 4 h 0 = r := fun q => hc ⟨by omega, q⟩
          have hb := w.rk hh (l := 0) (by omega)
          simp (disch := omega) only [k_1, k_2, k_3, k_27, k_82, iI_mul, iI_add, iI_sub, sbind, jn_eq, nm_eq, iI_le, iI_eq, lt_T, lt_F, le_T, le_F, eq_T, eq_F, ↓reduceIte, not_true_eq_false, not_false_eq_true, or_true, or_false, true_or, false_or, and_true, true_and, and_false, false_and]
      · simp (disch := omega) only [iI_add, iI_sub, iI_mul, iI_neg, iI_nat, addm1, ixkI, ↓sbind, sbind, ↓bdS, bdS, ↓nm_eq, ↓jn_eq, iI_lt, iI_le, iI_eq, k_0, k_1, k_2, k_3, k_4, k_5, k_6, k_7, k_8, k_9, k_10, k_11, k_12, k_13, k_14, k_15, k_16, k_17, k_18, k_19, k_20, k_21, k_22, k_23, k_24, k_27, k_30, k_32, k_48, k_57, k_59, k_60, k_61, k_62, k_63, k_64, k_72, k_78, k_80, k_82, k_97, k_99, k_100, k_122, k_244, k_255, k_268, k_280, k_300, k_432, k_650, k_900, k_901, k_999, k_1700, k_2600, k_2601, k_2602, k_2603, k_2604, k_2610, k_2618, k_2682, k_2777, k_2844, k_2868, k_2880, k_3245, k_3250, k_9551, k_9999, k_65536, k_100000, k_999999, k_1000000, k_2147483647, lt_T, lt_F, le_T, le_F, eq_T, eq_F, ↓reduceIte, not_true_eq_false, not_false_eq_true, or_true, or_false, true_or, false_or, and_true, true_and, and_false, false_and, f2]
    · unfold s_lay2
      rw [if_neg hc]
      refine G.lk (Lk.ins F h r k) (fun e e0 he => by rw [rI_nk (by omega), rI_nk (by omega), rI_nk (by omega), T1 e e0, if_neg (by omega)]) (fun a a0 a1 => ?_) (fun a l a0 a1 l0 l1 => ?_)
      · refine ⟨by rw [rI_nk (by omega), rI_nk (by omega), rI_nk (by omega), T1 _ (by omega), if_neg (by omega)], by rw [rI_nk (by omega), rI_nk (by omega), rI_nk (by omega), T1 _ (by omega), if_neg (by omega)], ?_⟩
        by_cases ha : a = h
        · rw [ha, rI_eq, uins_3]
        · rw [rI_nk (by omega), rI_nk (by omega), rI_nk (by omega), T1 _ (by omega), if_neg (by omega), uins_o F ha]
          exact gw a 2 a0 a1 (by omega) (by omega)
      · by_cases ha : a = h
        · rw [ha]
          by_cases hl : l = 0
          · rw [hl, uins_40, uins_50, show 82 + 27 * h + 3 + 2 * 0 = 82 + 27 * h + 3 from by omega]
            exact ⟨by rw [rI_nk (by omega), rI_nk (by omega), rI_eq], by rw [rI_nk (by omega), rI_eq]⟩
          · rw [rI_nk (by omega), rI_nk (by omega), rI_nk (by omega), rI_nk (by omega), rI_nk (by omega), rI_nk (by omega), T1 _ (by omega), T1 _ (by omega)]
            by_cases hle : l ≤ F 3 h 2
            · rw [uins_s F (Or.inl rfl) (by omega), uins_s F (Or.inr rfl) (by omega), if_pos (by omega), if_pos (by omega), show 82 + 27 * h + 3 + 2 * l - 2 = 82 + 27 * h + 3 + 2 * (l - 1) from by omega, show 82 + 27 * h + 3 + 2 * l + 1 - 2 = 82 + 27 * h + 3 + 2 * (l - 1) + 1 from by omega]
              exact ⟨G.rk (by omega), G.th (by omega)⟩
            · rw [uins_e F (Or.inl rfl) (by omega), uins_e F (Or.inr rfl) (by omega), if_neg (by omega), if_neg (by omega)]
              exact ⟨G.rk (by omega), G.th (by omega)⟩
        · rw [uins_o F ha, uins_o F ha, rI_nk (by omega), rI_nk (by omega), rI_nk (by omega), rI_nk (by omega), rI_nk (by omega), rI_nk (by omega), T1 _ (by omega), T1 _ (by omega), if_neg (by omega), if_neg (by omega)]
          exact ⟨G.rk ⟨⟨a0, a1⟩, l0, l1⟩, G.th ⟨⟨a0, a1⟩, l0, l1⟩⟩
/-- one layer goes: all below come up -/
theorem m_wears87 {h b : Int} (hh : 0 ≤ h ∧ h < 6) (hb : b = 82 + 27 * h) {N : Int} (hN : 0 ≤ N ∧ N ≤ 12) (M0 : Mem) (x2 x4 : Int32) (K : Mem → Option (Int32 × Mem)) : ∀ (n : Nat) (k : Int), 0 ≤ k → k ≤ 2 * N → 2 * N < n + k → ∀ M, M.1 (m + 1) (82 + 27 * h + 2).toNat = iI N → (∀ e : Int, 0 ≤ e → M.1 (m + 1) e.toNat = if b + 3 ≤ e ∧ e < b + 3 + k then M0.1 (m + 1) (e + 2).toNat else M0.1 (m + 1) e.toNat) → ∃ M', lX11_wears_87 K m (iI h) x2 (iI b) x4 n (iI k) M = K M' ∧ Fr (Rg (m + 1) (m + 1)) M M' ∧ ∀ e : Int, 0 ≤ e → M'.1 (m + 1) e.toNat = if b + 3 ≤ e ∧ e < b + 3 + 2 * N then M0.1 (m + 1) (e + 2).toNat else M0.1 (m + 1) e.toNat := by
  refine lup (N := 2 * N) (P := fun n k => ∀ M, M.1 (m + 1) (82 + 27 * h + 2).toNat = iI N → (∀ e : Int, 0 ≤ e → M.1 (m + 1) e.toNat = if b + 3 ≤ e ∧ e < b + 3 + k then M0.1 (m + 1) (e + 2).toNat else M0.1 (m + 1) e.toNat) → ∃ M', lX11_wears_87 K m (iI h) x2 (iI b) x4 n (iI k) M = K M' ∧ Fr (Rg (m + 1) (m + 1)) M M' ∧ ∀ e : Int, 0 ≤ e → M'.1 (m + 1) e.toNat = if b + 3 ≤ e ∧ e < b + 3 + 2 * N then M0.1 (m + 1) (e + 2).toNat else M0.1 (m + 1) e.toNat) ?_ ?_
  · intro n M h2 hM
    refine ⟨M, ?_, Fr.refl M, hM⟩
    rw [lX11_wears_87_s]
    unfold fX11_layersOf fX11_holeRow
    simp (disch := omega) only [iI_add, iI_sub, iI_mul, iI_neg, iI_nat, addm1, ixkI, ↓sbind, sbind, ↓bdS, bdS, ↓nm_eq, ↓jn_eq, iI_lt, iI_le, iI_eq, k_0, k_1, k_2, k_3, k_4, k_5, k_6, k_7, k_8, k_9, k_10, k_11, k_12, k_13, k_14, k_15, k_16, k_17, k_18, k_19, k_20, k_21, k_22, k_23, k_24, k_27, k_30, k_32, k_48, k_57, k_59, k_60, k_61, k_62, k_63, k_64, k_72, k_78, k_80, k_82, k_97, k_99, k_100, k_122, k_244, k_255, k_268, k_280, k_300, k_432, k_650, k_900, k_901, k_999, k_1700, k_2600, k_2601, k_2602, k_2603, k_2604, k_2610, k_2618, k_2682, k_2777, k_2844, k_2868, k_2880, k_3245, k_3250, k_9551, k_9999, k_65536, k_100000, k_999999, k_1000000, k_2147483647, lt_T, lt_F, le_T, le_F, eq_T, eq_F, ↓reduceIte, not_true_eq_false, not_false_eq_true, or_true, or_false, true_or, false_or, and_true, true_and, and_false, false_and, h2]
  · intro n k k0 k1 ih M h2 hM
    have e1 := hM (b + 3 + 2 + k) (by omega)
    rw [if_neg (by omega)] at e1
    have hF : Fr (Rg (m + 1) (m + 1)) M (stI M (m + 1) (b + 3 + k).toNat (M0.1 (m + 1) (b + 3 + 2 + k).toNat)) := Fr.stI ⟨by omega, by omega⟩ (Fr.refl M)
    obtain ⟨M', e, f, T⟩ := ih (stI M (m + 1) (b + 3 + k).toNat (M0.1 (m + 1) (b + 3 + 2 + k).toNat)) (by rw [rI_nk (by omega)]; exact h2) (fun e e0 => by
      by_cases he : e = b + 3 + k
      · rw [he, rI_eq, if_pos (by omega), show b + 3 + k + 2 = b + 3 + 2 + k from by omega]
      · rw [rI_nk (by omega), hM e e0]
        by_cases hc : b + 3 ≤ e ∧ e < b + 3 + k
        · rw [if_pos hc, if_pos (by omega)]
        · rw [if_neg hc, if_neg (by omega)])
    refine ⟨M', ?_, hF.trans f, T⟩
    rw [← e, lX11_wears_87_s]
    unfold fX11_layersOf fX11_holeRow
    simp (disch := omega) only [iI_add, iI_sub, iI_mul, iI_neg, iI_nat, addm1, ixkI, ↓sbind, sbind, ↓bdS, bdS, ↓nm_eq, ↓jn_eq, iI_lt, iI_le, iI_eq, k_0, k_1, k_2, k_3, k_4, k_5, k_6, k_7, k_8, k_9, k_10, k_11, k_12, k_13, k_14, k_15, k_16, k_17, k_18, k_19, k_20, k_21, k_22, k_23, k_24, k_27, k_30, k_32, k_48, k_57, k_59, k_60, k_61, k_62, k_63, k_64, k_72, k_78, k_80, k_82, k_97, k_99, k_100, k_122, k_244, k_255, k_268, k_280, k_300, k_432, k_650, k_900, k_901, k_999, k_1700, k_2600, k_2601, k_2602, k_2603, k_2604, k_2610, k_2618, k_2682, k_2777, k_2844, k_2868, k_2880, k_3245, k_3250, k_9551, k_9999, k_65536, k_100000, k_999999, k_1000000, k_2147483647, lt_T, lt_F, le_T, le_F, eq_T, eq_F, ↓reduceIte, not_true_eq_false, not_false_eq_true, or_true, or_false, true_or, false_or, and_true, true_and, and_false, false_and, h2, e1]
theorem m_wears8 {h R : Int} (hh : 0 ≤ h ∧ h < 6) {φ : Nat} (hφ : 100 < φ) {k0 : Int} (d : Nat) : ∀ (n : Nat) (F : Fld) (left : Int) (M : Mem), d < n → F 3 h 2 < d → Hw F h R → 0 ≤ left → left ≤ 9999 → MR m 0 F M → ∃ M', lX11_wears_8 φ m (iI h) (iI k0) (iI (82 + 27 * h)) n (iI left) M = some (iI (k0 - (wearN d F h left).2), M') ∧ MR m 0 (wearN d F h left).1 M' ∧ Fr (Rg (m + 1) (m + 1)) M M' ∧ ∀ e : Int, e = 4 ∨ 280 ≤ e → M'.1 (m + 1) e.toNat = M.1 (m + 1) e.toNat := by
  induction d with
  | zero =>
    intro n F left M hn hd w
    have := w.1
    omega
  | succ d ih =>
    intro n F left M hn hd w l0 l1 G
    have wn := w.1
    obtain ⟨n, rfl⟩ : ∃ k, n = k + 1 := ⟨n - 1, by omega⟩
    have el := m_layersOf G (h := h) hh
    by_cases hc : left ≤ 0 ∨ F 3 h 2 ≤ 0
    · rw [wearN_0 hc]
      refine ⟨M, ?_, G, Fr.refl M, fun _ _ => rfl⟩
      rw [lX11_wears_8_s, el]
      by_cases hl : left ≤ 0
      · simp (disch := omega) only [iI_add, iI_sub, iI_mul, iI_neg, iI_nat, addm1, ixkI, ↓sbind, sbind, ↓bdS, bdS, ↓nm_eq, ↓jn_eq, iI_lt, iI_le, iI_eq, k_0, k_1, k_2, k_3, k_4, k_5, k_6, k_7, k_8, k_9, k_10, k_11, k_12, k_13, k_14, k_15, k_16, k_17, k_18, k_19, k_20, k_21, k_22, k_23, k_24, k_27, k_30, k_32, k_48, k_57, k_59, k_60, k_61, k_62, k_63, k_64, k_72, k_78, k_80, k_82, k_97, k_99, k_100, k_122, k_244, k_255, k_268, k_280, k_300, k_432, k_650, k_900, k_901, k_999, k_1700, k_2600, k_2601, k_2602, k_2603, k_2604, k_2610, k_2618, k_2682, k_2777, k_2844, k_2868, k_2880, k_3245, k_3250, k_9551, k_9999, k_65536, k_100000, k_999999, k_1000000, k_2147483647, lt_T, lt_F, le_T, le_F, eq_T, eq_F, ↓reduceIte, not_true_eq_false, not_false_eq_true, or_true, or_false, true_or, false_or, and_true, true_and, and_false, false_and]
      · simp (disch := omega) only [iI_add, iI_sub, iI_mul, iI_neg, iI_nat, addm1, ixkI, ↓sbind, sbind, ↓bdS, bdS, ↓nm_eq, ↓jn_eq, iI_lt, iI_le, iI_eq, k_0, k_1, k_2, k_3, k_4, k_5, k_6, k_7, k_8, k_9, k_10, k_11, k_12, k_13, k_14, k_15, k_16, k_17, k_18, k_19, k_20, k_21, k_22, k_23, k_24, k_27, k_30, k_32, k_48, k_57, k_59, k_60, k_61, k_62, k_63, k_64, k_72, k_78, k_80, k_82, k_97, k_99, k_100, k_122, k_244, k_255, k_268, k_280, k_300, k_432, k_650, k_900, k_901, k_999, k_1700, k_2600, k_2601, k_2602, k_2603, k_2604, k_2610, k_2618, k_2682, k_2777, k_2844, k_2868, k_2880, k_3245, k_3250, k_9551, k_9999, k_65536, k_100000, k_999999, k_1000000, k_2147483647, lt_T, lt_F, le_T, le_F, eq_T, eq_F, ↓reduceIte, not_true_eq_false, not_false_eq_true, or_true, or_false, true_or, false_or, and_true, true_and, and_false, false_and]
    · have q := w.2 0 (by omega) (by omega)
      have et := m_thickOf G (h := h) (l := 0) hh (by omega)
      have e5 := G.th (k := h) (l := 0) (by omega)
      rw [show 82 + 27 * h + 3 + 2 * 0 + 1 = 82 + 27 * h + 3 + 1 from by omega] at e5
      by_cases h5 : F 5 h 0 ≤ left
      · rw [wearN_r hc h5]
        have e2 : (stI M (m + 1) (82 + 27 * h + 3 + 1).toNat (iI 0)).1 (m + 1) (82 + 27 * h + 2).toNat = iI (F 3 h 2) := by rw [rI_nk (by omega)]; exact G.hw (k := h) (w := 2) (by omega)
        obtain ⟨M2, a1, a2, a3⟩ := m_wears87 (m := m) (h := h) (b := 82 + 27 * h) hh rfl (N := F 3 h 2 - 1) (by omega) (stI (stI M (m + 1) (82 + 27 * h + 3 + 1).toNat (iI 0)) (m + 1) (82 + 27 * h + 2).toNat (iI (F 3 h 2 - 1))) (iI k0) (iI (left - F 5 h 0)) (fun M10 => lX11_wears_8 φ m (iI h) (iI k0) (iI (82 + 27 * h)) n (iI (left - F 5 h 0)) M10) φ 0 (by omega) (by omega) (by omega) (stI (stI M (m + 1) (82 + 27 * h + 3 + 1).toNat (iI 0)) (m + 1) (82 + 27 * h + 2).toNat (iI (F 3 h 2 - 1))) (rI_eq _ _ _ _) (fun e e0 => by rw [if_neg (by omega)])
        have fA : Fr (Rg (m + 1) (m + 1)) M M2 := (Fr.stI ⟨by omega, by omega⟩ (Fr.stI ⟨by omega, by omega⟩ (Fr.refl M))).trans a2
        have e3 : u_rmv (u_thn F h 0) h 3 h 2 = F 3 h 2 - 1 := by rw [rmv_3, thn_k F (by decide)]
        have rd : ∀ e : Int, 0 ≤ e → e ≠ 82 + 27 * h + 3 + 1 → e ≠ 82 + 27 * h + 2 → (stI (stI M (m + 1) (82 + 27 * h + 3 + 1).toNat (iI 0)) (m + 1) (82 + 27 * h + 2).toNat (iI (F 3 h 2 - 1))).1 (m + 1) e.toNat = M.1 (m + 1) e.toNat := fun e e0 e1 e2 => by rw [rI_nk (by omega), rI_nk (by omega)]
        have G2 : MR m 0 (u_rmv (u_thn F h 0) h) M2 := by
          refine G.lk ((Lk.thn F h 0).trans (Lk.rmv _ h)) (fun e e0 he => by rw [a3 e e0, if_neg (by omega), rd e e0 (by omega) (by omega)]) (fun a x0 x1 => ?_) (fun a l x0 x1 y0 y1 => ?_)
          · refine ⟨by rw [a3 _ (by omega), if_neg (by omega), rd _ (by omega) (by omega) (by omega)], by rw [a3 _ (by omega), if_neg (by omega), rd _ (by omega) (by omega) (by omega)], ?_⟩
            by_cases ha : a = h
            · rw [ha, a3 _ (by omega), if_neg (by omega), rI_eq, e3]
            · rw [a3 _ (by omega), if_neg (by omega), rd _ (by omega) (by omega) (by omega), rmv_o _ ha, thn_k F (by decide)]
              exact G.hw (k := a) (w := 2) (by omega)
          · rw [a3 _ (by omega), a3 _ (by omega)]
            by_cases ha : a = h
            · rw [ha]
              by_cases hle : l < F 3 h 2 - 1
              · rw [if_pos (by omega), if_pos (by omega), rmv_s _ (Or.inl rfl) (by rw [thn_k F (by decide)]; omega), rmv_s _ (Or.inr rfl) (by rw [thn_k F (by decide)]; omega), thn_k F (by decide), thn_5n F (by omega), rd _ (by omega) (by omega) (by omega), rd _ (by omega) (by omega) (by omega), show 82 + 27 * h + 3 + 2 * l + 2 = 82 + 27 * h + 3 + 2 * (l + 1) from by omega, show 82 + 27 * h + 3 + 2 * l + 1 + 2 = 82 + 27 * h + 3 + 2 * (l + 1) + 1 from by omega]
                exact ⟨G.rk (by omega), G.th (by omega)⟩
              · rw [if_neg (by omega), if_neg (by omega), rmv_e _ (Or.inl rfl) (by rw [thn_k F (by decide)]; omega), rmv_e _ (Or.inr rfl) (by rw [thn_k F (by decide)]; omega), thn_k F (by decide), rd _ (by omega) (by omega) (by omega)]
                refine ⟨G.rk (by omega), ?_⟩
                by_cases hl : l = 0
                · rw [hl, thn_5, show 82 + 27 * h + 3 + 2 * 0 + 1 = 82 + 27 * h + 3 + 1 from by omega, rI_nk (by omega), rI_eq]
                · rw [thn_5n F (by omega), rd _ (by omega) (by omega) (by omega)]
                  exact G.th (by omega)
            · rw [if_neg (by omega), if_neg (by omega), rd _ (by omega) (by omega) (by omega), rd _ (by omega) (by omega) (by omega), rmv_o _ ha, rmv_o _ ha, thn_k F (by decide), thn_5n F (by omega)]
              exact ⟨G.rk ⟨⟨x0, x1⟩, y0, y1⟩, G.th ⟨⟨x0, x1⟩, y0, y1⟩⟩
        obtain ⟨M', c1, c2, c3, c4⟩ := ih n (u_rmv (u_thn F h 0) h) (left - F 5 h 0) M2 (by omega) (by omega) (w.rmv (by omega)) (by omega) (by omega) G2
        refine ⟨M', ?_, c2, fA.trans c3, fun e he => by rw [c4 e he, a3 e (by omega), if_neg (by omega), rd e (by omega) (by omega) (by omega)]⟩
        rw [← c1]
        refine Eq.trans ?_ a1
        have es : F 5 h 0 - F 5 h 0 = 0 := Int.sub_self _
        rw [lX11_wears_8_s, el, k_0, et]
        by_cases hlt : F 5 h 0 < left
        · simp (disch := omega) only [iI_add, iI_sub, iI_mul, iI_neg, iI_nat, addm1, ixkI, ↓sbind, sbind, ↓bdS, bdS, ↓nm_eq, ↓jn_eq, iI_lt, iI_le, iI_eq, k_0, k_1, k_2, k_3, k_4, k_5, k_6, k_7, k_8, k_9, k_10, k_11, k_12, k_13, k_14, k_15, k_16, k_17, k_18, k_19, k_20, k_21, k_22, k_23, k_24, k_27, k_30, k_32, k_48, k_57, k_59, k_60, k_61, k_62, k_63, k_64, k_72, k_78, k_80, k_82, k_97, k_99, k_100, k_122, k_244, k_255, k_268, k_280, k_300, k_432, k_650, k_900, k_901, k_999, k_1700, k_2600, k_2601, k_2602, k_2603, k_2604, k_2610, k_2618, k_2682, k_2777, k_2844, k_2868, k_2880, k_3245, k_3250, k_9551, k_9999, k_65536, k_100000, k_999999, k_1000000, k_2147483647, lt_T, lt_F, le_T, le_F, eq_T, eq_F, ↓reduceIte, not_true_eq_false, not_false_eq_true, or_true, or_false, true_or, false_or, and_true, true_and, and_false, false_and, e5, es, rI_eq, e2]
        · have hle : left = F 5 h 0 := by omega
          rw [hle]
          simp (disch := omega) only [iI_add, iI_sub, iI_mul, iI_neg, iI_nat, addm1, ixkI, ↓sbind, sbind, ↓bdS, bdS, ↓nm_eq, ↓jn_eq, iI_lt, iI_le, iI_eq, k_0, k_1, k_2, k_3, k_4, k_5, k_6, k_7, k_8, k_9, k_10, k_11, k_12, k_13, k_14, k_15, k_16, k_17, k_18, k_19, k_20, k_21, k_22, k_23, k_24, k_27, k_30, k_32, k_48, k_57, k_59, k_60, k_61, k_62, k_63, k_64, k_72, k_78, k_80, k_82, k_97, k_99, k_100, k_122, k_244, k_255, k_268, k_280, k_300, k_432, k_650, k_900, k_901, k_999, k_1700, k_2600, k_2601, k_2602, k_2603, k_2604, k_2610, k_2618, k_2682, k_2777, k_2844, k_2868, k_2880, k_3245, k_3250, k_9551, k_9999, k_65536, k_100000, k_999999, k_1000000, k_2147483647, lt_T, lt_F, le_T, le_F, eq_T, eq_F, ↓reduceIte, not_true_eq_false, not_false_eq_true, or_true, or_false, true_or, false_or, and_true, true_and, and_false, false_and, e5, es, rI_eq, e2]
      · rw [wearN_t hc h5]
        have hF : Fr (Rg (m + 1) (m + 1)) M (stI M (m + 1) (82 + 27 * h + 3 + 1).toNat (iI (F 5 h 0 - left))) := Fr.stI ⟨by omega, by omega⟩ (Fr.refl M)
        refine ⟨stI M (m + 1) (82 + 27 * h + 3 + 1).toNat (iI (F 5 h 0 - left)), ?_, ?_, hF, fun e he => rI_nk (by omega)⟩
        · have es : left - left = 0 := Int.sub_self _
          obtain ⟨n, rfl⟩ : ∃ k, n = k + 1 := ⟨n - 1, by omega⟩
          rw [lX11_wears_8_s, el, k_0, et]
          simp (disch := omega) only [iI_add, iI_sub, iI_mul, iI_neg, iI_nat, addm1, ixkI, ↓sbind, sbind, ↓bdS, bdS, ↓nm_eq, ↓jn_eq, iI_lt, iI_le, iI_eq, k_0, k_1, k_2, k_3, k_4, k_5, k_6, k_7, k_8, k_9, k_10, k_11, k_12, k_13, k_14, k_15, k_16, k_17, k_18, k_19, k_20, k_21, k_22, k_23, k_24, k_27, k_30, k_32, k_48, k_57, k_59, k_60, k_61, k_62, k_63, k_64, k_72, k_78, k_80, k_82, k_97, k_99, k_100, k_122, k_244, k_255, k_268, k_280, k_300, k_432, k_650, k_900, k_901, k_999, k_1700, k_2600, k_2601, k_2602, k_2603, k_2604, k_2610, k_2618, k_2682, k_2777, k_2844, k_2868, k_2880, k_3245, k_3250, k_9551, k_9999, k_65536, k_100000, k_999999, k_1000000, k_2147483647, lt_T, lt_F, le_T, le_F, eq_T, eq_F, ↓reduceIte, not_true_eq_false, not_false_eq_true, or_true, or_false, true_or, false_or, and_true, true_and, and_false, false_and, e5, es, rI_eq]
          rw [lX11_wears_8_s]
          simp (disch := omega) only [iI_add, iI_sub, iI_mul, iI_neg, iI_nat, addm1, ixkI, ↓sbind, sbind, ↓bdS, bdS, ↓nm_eq, ↓jn_eq, iI_lt, iI_le, iI_eq, k_0, k_1, k_2, k_3, k_4, k_5, k_6, k_7, k_8, k_9, k_10, k_11, k_12, k_13, k_14, k_15, k_16, k_17, k_18, k_19, k_20, k_21, k_22, k_23, k_24, k_27, k_30, k_32, k_48, k_57, k_59, k_60, k_61, k_62, k_63, k_64, k_72, k_78, k_80, k_82, k_97, k_99, k_100, k_122, k_244, k_255, k_268, k_280, k_300, k_432, k_650, k_900, k_901, k_999, k_1700, k_2600, k_2601, k_2602, k_2603, k_2604, k_2610, k_2618, k_2682, k_2777, k_2844, k_2868, k_2880, k_3245, k_3250, k_9551, k_9999, k_65536, k_100000, k_999999, k_1000000, k_2147483647, lt_T, lt_F, le_T, le_F, eq_T, eq_F, ↓reduceIte, not_true_eq_false, not_false_eq_true, or_true, or_false, true_or, false_or, and_true, true_and, and_false, false_and]
        · show MR m 0 (u_thn F h (F 5 h 0 - left)) _
          refine G.lk (Lk.thn F h _) (fun e e0 he => rI_nk (by omega)) (fun a x0 x1 => ?_) (fun a l x0 x1 y0 y1 => ?_)
          · rw [rI_nk (by omega), rI_nk (by omega), rI_nk (by omega), thn_k F (by decide)]
            exact ⟨rfl, rfl, G.hw (k := a) (w := 2) (by omega)⟩
          · rw [rI_nk (by omega), thn_k F (by decide)]
            refine ⟨G.rk ⟨⟨x0, x1⟩, y0, y1⟩, ?_⟩
            by_cases ha : a = h ∧ l = 0
            · rw [ha.1, ha.2, thn_5, show 82 + 27 * h + 3 + 2 * 0 + 1 = 82 + 27 * h + 3 + 1 from by omega, rI_eq]
            · rw [thn_5n F (by omega), rI_nk (by omega)]
              exact G.th ⟨⟨x0, x1⟩, y0, y1⟩
theorem m_wears (w : WF F) (G : MR m 0 F M) {h k : Int} (hh : 0 ≤ h ∧ h < F 0 1 0) (hk : 0 ≤ k ∧ k ≤ 9999) {φ : Nat} (hφ : 100 < φ) : ∃ M', fX11_wears φ m (iI h) (iI k) M = some (iI (k - (s_wear F h k).2), M') ∧ MR m 0 (s_wear F h k).1 M' ∧ Fr (Rg (m + 1) (m + 1)) M M' ∧ ∀ e : Int, e = 4 ∨ 280 ≤ e → M'.1 (m + 1) e.toNat = M.1 (m + 1) e.toNat := by
  have n1 := w.n1
  have nl := w.nl hh
  obtain ⟨M', a1, a2, a3, a4⟩ := m_wears8 (m := m) (h := h) (R := F 0 0 0) (by omega) hφ (k0 := k) 13 φ F k M (by omega) (by omega) (w.hw hh) hk.1 hk.2 G
  refine ⟨M', ?_, a2, a3, a4⟩
  unfold fX11_wears fX11_holeRow
  simp only [k_27, k_82, iI_mul, iI_add, sbind]
  exact a1
end MW
