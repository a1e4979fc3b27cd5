/-! rows poured, gaps filled -/
section PZ
variable {m : Nat} {T : TS} {M : Mem}
/-- rows lo to hi of the poured ones are in place -/
def t_pr (T : TS) (a p b q lo hi : Int) : TS := (T.1, T.2.1, fun x y => if x = b ∧ q + lo ≤ y ∧ y < q + hi then T.2.2 a (p + (y - q)) else T.2.2 x y)
theorem t_pr_v (T : TS) (a p b q lo hi x y : Int) : (t_pr T a p b q lo hi).2.2 x y = if x = b ∧ q + lo ≤ y ∧ y < q + hi then T.2.2 a (p + (y - q)) else T.2.2 x y := rfl
theorem t_put_v (T : TS) (a k v x y : Int) : (t_put T a k v).2.2 x y = if x = a ∧ y = k then v else T.2.2 x y := rfl
theorem TS_ext {T U : TS} (h1 : T.1 = U.1) (h2 : T.2.1 = U.2.1) (h3 : ∀ x y, T.2.2 x y = U.2.2 x y) : T = U := by
  obtain ⟨a, b, c⟩ := T
  obtain ⟨a', b', c'⟩ := U
  have h1 : a = a' := h1
  have h2 : b = b' := h2
  have h3 : c = c' := by funext x y; exact h3 x y
  rw [h1, h2, h3]
theorem t_pr_0 (T : TS) (a p b q lo : Int) : t_pr T a p b q lo lo = T := TS_ext rfl rfl fun x y => by
  rw [t_pr_v, if_neg (by omega)]
theorem t_pr_up (T : TS) {a p b q lo hi : Int} (h : lo ≤ hi) (hs : a = b → ¬ (q + lo ≤ p + hi ∧ p + hi < q + hi)) : t_put (t_pr T a p b q lo hi) b (q + hi) ((t_pr T a p b q lo hi).2.2 a (p + hi)) = t_pr T a p b q lo (hi + 1) := TS_ext rfl rfl fun x y => by
  have e0 : (t_pr T a p b q lo hi).2.2 a (p + hi) = T.2.2 a (p + hi) := by rw [t_pr_v, if_neg (fun c => hs c.1 c.2)]
  rw [e0, t_put_v, t_pr_v, t_pr_v]
  by_cases h1 : x = b ∧ y = q + hi
  · rw [if_pos h1, if_pos (by omega), h1.2, show p + (q + hi - q) = p + hi from by omega]
  · rw [if_neg h1]
    by_cases h2 : x = b ∧ q + lo ≤ y ∧ y < q + hi
    · rw [if_pos h2, if_pos (by omega)]
    · rw [if_neg h2, if_neg (by omega)]
theorem t_pr_dn (T : TS) {a p b q lo hi : Int} (h : lo ≤ hi) (hs : a = b → ¬ (q + lo ≤ p + (lo - 1) ∧ p + (lo - 1) < q + hi)) : t_put (t_pr T a p b q lo hi) b (q + (lo - 1)) ((t_pr T a p b q lo hi).2.2 a (p + (lo - 1))) = t_pr T a p b q (lo - 1) hi := TS_ext rfl rfl fun x y => by
  have e0 : (t_pr T a p b q lo hi).2.2 a (p + (lo - 1)) = T.2.2 a (p + (lo - 1)) := by rw [t_pr_v, if_neg (fun c => hs c.1 c.2)]
  rw [e0, t_put_v, t_pr_v, t_pr_v]
  by_cases h1 : x = b ∧ y = q + (lo - 1)
  · rw [if_pos h1, if_pos (by omega), h1.2, show p + (q + (lo - 1) - q) = p + (lo - 1) from by omega]
  · rw [if_neg h1]
    by_cases h2 : x = b ∧ q + lo ≤ y ∧ y < q + hi
    · rw [if_pos h2, if_pos (by omega)]
    · rw [if_neg h2, if_neg (by omega)]
theorem WT.pr (w : WT T) {a p b q lo hi : Int} (ha : 0 ≤ a ∧ a < 4) : WT (t_pr T a p b q lo hi) := fun x x0 x1 => by
  obtain ⟨h1, h2, h3⟩ := w x x0 x1
  refine ⟨h1, h2, fun y => ?_⟩
  rw [t_pr_v]
  by_cases hc : x = b ∧ q + lo ≤ y ∧ y < q + hi
  · rw [if_pos hc]; exact (w a ha.1 ha.2).2.2 _
  · rw [if_neg hc]; exact h3 y
theorem TC1.pr (h : TC1 T M) {a p b q n : Int} (ha : 0 ≤ a ∧ a < 4) (hb : 0 ≤ b ∧ b < 4) (hp : 0 ≤ p) (hq : 0 ≤ q) (hn : 0 ≤ n) (hpn : p + n ≤ T.2.1 a) : TC1 (t_pr T a p b q 0 n) (cpL M (78 + 2 * a.toNat + 1) (78 + 2 * b.toNat + 1) p.toNat q.toNat n.toNat) := fun x x0 x1 => by
  obtain ⟨h1, h2, h3⟩ := h x x0 x1
  refine ⟨h1, h2, fun y y0 y1 => ?_⟩
  have y1 : y < T.2.1 x := y1
  rw [t_pr_v]
  by_cases hc : x = b ∧ q + 0 ≤ y ∧ y < q + n
  · rw [if_pos hc, cl_at (by omega) (by omega), show p.toNat + (y.toNat - q.toNat) = (p + (y - q)).toNat from by omega]
    exact (h a ha.1 ha.2).2.2 _ (by omega) (by omega)
  · rw [if_neg hc]
    by_cases hx : x = b
    · rw [cl_nb (by omega)]; exact h3 y y0 y1
    · rw [cl_ng (by omega)]; exact h3 y y0 y1
theorem m_pour_l (w : WT T) {a p b q n : Int} (ha : 0 ≤ a ∧ a < 4) (hb : 0 ≤ b ∧ b < 4) (hp : 0 ≤ p) (hq : 0 ≤ q) (hn : 0 ≤ n) (hpn : p + n ≤ T.2.1 a) (hqn : q + n ≤ T.2.1 b) : ∀ (d : Nat) (i : Int) (M : Mem) (k : Nat), n - i = d → 0 ≤ i → d < k → TM1 m (if q ≤ p then t_pr T a p b q 0 i else t_pr T a p b q (n - i) n) M → ∃ M1, lX11_pour_118 m (iI a) (iI p) (iI b) (iI q) (iI n) k (iI i) M = some (iI 1, stI M1 m 2 (iI 0)) ∧ TM1 m (t_pr T a p b q 0 n) M1 ∧ Fr (Rg (m + 3) (m + 5)) M M1 := by
  have wa := (w a ha.1 ha.2).2.1
  have wb := (w b hb.1 hb.2).2.1
  intro d
  induction d with
  | zero =>
    intro i M k hd hi hk h
    obtain ⟨k, rfl⟩ : ∃ q, k = q + 1 := ⟨k - 1, by omega⟩
    refine ⟨M, ?_, ?_, Fr.refl M⟩
    · rw [lX11_pour_118]
      unfold fX11_is
      simp (disch := omega) only [iI_add, iI_sub, iI_mul, iI_neg, iI_nat, addm1, ixkI, ↓sbind, sbind, ↓bdS, bdS, ↓nm_eq, ↓jn_eq, iI_lt, iI_le, iI_eq, k_0, k_1, k_2, k_3, k_4, k_5, k_6, k_7, k_8, k_9, k_10, k_11, k_12, k_13, k_14, k_15, k_16, k_17, k_18, k_19, k_20, k_21, k_22, k_23, k_24, k_27, k_30, k_32, k_48, k_57, k_59, k_60, k_61, k_62, k_63, k_64, k_72, k_78, k_80, k_82, k_97, k_99, k_100, k_122, k_244, k_255, k_268, k_280, k_300, k_432, k_650, k_900, k_901, k_999, k_1700, k_2600, k_2601, k_2602, k_2603, k_2604, k_2610, k_2618, k_2682, k_2777, k_2844, k_2868, k_2880, k_3245, k_3250, k_9551, k_9999, k_65536, k_100000, k_999999, k_1000000, k_2147483647, lt_T, lt_F, le_T, le_F, eq_T, eq_F, ↓reduceIte, not_true_eq_false, not_false_eq_true, or_true, or_false, true_or, false_or, and_true, true_and, and_false, false_and, i01_b, if_true]
    · rw [show i = n from by omega, show n - n = 0 from by omega, ite_self] at h
      exact h
  | succ d ih =>
    intro i M k hd hi hk h
    obtain ⟨k, rfl⟩ : ∃ q, k = q + 1 := ⟨k - 1, by omega⟩
    by_cases hc : q ≤ p
    · rw [if_pos hc] at h
      have e1 := (h a ha.1 ha.2).2.2 (p + i) (by omega) (by show p + i < T.2.1 a; omega)
      have h' := h.put (w.pr ha) (a := b) (k := q + i) (v := (t_pr T a p b q 0 i).2.2 a (p + i)) hb (by omega)
      rw [t_pr_up T hi (by omega)] at h'
      obtain ⟨M1, r1, r2, r3⟩ := ih (i + 1) _ k (by omega) (by omega) (by omega) (by rw [if_pos hc]; exact h')
      refine ⟨M1, ?_, r2, (Fr.stL ⟨by omega, by omega⟩ (Fr.refl M)).trans r3⟩
      rw [show 60 * b + (q + i) = 60 * b + q + i from by omega] at r1
      rw [show 60 * a + (p + i) = 60 * a + p + i from by omega] at e1
      rw [lX11_pour_118]
      simp (disch := omega) only [iI_add, iI_sub, iI_mul, iI_neg, iI_nat, addm1, ixkI, ↓sbind, sbind, ↓bdS, bdS, ↓nm_eq, ↓jn_eq, iI_lt, iI_le, iI_eq, k_0, k_1, k_2, k_3, k_4, k_5, k_6, k_7, k_8, k_9, k_10, k_11, k_12, k_13, k_14, k_15, k_16, k_17, k_18, k_19, k_20, k_21, k_22, k_23, k_24, k_27, k_30, k_32, k_48, k_57, k_59, k_60, k_61, k_62, k_63, k_64, k_72, k_78, k_80, k_82, k_97, k_99, k_100, k_122, k_244, k_255, k_268, k_280, k_300, k_432, k_650, k_900, k_901, k_999, k_1700, k_2600, k_2601, k_2602, k_2603, k_2604, k_2610, k_2618, k_2682, k_2777, k_2844, k_2868, k_2880, k_3245, k_3250, k_9551, k_9999, k_65536, k_100000, k_999999, k_1000000, k_2147483647, lt_T, lt_F, le_T, le_F, eq_T, eq_F, ↓reduceIte, not_true_eq_false, not_false_eq_true, or_true, or_false, true_or, false_or, and_true, true_and, and_false, false_and, e1, r1]
    · rw [if_neg hc] at h
      have e1 := (h a ha.1 ha.2).2.2 (p + (n - i - 1)) (by omega) (by show p + (n - i - 1) < T.2.1 a; omega)
      have h' := h.put (w.pr ha) (a := b) (k := q + (n - i - 1)) (v := (t_pr T a p b q (n - i) n).2.2 a (p + (n - i - 1))) hb (by omega)
      rw [t_pr_dn T (by omega) (by omega)] at h'
      obtain ⟨M1, r1, r2, r3⟩ := ih (i + 1) _ k (by omega) (by omega) (by omega) (by rw [if_neg hc, show n - (i + 1) = n - i - 1 from by omega]; exact h')
      refine ⟨M1, ?_, r2, (Fr.stL ⟨by omega, by omega⟩ (Fr.refl M)).trans r3⟩
      rw [show 60 * b + (q + (n - i - 1)) = 60 * b + q + (n - 1 - i) from by omega] at r1
      rw [show 60 * a + (p + (n - i - 1)) = 60 * a + p + (n - 1 - i) from by omega] at e1
      rw [lX11_pour_118]
      simp (disch := omega) only [iI_add, iI_sub, iI_mul, iI_neg, iI_nat, addm1, ixkI, ↓sbind, sbind, ↓bdS, bdS, ↓nm_eq, ↓jn_eq, iI_lt, iI_le, iI_eq, k_0, k_1, k_2, k_3, k_4, k_5, k_6, k_7, k_8, k_9, k_10, k_11, k_12, k_13, k_14, k_15, k_16, k_17, k_18, k_19, k_20, k_21, k_22, k_23, k_24, k_27, k_30, k_32, k_48, k_57, k_59, k_60, k_61, k_62, k_63, k_64, k_72, k_78, k_80, k_82, k_97, k_99, k_100, k_122, k_244, k_255, k_268, k_280, k_300, k_432, k_650, k_900, k_901, k_999, k_1700, k_2600, k_2601, k_2602, k_2603, k_2604, k_2610, k_2618, k_2682, k_2777, k_2844, k_2868, k_2880, k_3245, k_3250, k_9551, k_9999, k_65536, k_100000, k_999999, k_1000000, k_2147483647, lt_T, lt_F, le_T, le_F, eq_T, eq_F, ↓reduceIte, not_true_eq_false, not_false_eq_true, or_true, or_false, true_or, false_or, and_true, true_and, and_false, false_and, e1, r1]
theorem tc_pour (w : WT T) {a p b q n : Int} (ha : -2147483648 ≤ a ∧ a < 2147483648) (hp : -2147483648 ≤ p ∧ p < 2147483648) (hb : -2147483648 ≤ b ∧ b < 2147483648) (hq : -2147483648 ≤ q ∧ q < 2147483648) (hn : -2147483648 ≤ n ∧ n < 2147483648) {φ : Nat} (hφ : 200 ≤ φ) : ∃ r st T', WT T' ∧ (∀ M, TC1 T M → ∃ M1, fX10_pour 0 (iI a) (iI p) (iI b) (iI q) (iI n) M = some (iI r, stI M1 0 0 (iI st)) ∧ TC1 T' M1 ∧ Fr (Rg 78 85) M M1) ∧ ∀ m M, TM1 m T M → ∃ M1, fX11_pour φ m (iI a) (iI p) (iI b) (iI q) (iI n) M = some (iI r, stI M1 m 2 (iI st)) ∧ TM1 m T' M1 ∧ Fr (Rg (m + 3) (m + 5)) M M1 := by
  by_cases h1 : 0 ≤ a ∧ a < 4
  · have wa := w a h1.1 h1.2
    by_cases h2 : 0 ≤ b ∧ b < 4
    · have wb := w b h2.1 h2.2
      by_cases h3 : 0 ≤ p
      · by_cases h4 : 0 ≤ q
        · by_cases h5 : 0 ≤ n
          · by_cases h6 : T.2.1 a = -1
            · refine ⟨0, 2, T, w, fun M h => ⟨M, ?_, h, Fr.refl M⟩, fun m M h => ⟨M, ?_, h, Fr.refl M⟩⟩
              · have e1 := c_missing w h h1
                rw [decide_eq_true h6] at e1
                unfold fX10_pour fX10_deny
                rw [c_isTray ha, c_isTray hb, s_in_t h1, s_in_t h2]
                simp (disch := omega) only [iI_add, iI_sub, iI_mul, iI_neg, iI_nat, addm1, ixkI, ↓sbind, sbind, ↓bdS, bdS, ↓nm_eq, ↓jn_eq, iI_lt, iI_le, iI_eq, k_0, k_1, k_2, k_3, k_4, k_5, k_6, k_7, k_8, k_9, k_10, k_11, k_12, k_13, k_14, k_15, k_16, k_17, k_18, k_19, k_20, k_21, k_22, k_23, k_24, k_27, k_30, k_32, k_48, k_57, k_59, k_60, k_61, k_62, k_63, k_64, k_72, k_78, k_80, k_82, k_97, k_99, k_100, k_122, k_244, k_255, k_268, k_280, k_300, k_432, k_650, k_900, k_901, k_999, k_1700, k_2600, k_2601, k_2602, k_2603, k_2604, k_2610, k_2618, k_2682, k_2777, k_2844, k_2868, k_2880, k_3245, k_3250, k_9551, k_9999, k_65536, k_100000, k_999999, k_1000000, k_2147483647, lt_T, lt_F, le_T, le_F, eq_T, eq_F, ↓reduceIte, not_true_eq_false, not_false_eq_true, or_true, or_false, true_or, false_or, and_true, true_and, and_false, false_and, srf_t, bI_t, e1, i01_a, if_true]
              · have e1 := (h a h1.1 h1.2).2.1
                unfold fX11_pour fX11_is
                rw [m_isTray ha, m_isTray hb, s_in_t h1, s_in_t h2]
                simp (disch := omega) only [iI_add, iI_sub, iI_mul, iI_neg, iI_nat, addm1, ixkI, ↓sbind, sbind, ↓bdS, bdS, ↓nm_eq, ↓jn_eq, iI_lt, iI_le, iI_eq, k_0, k_1, k_2, k_3, k_4, k_5, k_6, k_7, k_8, k_9, k_10, k_11, k_12, k_13, k_14, k_15, k_16, k_17, k_18, k_19, k_20, k_21, k_22, k_23, k_24, k_27, k_30, k_32, k_48, k_57, k_59, k_60, k_61, k_62, k_63, k_64, k_72, k_78, k_80, k_82, k_97, k_99, k_100, k_122, k_244, k_255, k_268, k_280, k_300, k_432, k_650, k_900, k_901, k_999, k_1700, k_2600, k_2601, k_2602, k_2603, k_2604, k_2610, k_2618, k_2682, k_2777, k_2844, k_2868, k_2880, k_3245, k_3250, k_9551, k_9999, k_65536, k_100000, k_999999, k_1000000, k_2147483647, lt_T, lt_F, le_T, le_F, eq_T, eq_F, ↓reduceIte, not_true_eq_false, not_false_eq_true, or_true, or_false, true_or, false_or, and_true, true_and, and_false, false_and, bI_t, e1, i01_a, if_true]
            · by_cases h7 : T.2.1 b = -1
              · refine ⟨0, 2, T, w, fun M h => ⟨M, ?_, h, Fr.refl M⟩, fun m M h => ⟨M, ?_, h, Fr.refl M⟩⟩
                · have e1 := c_missing w h h1
                  have e2 := c_missing w h h2
                  rw [decide_eq_false h6] at e1
                  rw [decide_eq_true h7] at e2
                  unfold fX10_pour fX10_deny
                  rw [c_isTray ha, c_isTray hb, s_in_t h1, s_in_t h2]
                  simp (disch := omega) only [iI_add, iI_sub, iI_mul, iI_neg, iI_nat, addm1, ixkI, ↓sbind, sbind, ↓bdS, bdS, ↓nm_eq, ↓jn_eq, iI_lt, iI_le, iI_eq, k_0, k_1, k_2, k_3, k_4, k_5, k_6, k_7, k_8, k_9, k_10, k_11, k_12, k_13, k_14, k_15, k_16, k_17, k_18, k_19, k_20, k_21, k_22, k_23, k_24, k_27, k_30, k_32, k_48, k_57, k_59, k_60, k_61, k_62, k_63, k_64, k_72, k_78, k_80, k_82, k_97, k_99, k_100, k_122, k_244, k_255, k_268, k_280, k_300, k_432, k_650, k_900, k_901, k_999, k_1700, k_2600, k_2601, k_2602, k_2603, k_2604, k_2610, k_2618, k_2682, k_2777, k_2844, k_2868, k_2880, k_3245, k_3250, k_9551, k_9999, k_65536, k_100000, k_999999, k_1000000, k_2147483647, lt_T, lt_F, le_T, le_F, eq_T, eq_F, ↓reduceIte, not_true_eq_false, not_false_eq_true, or_true, or_false, true_or, false_or, and_true, true_and, and_false, false_and, srf_t, bI_t, bI_f, e1, e2, i01_a, if_true]
                · have e1 := (h a h1.1 h1.2).2.1
                  have e2 := (h b h2.1 h2.2).2.1
                  unfold fX11_pour fX11_is
                  rw [m_isTray ha, m_isTray hb, s_in_t h1, s_in_t h2]
                  simp (disch := omega) only [iI_add, iI_sub, iI_mul, iI_neg, iI_nat, addm1, ixkI, ↓sbind, sbind, ↓bdS, bdS, ↓nm_eq, ↓jn_eq, iI_lt, iI_le, iI_eq, k_0, k_1, k_2, k_3, k_4, k_5, k_6, k_7, k_8, k_9, k_10, k_11, k_12, k_13, k_14, k_15, k_16, k_17, k_18, k_19, k_20, k_21, k_22, k_23, k_24, k_27, k_30, k_32, k_48, k_57, k_59, k_60, k_61, k_62, k_63, k_64, k_72, k_78, k_80, k_82, k_97, k_99, k_100, k_122, k_244, k_255, k_268, k_280, k_300, k_432, k_650, k_900, k_901, k_999, k_1700, k_2600, k_2601, k_2602, k_2603, k_2604, k_2610, k_2618, k_2682, k_2777, k_2844, k_2868, k_2880, k_3245, k_3250, k_9551, k_9999, k_65536, k_100000, k_999999, k_1000000, k_2147483647, lt_T, lt_F, le_T, le_F, eq_T, eq_F, ↓reduceIte, not_true_eq_false, not_false_eq_true, or_true, or_false, true_or, false_or, and_true, true_and, and_false, false_and, bI_t, e1, e2, i01_a, if_true]
              · by_cases h8 : T.1 a = T.1 b
                · by_cases h9 : p + n ≤ T.2.1 a
                  · by_cases h10 : q + n ≤ T.2.1 b
                    · refine ⟨1, 0, t_pr T a p b q 0 n, w.pr h1, fun M h => ⟨cpL M (78 + 2 * a.toNat + 1) (78 + 2 * b.toNat + 1) p.toNat q.toNat n.toNat, ?_, h.pr h1 h2 h3 h4 h5 h9, Fr.cpL ⟨by omega, by omega⟩ (Fr.refl M)⟩, fun m M h => ?_⟩
                      · have e1 := c_missing w h h1
                        have e2 := c_missing w h h2
                        have e3 := c_hasRow w h (p := p) (l := n) h1 hp hn
                        have e4 := c_hasRow w h (p := q) (l := n) h2 hq hn
                        have e5 := (h a h1.1 h1.2).1
                        have e6 := (h b h2.1 h2.2).1
                        rw [decide_eq_false h6] at e1
                        rw [decide_eq_false h7] at e2
                        rw [decide_eq_true (by omega)] at e3 e4
                        unfold fX10_pour fX10_grant
                        rw [c_isTray ha, c_isTray hb, s_in_t h1, s_in_t h2, cpk_in (by omega)]
                        simp (disch := omega) only [iI_add, iI_sub, iI_mul, iI_neg, iI_nat, addm1, ixkI, ↓sbind, sbind, ↓bdS, bdS, ↓nm_eq, ↓jn_eq, iI_lt, iI_le, iI_eq, k_0, k_1, k_2, k_3, k_4, k_5, k_6, k_7, k_8, k_9, k_10, k_11, k_12, k_13, k_14, k_15, k_16, k_17, k_18, k_19, k_20, k_21, k_22, k_23, k_24, k_27, k_30, k_32, k_48, k_57, k_59, k_60, k_61, k_62, k_63, k_64, k_72, k_78, k_80, k_82, k_97, k_99, k_100, k_122, k_244, k_255, k_268, k_280, k_300, k_432, k_650, k_900, k_901, k_999, k_1700, k_2600, k_2601, k_2602, k_2603, k_2604, k_2610, k_2618, k_2682, k_2777, k_2844, k_2868, k_2880, k_3245, k_3250, k_9551, k_9999, k_65536, k_100000, k_999999, k_1000000, k_2147483647, lt_T, lt_F, le_T, le_F, eq_T, eq_F, ↓reduceIte, not_true_eq_false, not_false_eq_true, or_true, or_false, true_or, false_or, and_true, true_and, and_false, false_and, srf_t, bI_t, bI_f, e1, e2, e3, e4, e5, e6, i01_b, if_true]
                      · have e1 := (h a h1.1 h1.2).2.1
                        have e2 := (h b h2.1 h2.2).2.1
                        have e5 := (h a h1.1 h1.2).1
                        have e6 := (h b h2.1 h2.2).1
                        obtain ⟨M1, r1, r2, r3⟩ := m_pour_l (m := m) (p := p) (q := q) w h1 h2 h3 h4 h5 h9 h10 n.toNat 0 M φ (by omega) (by omega) (by omega) (by
                          rw [show n - 0 = n from by omega, t_pr_0, t_pr_0, ite_self]; exact h)
                        refine ⟨M1, ?_, r2, r3⟩
                        unfold fX11_pour
                        rw [m_isTray ha, m_isTray hb, s_in_t h1, s_in_t h2]
                        simp (disch := omega) only [iI_add, iI_sub, iI_mul, iI_neg, iI_nat, addm1, ixkI, ↓sbind, sbind, ↓bdS, bdS, ↓nm_eq, ↓jn_eq, iI_lt, iI_le, iI_eq, k_0, k_1, k_2, k_3, k_4, k_5, k_6, k_7, k_8, k_9, k_10, k_11, k_12, k_13, k_14, k_15, k_16, k_17, k_18, k_19, k_20, k_21, k_22, k_23, k_24, k_27, k_30, k_32, k_48, k_57, k_59, k_60, k_61, k_62, k_63, k_64, k_72, k_78, k_80, k_82, k_97, k_99, k_100, k_122, k_244, k_255, k_268, k_280, k_300, k_432, k_650, k_900, k_901, k_999, k_1700, k_2600, k_2601, k_2602, k_2603, k_2604, k_2610, k_2618, k_2682, k_2777, k_2844, k_2868, k_2880, k_3245, k_3250, k_9551, k_9999, k_65536, k_100000, k_999999, k_1000000, k_2147483647, lt_T, lt_F, le_T, le_F, eq_T, eq_F, ↓reduceIte, not_true_eq_false, not_false_eq_true, or_true, or_false, true_or, false_or, and_true, true_and, and_false, false_and, bI_t, e1, e2, e5, e6, r1]
                    · refine ⟨0, 3, T, w, fun M h => ⟨M, ?_, h, Fr.refl M⟩, fun m M h => ⟨M, ?_, h, Fr.refl M⟩⟩
                      · have e1 := c_missing w h h1
                        have e2 := c_missing w h h2
                        have e3 := c_hasRow w h (p := p) (l := n) h1 hp hn
                        have e4 := c_hasRow w h (p := q) (l := n) h2 hq hn
                        have e5 := (h a h1.1 h1.2).1
                        have e6 := (h b h2.1 h2.2).1
                        rw [decide_eq_false h6] at e1
                        rw [decide_eq_false h7] at e2
                        rw [decide_eq_true (by omega)] at e3
                        rw [decide_eq_false (by omega)] at e4
                        unfold fX10_pour fX10_deny
                        rw [c_isTray ha, c_isTray hb, s_in_t h1, s_in_t h2]
                        simp (disch := omega) only [iI_add, iI_sub, iI_mul, iI_neg, iI_nat, addm1, ixkI, ↓sbind, sbind, ↓bdS, bdS, ↓nm_eq, ↓jn_eq, iI_lt, iI_le, iI_eq, k_0, k_1, k_2, k_3, k_4, k_5, k_6, k_7, k_8, k_9, k_10, k_11, k_12, k_13, k_14, k_15, k_16, k_17, k_18, k_19, k_20, k_21, k_22, k_23, k_24, k_27, k_30, k_32, k_48, k_57, k_59, k_60, k_61, k_62, k_63, k_64, k_72, k_78, k_80, k_82, k_97, k_99, k_100, k_122, k_244, k_255, k_268, k_280, k_300, k_432, k_650, k_900, k_901, k_999, k_1700, k_2600, k_2601, k_2602, k_2603, k_2604, k_2610, k_2618, k_2682, k_2777, k_2844, k_2868, k_2880, k_3245, k_3250, k_9551, k_9999, k_65536, k_100000, k_999999, k_1000000, k_2147483647, lt_T, lt_F, le_T, le_F, eq_T, eq_F, ↓reduceIte, not_true_eq_false, not_false_eq_true, or_true, or_false, true_or, false_or, and_true, true_and, and_false, false_and, srf_t, bI_t, bI_f, e1, e2, e3, e4, e5, e6, i01_a, if_true]
                      · have e1 := (h a h1.1 h1.2).2.1
                        have e2 := (h b h2.1 h2.2).2.1
                        have e5 := (h a h1.1 h1.2).1
                        have e6 := (h b h2.1 h2.2).1
                        unfold fX11_pour fX11_is
                        rw [m_isTray ha, m_isTray hb, s_in_t h1, s_in_t h2]
                        simp (disch := omega) only [iI_add, iI_sub, iI_mul, iI_neg, iI_nat, addm1, ixkI, ↓sbind, sbind, ↓bdS, bdS, ↓nm_eq, ↓jn_eq, iI_lt, iI_le, iI_eq, k_0, k_1, k_2, k_3, k_4, k_5, k_6, k_7, k_8, k_9, k_10, k_11, k_12, k_13, k_14, k_15, k_16, k_17, k_18, k_19, k_20, k_21, k_22, k_23, k_24, k_27, k_30, k_32, k_48, k_57, k_59, k_60, k_61, k_62, k_63, k_64, k_72, k_78, k_80, k_82, k_97, k_99, k_100, k_122, k_244, k_255, k_268, k_280, k_300, k_432, k_650, k_900, k_901, k_999, k_1700, k_2600, k_2601, k_2602, k_2603, k_2604, k_2610, k_2618, k_2682, k_2777, k_2844, k_2868, k_2880, k_3245, k_3250, k_9551, k_9999, k_65536, k_100000, k_999999, k_1000000, k_2147483647, lt_T, lt_F, le_T, le_F, eq_T, eq_F, ↓reduceIte, not_true_eq_false, not_false_eq_true, or_true, or_false, true_or, false_or, and_true, true_and, and_false, false_and, bI_t, e1, e2, e5, e6, i01_a, if_true]
                  · refine ⟨0, 3, T, w, fun M h => ⟨M, ?_, h, Fr.refl M⟩, fun m M h => ⟨M, ?_, h, Fr.refl M⟩⟩
                    · have e1 := c_missing w h h1
                      have e2 := c_missing w h h2
                      have e3 := c_hasRow w h (p := p) (l := n) h1 hp hn
                      have e5 := (h a h1.1 h1.2).1
                      have e6 := (h b h2.1 h2.2).1
                      rw [decide_eq_false h6] at e1
                      rw [decide_eq_false h7] at e2
                      rw [decide_eq_false (by omega)] at e3
                      unfold fX10_pour fX10_deny
                      rw [c_isTray ha, c_isTray hb, s_in_t h1, s_in_t h2]
                      simp (disch := omega) only [iI_add, iI_sub, iI_mul, iI_neg, iI_nat, addm1, ixkI, ↓sbind, sbind, ↓bdS, bdS, ↓nm_eq, ↓jn_eq, iI_lt, iI_le, iI_eq, k_0, k_1, k_2, k_3, k_4, k_5, k_6, k_7, k_8, k_9, k_10, k_11, k_12, k_13, k_14, k_15, k_16, k_17, k_18, k_19, k_20, k_21, k_22, k_23, k_24, k_27, k_30, k_32, k_48, k_57, k_59, k_60, k_61, k_62, k_63, k_64, k_72, k_78, k_80, k_82, k_97, k_99, k_100, k_122, k_244, k_255, k_268, k_280, k_300, k_432, k_650, k_900, k_901, k_999, k_1700, k_2600, k_2601, k_2602, k_2603, k_2604, k_2610, k_2618, k_2682, k_2777, k_2844, k_2868, k_2880, k_3245, k_3250, k_9551, k_9999, k_65536, k_100000, k_999999, k_1000000, k_2147483647, lt_T, lt_F, le_T, le_F, eq_T, eq_F, ↓reduceIte, not_true_eq_false, not_false_eq_true, or_true, or_false, true_or, false_or, and_true, true_and, and_false, false_and, srf_t, bI_t, bI_f, e1, e2, e3, e5, e6, i01_a, if_true]
                    · have e1 := (h a h1.1 h1.2).2.1
                      have e2 := (h b h2.1 h2.2).2.1
                      have e5 := (h a h1.1 h1.2).1
                      have e6 := (h b h2.1 h2.2).1
                      unfold fX11_pour fX11_is
                      rw [m_isTray ha, m_isTray hb, s_in_t h1, s_in_t h2]
                      simp (disch := omega) only [iI_add, iI_sub, iI_mul, iI_neg, iI_nat, addm1, ixkI, ↓sbind, sbind, ↓bdS, bdS, ↓nm_eq, ↓jn_eq, iI_lt, iI_le, iI_eq, k_0, k_1, k_2, k_3, k_4, k_5, k_6, k_7, k_8, k_9, k_10, k_11, k_12, k_13, k_14, k_15, k_16, k_17, k_18, k_19, k_20, k_21, k_22, k_23, k_24, k_27, k_30, k_32, k_48, k_57, k_59, k_60, k_61, k_62, k_63, k_64, k_72, k_78, k_80, k_82, k_97, k_99, k_100, k_122, k_244, k_255, k_268, k_280, k_300, k_432, k_650, k_900, k_901, k_999, k_1700, k_2600, k_2601, k_2602, k_2603, k_2604, k_2610, k_2618, k_2682, k_2777, k_2844, k_2868, k_2880, k_3245, k_3250, k_9551, k_9999, k_65536, k_100000, k_999999, k_1000000, k_2147483647, lt_T, lt_F, le_T, le_F, eq_T, eq_F, ↓reduceIte, not_true_eq_false, not_false_eq_true, or_true, or_false, true_or, false_or, and_true, true_and, and_false, false_and, bI_t, e1, e2, e5, e6, i01_a, if_true]
                · refine ⟨0, 8, T, w, fun M h => ⟨M, ?_, h, Fr.refl M⟩, fun m M h => ⟨M, ?_, h, Fr.refl M⟩⟩
                  · have e1 := c_missing w h h1
                    have e2 := c_missing w h h2
                    have e5 := (h a h1.1 h1.2).1
                    have e6 := (h b h2.1 h2.2).1
                    rw [decide_eq_false h6] at e1
                    rw [decide_eq_false h7] at e2
                    unfold fX10_pour fX10_deny
                    rw [c_isTray ha, c_isTray hb, s_in_t h1, s_in_t h2]
                    simp (disch := omega) only [iI_add, iI_sub, iI_mul, iI_neg, iI_nat, addm1, ixkI, ↓sbind, sbind, ↓bdS, bdS, ↓nm_eq, ↓jn_eq, iI_lt, iI_le, iI_eq, k_0, k_1, k_2, k_3, k_4, k_5, k_6, k_7, k_8, k_9, k_10, k_11, k_12, k_13, k_14, k_15, k_16, k_17, k_18, k_19, k_20, k_21, k_22, k_23, k_24, k_27, k_30, k_32, k_48, k_57, k_59, k_60, k_61, k_62, k_63, k_64, k_72, k_78, k_80, k_82, k_97, k_99, k_100, k_122, k_244, k_255, k_268, k_280, k_300, k_432, k_650, k_900, k_901, k_999, k_1700, k_2600, k_2601, k_2602, k_2603, k_2604, k_2610, k_2618, k_2682, k_2777, k_2844, k_2868, k_2880, k_3245, k_3250, k_9551, k_9999, k_65536, k_100000, k_999999, k_1000000, k_2147483647, lt_T, lt_F, le_T, le_F, eq_T, eq_F, ↓reduceIte, not_true_eq_false, not_false_eq_true, or_true, or_false, true_or, false_or, and_true, true_and, and_false, false_and, srf_t, bI_t, bI_f, e1, e2, e5, e6, i01_a, if_true]
                  · have e1 := (h a h1.1 h1.2).2.1
                    have e2 := (h b h2.1 h2.2).2.1
                    have e5 := (h a h1.1 h1.2).1
                    have e6 := (h b h2.1 h2.2).1
                    unfold fX11_pour fX11_is
                    rw [m_isTray ha, m_isTray hb, s_in_t h1, s_in_t h2]
                    simp (disch := omega) only [iI_add, iI_sub, iI_mul, iI_neg, iI_nat, addm1, ixkI, ↓sbind, sbind, ↓bdS, bdS, ↓nm_eq, ↓jn_eq, iI_lt, iI_le, iI_eq, k_0, k_1, k_2, k_3, k_4, k_5, k_6, k_7, k_8, k_9, k_10, k_11, k_12, k_13, k_14, k_15, k_16, k_17, k_18, k_19, k_20, k_21, k_22, k_23, k_24, k_27, k_30, k_32, k_48, k_57, k_59, k_60, k_61, k_62, k_63, k_64, k_72, k_78, k_80, k_82, k_97, k_99, k_100, k_122, k_244, k_255, k_268, k_280, k_300, k_432, k_650, k_900, k_901, k_999, k_1700, k_2600, k_2601, k_2602, k_2603, k_2604, k_2610, k_2618, k_2682, k_2777, k_2844, k_2868, k_2880, k_3245, k_3250, k_9551, k_9999, k_65536, k_100000, k_999999, k_1000000, k_2147483647, lt_T, lt_F, le_T, le_F, eq_T, eq_F, ↓reduceIte, not_true_eq_false, not_false_eq_true, or_true, or_false, true_or, false_or, and_true, true_and, and_false, false_and, bI_t, e1, e2, e5, e6, i01_a, if_true]
          · refine ⟨0, 1, T, w, fun M h => ⟨M, ?_, h, Fr.refl M⟩, fun m M h => ⟨M, ?_, h, Fr.refl M⟩⟩
            · unfold fX10_pour fX10_deny
              rw [c_isTray ha, c_isTray hb, s_in_t h1, s_in_t h2]
              simp (disch := omega) only [iI_add, iI_sub, iI_mul, iI_neg, iI_nat, addm1, ixkI, ↓sbind, sbind, ↓bdS, bdS, ↓nm_eq, ↓jn_eq, iI_lt, iI_le, iI_eq, k_0, k_1, k_2, k_3, k_4, k_5, k_6, k_7, k_8, k_9, k_10, k_11, k_12, k_13, k_14, k_15, k_16, k_17, k_18, k_19, k_20, k_21, k_22, k_23, k_24, k_27, k_30, k_32, k_48, k_57, k_59, k_60, k_61, k_62, k_63, k_64, k_72, k_78, k_80, k_82, k_97, k_99, k_100, k_122, k_244, k_255, k_268, k_280, k_300, k_432, k_650, k_900, k_901, k_999, k_1700, k_2600, k_2601, k_2602, k_2603, k_2604, k_2610, k_2618, k_2682, k_2777, k_2844, k_2868, k_2880, k_3245, k_3250, k_9551, k_9999, k_65536, k_100000, k_999999, k_1000000, k_2147483647, lt_T, lt_F, le_T, le_F, eq_T, eq_F, ↓reduceIte, not_true_eq_false, not_false_eq_true, or_true, or_false, true_or, false_or, and_true, true_and, and_false, false_and, bI_t, i01_a, if_true]
            · unfold fX11_pour fX11_is
              rw [m_isTray ha, m_isTray hb, s_in_t h1, s_in_t h2]
              simp (disch := omega) only [iI_add, iI_sub, iI_mul, iI_neg, iI_nat, addm1, ixkI, ↓sbind, sbind, ↓bdS, bdS, ↓nm_eq, ↓jn_eq, iI_lt, iI_le, iI_eq, k_0, k_1, k_2, k_3, k_4, k_5, k_6, k_7, k_8, k_9, k_10, k_11, k_12, k_13, k_14, k_15, k_16, k_17, k_18, k_19, k_20, k_21, k_22, k_23, k_24, k_27, k_30, k_32, k_48, k_57, k_59, k_60, k_61, k_62, k_63, k_64, k_72, k_78, k_80, k_82, k_97, k_99, k_100, k_122, k_244, k_255, k_268, k_280, k_300, k_432, k_650, k_900, k_901, k_999, k_1700, k_2600, k_2601, k_2602, k_2603, k_2604, k_2610, k_2618, k_2682, k_2777, k_2844, k_2868, k_2880, k_3245, k_3250, k_9551, k_9999, k_65536, k_100000, k_999999, k_1000000, k_2147483647, lt_T, lt_F, le_T, le_F, eq_T, eq_F, ↓reduceIte, not_true_eq_false, not_false_eq_true, or_true, or_false, true_or, false_or, and_true, true_and, and_false, false_and, bI_t, i01_a, if_true]
        · refine ⟨0, 1, T, w, fun M h => ⟨M, ?_, h, Fr.refl M⟩, fun m M h => ⟨M, ?_, h, Fr.refl M⟩⟩
          · unfold fX10_pour fX10_deny
            rw [c_isTray ha, c_isTray hb, s_in_t h1, s_in_t h2]
            simp (disch := omega) only [iI_add, iI_sub, iI_mul, iI_neg, iI_nat, addm1, ixkI, ↓sbind, sbind, ↓bdS, bdS, ↓nm_eq, ↓jn_eq, iI_lt, iI_le, iI_eq, k_0, k_1, k_2, k_3, k_4, k_5, k_6, k_7, k_8, k_9, k_10, k_11, k_12, k_13, k_14, k_15, k_16, k_17, k_18, k_19, k_20, k_21, k_22, k_23, k_24, k_27, k_30, k_32, k_48, k_57, k_59, k_60, k_61, k_62, k_63, k_64, k_72, k_78, k_80, k_82, k_97, k_99, k_100, k_122, k_244, k_255, k_268, k_280, k_300, k_432, k_650, k_900, k_901, k_999, k_1700, k_2600, k_2601, k_2602, k_2603, k_2604, k_2610, k_2618, k_2682, k_2777, k_2844, k_2868, k_2880, k_3245, k_3250, k_9551, k_9999, k_65536, k_100000, k_999999, k_1000000, k_2147483647, lt_T, lt_F, le_T, le_F, eq_T, eq_F, ↓reduceIte, not_true_eq_false, not_false_eq_true, or_true, or_false, true_or, false_or, and_true, true_and, and_false, false_and, bI_t, i01_a, if_true]
          · unfold fX11_pour fX11_is
            rw [m_isTray ha, m_isTray hb, s_in_t h1, s_in_t h2]
            simp (disch := omega) only [iI_add, iI_sub, iI_mul, iI_neg, iI_nat, addm1, ixkI, ↓sbind, sbind, ↓bdS, bdS, ↓nm_eq, ↓jn_eq, iI_lt, iI_le, iI_eq, k_0, k_1, k_2, k_3, k_4, k_5, k_6, k_7, k_8, k_9, k_10, k_11, k_12, k_13, k_14, k_15, k_16, k_17, k_18, k_19, k_20, k_21, k_22, k_23, k_24, k_27, k_30, k_32, k_48, k_57, k_59, k_60, k_61, k_62, k_63, k_64, k_72, k_78, k_80, k_82, k_97, k_99, k_100, k_122, k_244, k_255, k_268, k_280, k_300, k_432, k_650, k_900, k_901, k_999, k_1700, k_2600, k_2601, k_2602, k_2603, k_2604, k_2610, k_2618, k_2682, k_2777, k_2844, k_2868, k_2880, k_3245, k_3250, k_9551, k_9999, k_65536, k_100000, k_999999, k_1000000, k_2147483647, lt_T, lt_F, le_T, le_F, eq_T, eq_F, ↓reduceIte, not_true_eq_false, not_false_eq_true, or_true, or_false, true_or, false_or, and_true, true_and, and_false, false_and, bI_t, i01_a, if_true]
      · refine ⟨0, 1, T, w, fun M h => ⟨M, ?_, h, Fr.refl M⟩, fun m M h => ⟨M, ?_, h, Fr.refl M⟩⟩
        · unfold fX10_pour fX10_deny
          rw [c_isTray ha, c_isTray hb, s_in_t h1, s_in_t h2]
          simp (disch := omega) only [iI_add, iI_sub, iI_mul, iI_neg, iI_nat, addm1, ixkI, ↓sbind, sbind, ↓bdS, bdS, ↓nm_eq, ↓jn_eq, iI_lt, iI_le, iI_eq, k_0, k_1, k_2, k_3, k_4, k_5, k_6, k_7, k_8, k_9, k_10, k_11, k_12, k_13, k_14, k_15, k_16, k_17, k_18, k_19, k_20, k_21, k_22, k_23, k_24, k_27, k_30, k_32, k_48, k_57, k_59, k_60, k_61, k_62, k_63, k_64, k_72, k_78, k_80, k_82, k_97, k_99, k_100, k_122, k_244, k_255, k_268, k_280, k_300, k_432, k_650, k_900, k_901, k_999, k_1700, k_2600, k_2601, k_2602, k_2603, k_2604, k_2610, k_2618, k_2682, k_2777, k_2844, k_2868, k_2880, k_3245, k_3250, k_9551, k_9999, k_65536, k_100000, k_999999, k_1000000, k_2147483647, lt_T, lt_F, le_T, le_F, eq_T, eq_F, ↓reduceIte, not_true_eq_false, not_false_eq_true, or_true, or_false, true_or, false_or, and_true, true_and, and_false, false_and, bI_t, i01_a, if_true]
        · unfold fX11_pour fX11_is
          rw [m_isTray ha, m_isTray hb, s_in_t h1, s_in_t h2]
          simp (disch := omega) only [iI_add, iI_sub, iI_mul, iI_neg, iI_nat, addm1, ixkI, ↓sbind, sbind, ↓bdS, bdS, ↓nm_eq, ↓jn_eq, iI_lt, iI_le, iI_eq, k_0, k_1, k_2, k_3, k_4, k_5, k_6, k_7, k_8, k_9, k_10, k_11, k_12, k_13, k_14, k_15, k_16, k_17, k_18, k_19, k_20, k_21, k_22, k_23, k_24, k_27, k_30, k_32, k_48, k_57, k_59, k_60, k_61, k_62, k_63, k_64, k_72, k_78, k_80, k_82, k_97, k_99, k_100, k_122, k_244, k_255, k_268, k_280, k_300, k_432, k_650, k_900, k_901, k_999, k_1700, k_2600, k_2601, k_2602, k_2603, k_2604, k_2610, k_2618, k_2682, k_2777, k_2844, k_2868, k_2880, k_3245, k_3250, k_9551, k_9999, k_65536, k_100000, k_999999, k_1000000, k_2147483647, lt_T, lt_F, le_T, le_F, eq_T, eq_F, ↓reduceIte, not_true_eq_false, not_false_eq_true, or_true, or_false, true_or, false_or, and_true, true_and, and_false, false_and, bI_t, i01_a, if_true]
    · refine ⟨0, 1, T, w, fun M h => ⟨M, ?_, h, Fr.refl M⟩, fun m M h => ⟨M, ?_, h, Fr.refl M⟩⟩
      · unfold fX10_pour fX10_deny
        rw [c_isTray ha, c_isTray hb, s_in_t h1, s_in_f h2]
        simp (disch := omega) only [iI_add, iI_sub, iI_mul, iI_neg, iI_nat, addm1, ixkI, ↓sbind, sbind, ↓bdS, bdS, ↓nm_eq, ↓jn_eq, iI_lt, iI_le, iI_eq, k_0, k_1, k_2, k_3, k_4, k_5, k_6, k_7, k_8, k_9, k_10, k_11, k_12, k_13, k_14, k_15, k_16, k_17, k_18, k_19, k_20, k_21, k_22, k_23, k_24, k_27, k_30, k_32, k_48, k_57, k_59, k_60, k_61, k_62, k_63, k_64, k_72, k_78, k_80, k_82, k_97, k_99, k_100, k_122, k_244, k_255, k_268, k_280, k_300, k_432, k_650, k_900, k_901, k_999, k_1700, k_2600, k_2601, k_2602, k_2603, k_2604, k_2610, k_2618, k_2682, k_2777, k_2844, k_2868, k_2880, k_3245, k_3250, k_9551, k_9999, k_65536, k_100000, k_999999, k_1000000, k_2147483647, lt_T, lt_F, le_T, le_F, eq_T, eq_F, ↓reduceIte, not_true_eq_false, not_false_eq_true, or_true, or_false, true_or, false_or, and_true, true_and, and_false, false_and, bI_t, bI_f, i01_a, if_true]
      · unfold fX11_pour fX11_is
        rw [m_isTray ha, m_isTray hb, s_in_t h1, s_in_f h2]
        simp (disch := omega) only [iI_add, iI_sub, iI_mul, iI_neg, iI_nat, addm1, ixkI, ↓sbind, sbind, ↓bdS, bdS, ↓nm_eq, ↓jn_eq, iI_lt, iI_le, iI_eq, k_0, k_1, k_2, k_3, k_4, k_5, k_6, k_7, k_8, k_9, k_10, k_11, k_12, k_13, k_14, k_15, k_16, k_17, k_18, k_19, k_20, k_21, k_22, k_23, k_24, k_27, k_30, k_32, k_48, k_57, k_59, k_60, k_61, k_62, k_63, k_64, k_72, k_78, k_80, k_82, k_97, k_99, k_100, k_122, k_244, k_255, k_268, k_280, k_300, k_432, k_650, k_900, k_901, k_999, k_1700, k_2600, k_2601, k_2602, k_2603, k_2604, k_2610, k_2618, k_2682, k_2777, k_2844, k_2868, k_2880, k_3245, k_3250, k_9551, k_9999, k_65536, k_100000, k_999999, k_1000000, k_2147483647, lt_T, lt_F, le_T, le_F, eq_T, eq_F, ↓reduceIte, not_true_eq_false, not_false_eq_true, or_true, or_false, true_or, false_or, and_true, true_and, and_false, false_and, bI_t, bI_f, i01_a, if_true]
  · refine ⟨0, 1, T, w, fun M h => ⟨M, ?_, h, Fr.refl M⟩, fun m M h => ⟨M, ?_, h, Fr.refl M⟩⟩
    · unfold fX10_pour fX10_deny
      rw [c_isTray ha, s_in_f h1]
      simp (disch := omega) only [iI_add, iI_sub, iI_mul, iI_neg, iI_nat, addm1, ixkI, ↓sbind, sbind, ↓bdS, bdS, ↓nm_eq, ↓jn_eq, iI_lt, iI_le, iI_eq, k_0, k_1, k_2, k_3, k_4, k_5, k_6, k_7, k_8, k_9, k_10, k_11, k_12, k_13, k_14, k_15, k_16, k_17, k_18, k_19, k_20, k_21, k_22, k_23, k_24, k_27, k_30, k_32, k_48, k_57, k_59, k_60, k_61, k_62, k_63, k_64, k_72, k_78, k_80, k_82, k_97, k_99, k_100, k_122, k_244, k_255, k_268, k_280, k_300, k_432, k_650, k_900, k_901, k_999, k_1700, k_2600, k_2601, k_2602, k_2603, k_2604, k_2610, k_2618, k_2682, k_2777, k_2844, k_2868, k_2880, k_3245, k_3250, k_9551, k_9999, k_65536, k_100000, k_999999, k_1000000, k_2147483647, lt_T, lt_F, le_T, le_F, eq_T, eq_F, ↓reduceIte, not_true_eq_false, not_false_eq_true, or_true, or_false, true_or, false_or, and_true, true_and, and_false, false_and, bI_f, i01_a, if_true]
    · unfold fX11_pour fX11_is
      rw [m_isTray ha, s_in_f h1]
      simp (disch := omega) only [iI_add, iI_sub, iI_mul, iI_neg, iI_nat, addm1, ixkI, ↓sbind, sbind, ↓bdS, bdS, ↓nm_eq, ↓jn_eq, iI_lt, iI_le, iI_eq, k_0, k_1, k_2, k_3, k_4, k_5, k_6, k_7, k_8, k_9, k_10, k_11, k_12, k_13, k_14, k_15, k_16, k_17, k_18, k_19, k_20, k_21, k_22, k_23, k_24, k_27, k_30, k_32, k_48, k_57, k_59, k_60, k_61, k_62, k_63, k_64, k_72, k_78, k_80, k_82, k_97, k_99, k_100, k_122, k_244, k_255, k_268, k_280, k_300, k_432, k_650, k_900, k_901, k_999, k_1700, k_2600, k_2601, k_2602, k_2603, k_2604, k_2610, k_2618, k_2682, k_2777, k_2844, k_2868, k_2880, k_3245, k_3250, k_9551, k_9999, k_65536, k_100000, k_999999, k_1000000, k_2147483647, lt_T, lt_F, le_T, le_F, eq_T, eq_F, ↓reduceIte, not_true_eq_false, not_false_eq_true, or_true, or_false, true_or, false_or, and_true, true_and, and_false, false_and, bI_f, i01_a, if_true]
end PZ
