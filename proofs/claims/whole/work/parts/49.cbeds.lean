/-! the class works tree and beds out -/
section CB
variable {g t : Nat} {F : Fld} {M : Mem}
theorem c_square (w : WF F) (G : GR g F M) {a b : Int} (ha : 0 ≤ a ∧ a < F 0 1 0) (hb : 0 ≤ b ∧ b < F 0 1 0) : fX0_squareApart g (iI a) (iI b) M = some (iI (s_sq F a b)) := by
  have h1 := w.n1
  unfold fX0_squareApart s_sq
  simp (disch := omega) only [iI_add, iI_sub, iI_mul, iI_neg, iI_nat, addm1, ixkI, ↓sbind, sbind, ↓bdS, bdS, ↓nm_eq, ↓jn_eq, iI_lt, iI_le, iI_eq, k_0, k_1, k_2, k_3, k_4, k_5, k_6, k_7, k_8, k_9, k_10, k_11, k_12, k_13, k_14, k_15, k_16, k_17, k_18, k_19, k_20, k_21, k_22, k_23, k_24, k_27, k_30, k_32, k_48, k_57, k_59, k_60, k_61, k_62, k_63, k_64, k_72, k_78, k_80, k_82, k_97, k_99, k_100, k_122, k_244, k_255, k_268, k_280, k_300, k_432, k_650, k_900, k_901, k_999, k_1700, k_2600, k_2601, k_2602, k_2603, k_2604, k_2610, k_2618, k_2682, k_2777, k_2844, k_2868, k_2880, k_3245, k_3250, k_9551, k_9999, k_65536, k_100000, k_999999, k_1000000, k_2147483647, G.x, G.y]
theorem c_relabel {x nt : Nat} {N fr to : Int} {L : Int → Int} (hN : 0 ≤ N ∧ N ≤ (nt : Int) ∧ N ≤ 1000) (hL : ∀ h, 0 ≤ h → h < N → -1000 ≤ L h ∧ L h ≤ 1000) (hf : -1000 ≤ fr ∧ fr ≤ 1000) {φ : Nat} (hφ : 2000 < φ) (hM : ∀ h : Int, 0 ≤ h → h < N → M.1 x h.toNat = iI (L h)) : ∃ M', fX0_relabel φ nt x (iI N) (iI fr) (iI to) M = some ((), M') ∧ Fr (Rg x x) M M' ∧ (∀ h : Int, 0 ≤ h → h < N → M'.1 x h.toNat = iI (if L h = fr then to else L h)) ∧ ∀ j : Nat, N ≤ (j : Int) → M'.1 x j = M.1 x j := by
  have key := lup (N := N) (P := fun n i => ∀ M, (∀ h : Int, 0 ≤ h → h < N → M.1 x h.toNat = iI (if h < i ∧ L h = fr then to else L h)) → ∃ M', lX0_relabel_3 nt x (iI N) (iI fr) (iI to) n (iI i) M = some ((), M') ∧ Fr (Rg x x) M M' ∧ (∀ h : Int, 0 ≤ h → h < N → M'.1 x h.toNat = iI (if L h = fr then to else L h)) ∧ ∀ j : Nat, N ≤ (j : Int) → M'.1 x j = M.1 x j)
    (fun n M hM => by
      refine ⟨M, ?_, Fr.refl M, fun h h0 h1 => ?_, fun _ _ => rfl⟩
      · rw [lX0_relabel_3_s]
        simp (disch := omega) only [iI_add, iI_sub, iI_mul, iI_neg, iI_nat, addm1, ixkI, ↓sbind, sbind, ↓bdS, bdS, ↓nm_eq, ↓jn_eq, iI_lt, iI_le, iI_eq, k_0, k_1, k_2, k_3, k_4, k_5, k_6, k_7, k_8, k_9, k_10, k_11, k_12, k_13, k_14, k_15, k_16, k_17, k_18, k_19, k_20, k_21, k_22, k_23, k_24, k_27, k_30, k_32, k_48, k_57, k_59, k_60, k_61, k_62, k_63, k_64, k_72, k_78, k_80, k_82, k_97, k_99, k_100, k_122, k_244, k_255, k_268, k_280, k_300, k_432, k_650, k_900, k_901, k_999, k_1700, k_2600, k_2601, k_2602, k_2603, k_2604, k_2610, k_2618, k_2682, k_2777, k_2844, k_2868, k_2880, k_3245, k_3250, k_9551, k_9999, k_65536, k_100000, k_999999, k_1000000, k_2147483647, lt_T, lt_F, le_T, le_F, eq_T, eq_F, ↓reduceIte, not_true_eq_false, not_false_eq_true, or_true, or_false, true_or, false_or, and_true, true_and, and_false, false_and]
      · rw [hM h h0 h1]
        by_cases hc : L h = fr
        · rw [if_pos ⟨h1, hc⟩, if_pos hc]
        · rw [if_neg (fun q => hc q.2), if_neg hc])
    (fun n i i0 i1 ih M hM => by
      have hi := hM i i0 i1
      rw [if_neg (fun q => by omega)] at hi
      have hb := hL i i0 i1
      by_cases hc : L i = fr
      · have hF : Fr (Rg x x) M (stI M x i.toNat (iI to)) := Fr.stI ⟨Nat.le_refl _, Nat.le_refl _⟩ (Fr.refl M)
        obtain ⟨M', e, f, T, U⟩ := ih (stI M x i.toNat (iI to)) (fun h h0 h1 => by
          by_cases hh : h = i
          · rw [hh, rI_eq, if_pos ⟨by omega, hc⟩]
          · rw [rI_nk (by omega), hM h h0 h1]
            by_cases hi : h < i
            · by_cases hd : L h = fr
              · rw [if_pos ⟨hi, hd⟩, if_pos ⟨by omega, hd⟩]
              · rw [if_neg (fun q => hd q.2), if_neg (fun q => hd q.2)]
            · rw [if_neg (fun q => hi q.1), if_neg (fun q => by omega)])
        refine ⟨M', ?_, hF.trans f, T, fun j hj => by rw [U j hj, rI_nk (by omega)]⟩
        rw [lX0_relabel_3_s, ← e]
        simp (disch := omega) only [iI_add, iI_sub, iI_mul, iI_neg, iI_nat, addm1, ixkI, ↓sbind, sbind, ↓bdS, bdS, ↓nm_eq, ↓jn_eq, iI_lt, iI_le, iI_eq, k_0, k_1, k_2, k_3, k_4, k_5, k_6, k_7, k_8, k_9, k_10, k_11, k_12, k_13, k_14, k_15, k_16, k_17, k_18, k_19, k_20, k_21, k_22, k_23, k_24, k_27, k_30, k_32, k_48, k_57, k_59, k_60, k_61, k_62, k_63, k_64, k_72, k_78, k_80, k_82, k_97, k_99, k_100, k_122, k_244, k_255, k_268, k_280, k_300, k_432, k_650, k_900, k_901, k_999, k_1700, k_2600, k_2601, k_2602, k_2603, k_2604, k_2610, k_2618, k_2682, k_2777, k_2844, k_2868, k_2880, k_3245, k_3250, k_9551, k_9999, k_65536, k_100000, k_999999, k_1000000, k_2147483647, lt_T, lt_F, le_T, le_F, eq_T, eq_F, ↓reduceIte, not_true_eq_false, not_false_eq_true, or_true, or_false, true_or, false_or, and_true, true_and, and_false, false_and, hi]
      · obtain ⟨M', e, f, T, U⟩ := ih M (fun h h0 h1 => by
          rw [hM h h0 h1]
          by_cases hd : L h = fr
          · have : h ≠ i := fun q => hc (q ▸ hd)
            by_cases hi : h < i
            · rw [if_pos ⟨hi, hd⟩, if_pos ⟨by omega, hd⟩]
            · rw [if_neg (fun q => hi q.1), if_neg (fun q => by omega)]
          · rw [if_neg (fun q => hd q.2), if_neg (fun q => hd q.2)])
        refine ⟨M', ?_, f, T, U⟩
        rw [lX0_relabel_3_s, ← e]
        simp (disch := omega) only [iI_add, iI_sub, iI_mul, iI_neg, iI_nat, addm1, ixkI, ↓sbind, sbind, ↓bdS, bdS, ↓nm_eq, ↓jn_eq, iI_lt, iI_le, iI_eq, k_0, k_1, k_2, k_3, k_4, k_5, k_6, k_7, k_8, k_9, k_10, k_11, k_12, k_13, k_14, k_15, k_16, k_17, k_18, k_19, k_20, k_21, k_22, k_23, k_24, k_27, k_30, k_32, k_48, k_57, k_59, k_60, k_61, k_62, k_63, k_64, k_72, k_78, k_80, k_82, k_97, k_99, k_100, k_122, k_244, k_255, k_268, k_280, k_300, k_432, k_650, k_900, k_901, k_999, k_1700, k_2600, k_2601, k_2602, k_2603, k_2604, k_2610, k_2618, k_2682, k_2777, k_2844, k_2868, k_2880, k_3245, k_3250, k_9551, k_9999, k_65536, k_100000, k_999999, k_1000000, k_2147483647, lt_T, lt_F, le_T, le_F, eq_T, eq_F, ↓reduceIte, not_true_eq_false, not_false_eq_true, or_true, or_false, true_or, false_or, and_true, true_and, and_false, false_and, hi])
    φ 0 (by omega) (by omega) (by omega) M (fun h h0 h1 => by rw [hM h h0 h1, if_neg (fun q => by omega)])
  unfold fX0_relabel
  simp only [k_0]
  exact key
/-- the best so far, as a number -/
def bv (F : Fld) (q : Int × Int) : Int := if q.1 = -1 then 2147483647 else s_sq F q.1 q.2
def NC (t : Nat) (F : Fld) (k : Nat) (q : Int × Int) (M : Mem) : Prop := q.1 = -1 ∨ ((0 ≤ q.1 ∧ q.1 < F 0 1 0) ∧ (0 ≤ q.2 ∧ q.2 < F 0 1 0) ∧ M.1 (t + 4) k = iI q.1 ∧ M.1 (t + 5) k = iI q.2)
theorem bv_bd (w : WF F) {k : Nat} {q : Int × Int} (h : NC t F k q M) : -2147483648 ≤ bv F q ∧ bv F q < 2147483648 := by
  unfold bv
  rcases h with h | h
  · rw [if_pos h]; omega
  · have := s_sq_bd w h.1 h.2.1
    rw [if_neg (by omega)]; omega
/-- what the scan reads -/
def SR (g t : Nat) (F : Fld) (p : Int → Int) (k : Nat) (M : Mem) : Prop := GR g F M ∧ M.1 t 2 = iI k ∧ ∀ h : Int, 0 ≤ h → h < F 0 1 0 → M.1 (t + 7) h.toNat = iI (p h)
theorem SR.fr {p : Int → Int} {k : Nat} {M' : Mem} (hd : t + 14 ≤ g ∨ g + 13 < t) (hF : Fr (Rg (t + 4) (t + 5)) M M') (h : SR g t F p k M) : SR g t F p k M' := by
  obtain ⟨h1, h2, h3⟩ := h
  refine ⟨h1.fr hF (fun x a b q => by have := q.1; have := q.2; omega), ?_, ?_⟩
  · rw [(hF t (fun q => by have := q.1; omega)).1]; exact h2
  · rw [(hF (t + 7) (fun q => by have := q.2; omega)).1]; exact h3
theorem c_near18 (w : WF F) (hd : t + 14 ≤ g ∨ g + 13 < t) {p : Int → Int} (hp : ∀ h, 0 ≤ h → h < F 0 1 0 → 0 ≤ p h ∧ p h < F 0 1 0) {k : Nat} (hk : k < 6) {a : Int} (ha : 0 ≤ a ∧ a < F 0 1 0) (K : Int32 → Mem → Option (Unit × Mem)) : ∀ (n : Nat) (b : Int), 0 ≤ b → b ≤ F 0 1 0 → F 0 1 0 < n + b → ∀ q M, SR g t F p k M → NC t F k q M → ∃ M', lX0_addNearest_18 K t g (iI a) n (iI (bv F q)) (iI b) M = K (iI (bv F (fo (fun b q => s_st F p a b q) (F 0 1 0) b q))) M' ∧ Fr (Rg (t + 4) (t + 5)) M M' ∧ NC t F k (fo (fun b q => s_st F p a b q) (F 0 1 0) b q) M' ∧ ∀ j, j ≠ k → M'.1 (t + 4) j = M.1 (t + 4) j ∧ M'.1 (t + 5) j = M.1 (t + 5) j := by
  have h1 := w.n1
  refine lup (N := F 0 1 0) (P := fun n b => ∀ q M, SR g t F p k M → NC t F k q M → ∃ M', lX0_addNearest_18 K t g (iI a) n (iI (bv F q)) (iI b) M = K (iI (bv F (fo (fun b q => s_st F p a b q) (F 0 1 0) b q))) M' ∧ Fr (Rg (t + 4) (t + 5)) M M' ∧ NC t F k (fo (fun b q => s_st F p a b q) (F 0 1 0) b q) M' ∧ ∀ j, j ≠ k → M'.1 (t + 4) j = M.1 (t + 4) j ∧ M'.1 (t + 5) j = M.1 (t + 5) j) ?_ ?_
  · intro n q M hS hN
    refine ⟨M, ?_, Fr.refl M, ?_, fun _ _ => ⟨rfl, rfl⟩⟩
    · rw [lX0_addNearest_18_s, fo_e _ (Int.le_refl _)]
      simp (disch := omega) only [iI_add, iI_sub, iI_mul, iI_neg, iI_nat, addm1, ixkI, ↓sbind, sbind, ↓bdS, bdS, ↓nm_eq, ↓jn_eq, iI_lt, iI_le, iI_eq, k_0, k_1, k_2, k_3, k_4, k_5, k_6, k_7, k_8, k_9, k_10, k_11, k_12, k_13, k_14, k_15, k_16, k_17, k_18, k_19, k_20, k_21, k_22, k_23, k_24, k_27, k_30, k_32, k_48, k_57, k_59, k_60, k_61, k_62, k_63, k_64, k_72, k_78, k_80, k_82, k_97, k_99, k_100, k_122, k_244, k_255, k_268, k_280, k_300, k_432, k_650, k_900, k_901, k_999, k_1700, k_2600, k_2601, k_2602, k_2603, k_2604, k_2610, k_2618, k_2682, k_2777, k_2844, k_2868, k_2880, k_3245, k_3250, k_9551, k_9999, k_65536, k_100000, k_999999, k_1000000, k_2147483647, lt_T, lt_F, le_T, le_F, eq_T, eq_F, ↓reduceIte, not_true_eq_false, not_false_eq_true, or_true, or_false, true_or, false_or, and_true, true_and, and_false, false_and, hS.1.n1]
    · rw [fo_e _ (Int.le_refl _)]; exact hN
  · intro n b b0 b1 ih q M hS hN
    have sb := s_sq_bd w ha ⟨b0, b1⟩
    have vb := bv_bd w hN
    have pa := hp a ha.1 ha.2
    have pb := hp b b0 b1
    have ea := hS.2.2 a ha.1 ha.2
    have eb := hS.2.2 b b0 b1
    have hk2 := hS.2.1
    have sq := c_square w hS.1 ha ⟨b0, b1⟩
    rw [fo_s _ b1]
    by_cases he : p a = p b
    · have es : s_st F p a b q = q := if_pos he
      obtain ⟨M', e, f, T, U⟩ := ih q M hS hN
      rw [es]
      refine ⟨M', ?_, f, T, U⟩
      rw [← e, lX0_addNearest_18_s]
      simp (disch := omega) only [iI_add, iI_sub, iI_mul, iI_neg, iI_nat, addm1, ixkI, ↓sbind, sbind, ↓bdS, bdS, ↓nm_eq, ↓jn_eq, iI_lt, iI_le, iI_eq, k_0, k_1, k_2, k_3, k_4, k_5, k_6, k_7, k_8, k_9, k_10, k_11, k_12, k_13, k_14, k_15, k_16, k_17, k_18, k_19, k_20, k_21, k_22, k_23, k_24, k_27, k_30, k_32, k_48, k_57, k_59, k_60, k_61, k_62, k_63, k_64, k_72, k_78, k_80, k_82, k_97, k_99, k_100, k_122, k_244, k_255, k_268, k_280, k_300, k_432, k_650, k_900, k_901, k_999, k_1700, k_2600, k_2601, k_2602, k_2603, k_2604, k_2610, k_2618, k_2682, k_2777, k_2844, k_2868, k_2880, k_3245, k_3250, k_9551, k_9999, k_65536, k_100000, k_999999, k_1000000, k_2147483647, lt_T, lt_F, le_T, le_F, eq_T, eq_F, ↓reduceIte, not_true_eq_false, not_false_eq_true, or_true, or_false, true_or, false_or, and_true, true_and, and_false, false_and, hS.1.n1, sq, ea, eb]
    · by_cases hb : s_sq F a b < bv F q
      · have es : s_st F p a b q = (a, b) := by
          unfold s_st
          rw [if_neg he]
          by_cases hq : q.1 = -1
          · rw [if_pos hq]
          · rw [if_neg hq, if_pos]
            unfold bv at hb
            rw [if_neg hq] at hb
            exact hb
        have hF : Fr (Rg (t + 4) (t + 5)) M (stI (stI M (t + 4) k (iI a)) (t + 5) k (iI b)) := Fr.stI ⟨by omega, by omega⟩ (Fr.stI ⟨by omega, by omega⟩ (Fr.refl M))
        obtain ⟨M', e, f, T, U⟩ := ih (a, b) (stI (stI M (t + 4) k (iI a)) (t + 5) k (iI b)) (hS.fr hd hF) (Or.inr ⟨ha, ⟨b0, b1⟩, by rw [rI_ng (by omega)]; exact rI_eq _ _ _ _, rI_eq _ _ _ _⟩)
        rw [es]
        refine ⟨M', ?_, hF.trans f, T, fun j hj => ?_⟩
        · rw [← e, lX0_addNearest_18_s]
          have ev : bv F (a, b) = s_sq F a b := if_neg (by show ¬ a = -1; omega)
          rw [ev]
          simp (disch := omega) only [iI_add, iI_sub, iI_mul, iI_neg, iI_nat, addm1, ixkI, ↓sbind, sbind, ↓bdS, bdS, ↓nm_eq, ↓jn_eq, iI_lt, iI_le, iI_eq, k_0, k_1, k_2, k_3, k_4, k_5, k_6, k_7, k_8, k_9, k_10, k_11, k_12, k_13, k_14, k_15, k_16, k_17, k_18, k_19, k_20, k_21, k_22, k_23, k_24, k_27, k_30, k_32, k_48, k_57, k_59, k_60, k_61, k_62, k_63, k_64, k_72, k_78, k_80, k_82, k_97, k_99, k_100, k_122, k_244, k_255, k_268, k_280, k_300, k_432, k_650, k_900, k_901, k_999, k_1700, k_2600, k_2601, k_2602, k_2603, k_2604, k_2610, k_2618, k_2682, k_2777, k_2844, k_2868, k_2880, k_3245, k_3250, k_9551, k_9999, k_65536, k_100000, k_999999, k_1000000, k_2147483647, lt_T, lt_F, le_T, le_F, eq_T, eq_F, ↓reduceIte, not_true_eq_false, not_false_eq_true, or_true, or_false, true_or, false_or, and_true, true_and, and_false, false_and, hS.1.n1, sq, ea, eb, hk2, rI_ng, Int.toNat_natCast]
        · obtain ⟨u1, u2⟩ := U j hj
          refine ⟨?_, ?_⟩
          · rw [u1, rI_ng (by omega), rI_nk hj]
          · rw [u2, rI_nk hj, rI_ng (by omega)]
      · have es : s_st F p a b q = q := by
          unfold s_st
          rw [if_neg he]
          unfold bv at hb
          by_cases hq : q.1 = -1
          · rw [if_pos hq] at hb
            omega
          · rw [if_neg hq] at hb
            rw [if_neg hq, if_neg hb]
        obtain ⟨M', e, f, T, U⟩ := ih q M hS hN
        rw [es]
        refine ⟨M', ?_, f, T, U⟩
        rw [← e, lX0_addNearest_18_s]
        simp (disch := omega) only [iI_add, iI_sub, iI_mul, iI_neg, iI_nat, addm1, ixkI, ↓sbind, sbind, ↓bdS, bdS, ↓nm_eq, ↓jn_eq, iI_lt, iI_le, iI_eq, k_0, k_1, k_2, k_3, k_4, k_5, k_6, k_7, k_8, k_9, k_10, k_11, k_12, k_13, k_14, k_15, k_16, k_17, k_18, k_19, k_20, k_21, k_22, k_23, k_24, k_27, k_30, k_32, k_48, k_57, k_59, k_60, k_61, k_62, k_63, k_64, k_72, k_78, k_80, k_82, k_97, k_99, k_100, k_122, k_244, k_255, k_268, k_280, k_300, k_432, k_650, k_900, k_901, k_999, k_1700, k_2600, k_2601, k_2602, k_2603, k_2604, k_2610, k_2618, k_2682, k_2777, k_2844, k_2868, k_2880, k_3245, k_3250, k_9551, k_9999, k_65536, k_100000, k_999999, k_1000000, k_2147483647, lt_T, lt_F, le_T, le_F, eq_T, eq_F, ↓reduceIte, not_true_eq_false, not_false_eq_true, or_true, or_false, true_or, false_or, and_true, true_and, and_false, false_and, hS.1.n1, sq, ea, eb]
theorem c_near5 (w : WF F) (hd : t + 14 ≤ g ∨ g + 13 < t) {p : Int → Int} (hp : ∀ h, 0 ≤ h → h < F 0 1 0 → 0 ≤ p h ∧ p h < F 0 1 0) {k : Nat} (hk : k < 6) {φ : Nat} (hφ : 100 < φ) (K : Int32 → Mem → Option (Unit × Mem)) : ∀ (n : Nat) (a : Int), 0 ≤ a → a ≤ F 0 1 0 → F 0 1 0 < n + a → ∀ q M, SR g t F p k M → NC t F k q M → ∃ M', lX0_addNearest_5 K φ t g n (iI (bv F q)) (iI a) M = K (iI (bv F (fo (fun a q => s_row F p a q) (F 0 1 0) a q))) M' ∧ Fr (Rg (t + 4) (t + 5)) M M' ∧ NC t F k (fo (fun a q => s_row F p a q) (F 0 1 0) a q) M' ∧ ∀ j, j ≠ k → M'.1 (t + 4) j = M.1 (t + 4) j ∧ M'.1 (t + 5) j = M.1 (t + 5) j := by
  have h1 := w.n1
  refine lup (N := F 0 1 0) (P := fun n a => ∀ q M, SR g t F p k M → NC t F k q M → ∃ M', lX0_addNearest_5 K φ t g n (iI (bv F q)) (iI a) M = K (iI (bv F (fo (fun a q => s_row F p a q) (F 0 1 0) a q))) M' ∧ Fr (Rg (t + 4) (t + 5)) M M' ∧ NC t F k (fo (fun a q => s_row F p a q) (F 0 1 0) a q) M' ∧ ∀ j, j ≠ k → M'.1 (t + 4) j = M.1 (t + 4) j ∧ M'.1 (t + 5) j = M.1 (t + 5) j) ?_ ?_
  · intro n q M hS hN
    refine ⟨M, ?_, Fr.refl M, ?_, fun _ _ => ⟨rfl, rfl⟩⟩
    · rw [lX0_addNearest_5_s, fo_e _ (Int.le_refl _)]
      simp (disch := omega) only [iI_add, iI_sub, iI_mul, iI_neg, iI_nat, addm1, ixkI, ↓sbind, sbind, ↓bdS, bdS, ↓nm_eq, ↓jn_eq, iI_lt, iI_le, iI_eq, k_0, k_1, k_2, k_3, k_4, k_5, k_6, k_7, k_8, k_9, k_10, k_11, k_12, k_13, k_14, k_15, k_16, k_17, k_18, k_19, k_20, k_21, k_22, k_23, k_24, k_27, k_30, k_32, k_48, k_57, k_59, k_60, k_61, k_62, k_63, k_64, k_72, k_78, k_80, k_82, k_97, k_99, k_100, k_122, k_244, k_255, k_268, k_280, k_300, k_432, k_650, k_900, k_901, k_999, k_1700, k_2600, k_2601, k_2602, k_2603, k_2604, k_2610, k_2618, k_2682, k_2777, k_2844, k_2868, k_2880, k_3245, k_3250, k_9551, k_9999, k_65536, k_100000, k_999999, k_1000000, k_2147483647, lt_T, lt_F, le_T, le_F, eq_T, eq_F, ↓reduceIte, not_true_eq_false, not_false_eq_true, or_true, or_false, true_or, false_or, and_true, true_and, and_false, false_and, hS.1.n1]
    · rw [fo_e _ (Int.le_refl _)]; exact hN
  · intro n a a0 a1 ih q M hS hN
    obtain ⟨M1, e1, f1, T1, U1⟩ := c_near18 w hd hp hk ⟨a0, a1⟩ (fun v8 M9 => lX0_addNearest_5 K φ t g n v8 (iI (a + 1)) M9) φ (a + 1) (by omega) (by omega) (by omega) q M hS hN
    obtain ⟨M', e, f, T, U⟩ := ih (s_row F p a q) M1 (hS.fr hd f1) T1
    rw [fo_s _ a1]
    refine ⟨M', ?_, f1.trans f, T, fun j hj => ⟨(U j hj).1.trans (U1 j hj).1, (U j hj).2.trans (U1 j hj).2⟩⟩
    rw [← e]
    refine Eq.trans ?_ e1
    rw [lX0_addNearest_5_s]
    simp (disch := omega) only [iI_add, iI_sub, iI_mul, iI_neg, iI_nat, addm1, ixkI, ↓sbind, sbind, ↓bdS, bdS, ↓nm_eq, ↓jn_eq, iI_lt, iI_le, iI_eq, k_0, k_1, k_2, k_3, k_4, k_5, k_6, k_7, k_8, k_9, k_10, k_11, k_12, k_13, k_14, k_15, k_16, k_17, k_18, k_19, k_20, k_21, k_22, k_23, k_24, k_27, k_30, k_32, k_48, k_57, k_59, k_60, k_61, k_62, k_63, k_64, k_72, k_78, k_80, k_82, k_97, k_99, k_100, k_122, k_244, k_255, k_268, k_280, k_300, k_432, k_650, k_900, k_901, k_999, k_1700, k_2600, k_2601, k_2602, k_2603, k_2604, k_2610, k_2618, k_2682, k_2777, k_2844, k_2868, k_2880, k_3245, k_3250, k_9551, k_9999, k_65536, k_100000, k_999999, k_1000000, k_2147483647, lt_T, lt_F, le_T, le_F, eq_T, eq_F, ↓reduceIte, not_true_eq_false, not_false_eq_true, or_true, or_false, true_or, false_or, and_true, true_and, and_false, false_and, hS.1.n1]
/-- the tree's couples up to k -/
def TC (t : Nat) (F : Fld) (k : Nat) (M : Mem) : Prop := M.1 t 2 = iI k ∧ (∀ h : Int, 0 ≤ h → h < F 0 1 0 → M.1 (t + 7) h.toNat = iI (tP F k h)) ∧ ∀ j : Nat, j < k → M.1 (t + 4) j = iI (tQ F j).1 ∧ M.1 (t + 5) j = iI (tQ F j).2 ∧ M.1 (t + 6) j = iI (s_sq F (tQ F j).1 (tQ F j).2)
theorem c_addNearest (w : WF F) (hd : t + 14 ≤ g ∨ g + 13 < t) {k : Nat} (hk : (k : Int) < F 0 1 0 - 1) {φ : Nat} (hφ : 2000 < φ) (G : GR g F M) (hT : TC t F k M) : ∃ M', fX0_addNearest φ t g M = some ((), M') ∧ Fr (fun x => x = t ∨ (t + 4 ≤ x ∧ x ≤ t + 7)) M M' ∧ TC t F (k + 1) M' ∧ ∀ j, j ≠ 2 → M'.1 t j = M.1 t j := by
  have h1 := w.n1
  obtain ⟨ti, _⟩ := tP_inv w k (by omega)
  obtain ⟨q1, q2, q3, q4⟩ := tQ_ok w hk
  obtain ⟨t2, t3, t4⟩ := hT
  have hp : ∀ h, 0 ≤ h → h < F 0 1 0 → 0 ≤ tP F k h ∧ tP F k h < F 0 1 0 := fun h a b => ⟨(ti h a b).1, (ti h a b).2.1⟩
  unfold fX0_addNearest
  simp only [k_0, k_1, k_2147483647]
  obtain ⟨M1, e1, f1, T1, U1⟩ := c_near5 w hd hp (k := k) (by omega) (φ := φ) (by omega) (fun (v10 : Int32) (M11 : Mem) => ixk (M11.1 t 2) 6 (nm (stI M11 (t + 6) (M11.1 t 2).toNatClampNeg v10) (fun M12 =>
    ixk (M12.1 t 2) 6 (ixk (M12.1 (t + 5) (M12.1 t 2).toNatClampNeg) 6 (ixk (M12.1 t 2) 6 (ixk (M12.1 (t + 4) (M12.1 t 2).toNatClampNeg) 6 (
    bd (fX0_relabel φ 6 (t + 7) (M12.1 g 4) (M12.1 (t + 7) (M12.1 (t + 5) (M12.1 t 2).toNatClampNeg).toNatClampNeg) (M12.1 (t + 7) (M12.1 (t + 4) (M12.1 t 2).toNatClampNeg).toNatClampNeg) M12) fun vu13 M14 =>
    nm (stI M14 t 2 ((M14.1 t 2) + iI 1)) (fun M15 => some ((), M15))))))))) φ 0 (by omega) (by omega) (by omega) (-1, -1) M ⟨G, t2, t3⟩ (Or.inl rfl)
  have ev : bv F (-1, -1) = 2147483647 := rfl
  rw [ev] at e1
  have eq : fo (fun a q => s_row F (tP F k) a q) (F 0 1 0) 0 (-1, -1) = tQ F k := rfl
  rw [eq] at e1 T1
  have T1' := T1.resolve_left (by omega)
  obtain ⟨-, -, r4, r5⟩ := T1'
  have m2 : M1.1 t 2 = iI k := by rw [(f1 t (fun q => by have := q.1; omega)).1]; exact t2
  have m7 : ∀ h : Int, 0 ≤ h → h < F 0 1 0 → M1.1 (t + 7) h.toNat = iI (tP F k h) := by rw [(f1 (t + 7) (fun q => by have := q.2; omega)).1]; exact t3
  have G1 := G.fr f1 (fun x a b q => by have := q.1; have := q.2; omega)
  have bq : bv F (tQ F k) = s_sq F (tQ F k).1 (tQ F k).2 := if_neg (by omega)
  have hF : Fr (fun x => x = t ∨ (t + 4 ≤ x ∧ x ≤ t + 7)) M1 (stI M1 (t + 6) k (iI (s_sq F (tQ F k).1 (tQ F k).2))) := Fr.stI (Or.inr ⟨by omega, by omega⟩) (Fr.refl M1)
  have z1 := hp (tQ F k).1 q1 (by omega)
  have z2 := hp (tQ F k).2 (by omega) q3
  obtain ⟨M2, e2, f2, T2, U2⟩ := c_relabel (M := stI M1 (t + 6) k (iI (s_sq F (tQ F k).1 (tQ F k).2))) (x := t + 7) (nt := 6) (N := F 0 1 0) (fr := tP F k (tQ F k).2) (to := tP F k (tQ F k).1) (L := tP F k) (by omega) (fun h a b => by have := hp h a b; omega) (by omega) hφ (fun h a b => by rw [rI_ng (by omega)]; exact m7 h a b)
  have u2 : M2.1 t 2 = iI k := by rw [(f2 t (fun q => by have := q.1; omega)).1, rI_ng (by omega)]; exact m2
  refine ⟨stI M2 t 2 (iI (k + 1)), ?_, ?_, ⟨?_, fun h a b => ?_, fun j hj => ?_⟩, fun j hj => ?_⟩
  · refine e1.trans ?_
    have c4 := G1.n1
    have r5' : M1.1 (t + 5) (k : Nat) = iI (tQ F k).2 := r5
    have l1 := m7 (tQ F k).1 q1 (by omega)
    have l2 := m7 (tQ F k).2 (by omega) q3
    simp (disch := omega) only [iI_add, iI_sub, iI_mul, iI_neg, iI_nat, addm1, ixkI, ↓sbind, sbind, ↓bdS, bdS, ↓nm_eq, ↓jn_eq, iI_lt, iI_le, iI_eq, k_0, k_1, k_2, k_3, k_4, k_5, k_6, k_7, k_8, k_9, k_10, k_11, k_12, k_13, k_14, k_15, k_16, k_17, k_18, k_19, k_20, k_21, k_22, k_23, k_24, k_27, k_30, k_32, k_48, k_57, k_59, k_60, k_61, k_62, k_63, k_64, k_72, k_78, k_80, k_82, k_97, k_99, k_100, k_122, k_244, k_255, k_268, k_280, k_300, k_432, k_650, k_900, k_901, k_999, k_1700, k_2600, k_2601, k_2602, k_2603, k_2604, k_2610, k_2618, k_2682, k_2777, k_2844, k_2868, k_2880, k_3245, k_3250, k_9551, k_9999, k_65536, k_100000, k_999999, k_1000000, k_2147483647, m2, rI_ng, Int.toNat_natCast, r4, r5, bq, c4, l1, l2, e2, u2]
  · exact (f1.mono (fun x q => Or.inr ⟨q.1, by have := q.2; omega⟩)).trans (hF.trans (Fr.stI (Or.inl rfl) (f2.mono (fun x q => Or.inr ⟨by have := q.1; omega, q.2⟩))))
  · rw [rI_eq]; rfl
  · rw [rI_ng (by omega), T2 h a b]; rfl
  · by_cases hjk : j = k
    · rw [hjk]
      refine ⟨?_, ?_, ?_⟩
      · rw [rI_ng (by omega), (f2 (t + 4) (fun q => by have := q.1; omega)).1, rI_ng (by omega)]; exact r4
      · rw [rI_ng (by omega), (f2 (t + 5) (fun q => by have := q.1; omega)).1, rI_ng (by omega)]; exact r5
      · rw [rI_ng (by omega), (f2 (t + 6) (fun q => by have := q.1; omega)).1, rI_eq]
    · have := t4 j (by omega)
      have u := U1 j hjk
      refine ⟨?_, ?_, ?_⟩
      · rw [rI_ng (by omega), (f2 (t + 4) (fun q => by have := q.1; omega)).1, rI_ng (by omega), u.1]; exact this.1
      · rw [rI_ng (by omega), (f2 (t + 5) (fun q => by have := q.1; omega)).1, rI_ng (by omega), u.2]; exact this.2.1
      · rw [rI_ng (by omega), (f2 (t + 6) (fun q => by have := q.1; omega)).1, rI_nk hjk, (f1 (t + 6) (fun q => by have := q.2; omega)).1]; exact this.2.2
  · rw [rI_nk hj, (f2 t (fun q => by have := q.1; omega)).1, rI_ng (by omega), (f1 t (fun q => by have := q.1; omega)).1]
end CB
