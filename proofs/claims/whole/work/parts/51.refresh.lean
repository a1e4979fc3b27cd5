/-! the class's beds, whole -/
def s_cost (F : Fld) : Int := sm (fun k => cT F (tQ F k.toNat).1 (tQ F k.toNat).2 0 0) (s_cn F)
/-- the rows of the beds at t show what F gives -/
def BC (t : Nat) (F : Fld) (M : Mem) : Prop := M.1 t 2 = iI (s_cn F : Nat) ∧ M.1 t 6 = iI (s_cost F) ∧ M.1 t 7 = iI (bN F) ∧ (∀ j : Nat, j < s_cn F → M.1 (t + 4) j = iI (tQ F j).1 ∧ M.1 (t + 5) j = iI (tQ F j).2 ∧ M.1 (t + 6) j = iI (s_sq F (tQ F j).1 (tQ F j).2)) ∧ (∀ h l, vl F h l → M.1 (t + 9) (h * 12 + l).toNat = iI (bA F h l)) ∧ ∀ x h : Int, 0 ≤ x → x < bN F → 0 ≤ h → h < 6 → M.1 (t + 11) (x * 6 + h).toNat = iI (if h < F 0 1 0 then s_fst F x h else -1)
section CB3
variable {g t : Nat} {F : Fld} {M : Mem}
theorem s_lab_uni (w : WF F) : ∀ h l l', vl F h l → vl F h l' → s_lab F (h * 12 + l) = s_lab F (h * 12 + l') → l = l' := by
  intro h l l' v v' e
  have hc : ((s_cn F : Nat) : Int) ≤ F 0 1 0 - 1 := by
    unfold s_cn
    have := v.1
    omega
  exact (bL_inv w (s_cn F) hc h l h l' v v' e).2 rfl
theorem c_num7 (K : Mem → Option (Unit × Mem)) : ∀ (n : Nat) (x : Int), 0 ≤ x → x ≤ 72 → 72 < n + x → ∀ M, (∀ y : Int, 0 ≤ y → y < x → M.1 (t + 10) y.toNat = iI (-1)) → ∃ M', lX0_numberBeds_7 K t g n (iI x) M = K M' ∧ Fr (Rg (t + 10) (t + 10)) M M' ∧ ∀ y : Int, 0 ≤ y → y < 72 → M'.1 (t + 10) y.toNat = iI (-1) := by
  refine lup (N := 72) (P := fun n x => ∀ M, (∀ y : Int, 0 ≤ y → y < x → M.1 (t + 10) y.toNat = iI (-1)) → ∃ M', lX0_numberBeds_7 K t g n (iI x) M = K M' ∧ Fr (Rg (t + 10) (t + 10)) M M' ∧ ∀ y : Int, 0 ≤ y → y < 72 → M'.1 (t + 10) y.toNat = iI (-1)) ?_ ?_
  · intro n M hM
    refine ⟨M, ?_, Fr.refl M, hM⟩
    rw [lX0_numberBeds_7_s]
    simp (disch := omega) only [iI_add, iI_sub, iI_mul, iI_neg, iI_nat, addm1, ixkI, ↓sbind, sbind, ↓bdS, bdS, ↓nm_eq, ↓jn_eq, iI_lt, iI_le, iI_eq, k_0, k_1, k_2, k_3, k_4, k_5, k_6, k_7, k_8, k_9, k_10, k_11, k_12, k_13, k_14, k_15, k_16, k_17, k_18, k_19, k_20, k_21, k_22, k_23, k_24, k_27, k_30, k_32, k_48, k_57, k_59, k_60, k_61, k_62, k_63, k_64, k_72, k_78, k_80, k_82, k_97, k_99, k_100, k_122, k_244, k_255, k_268, k_280, k_300, k_432, k_650, k_900, k_901, k_999, k_1700, k_2600, k_2601, k_2602, k_2603, k_2604, k_2610, k_2618, k_2682, k_2777, k_2844, k_2868, k_2880, k_3245, k_3250, k_9551, k_9999, k_65536, k_100000, k_999999, k_1000000, k_2147483647, lt_T, lt_F, le_T, le_F, eq_T, eq_F, ↓reduceIte, not_true_eq_false, not_false_eq_true, or_true, or_false, true_or, false_or, and_true, true_and, and_false, false_and]
  · intro n x x0 x1 ih M hM
    have hF : Fr (Rg (t + 10) (t + 10)) M (stI M (t + 10) x.toNat (iI (-1))) := Fr.stI ⟨by omega, by omega⟩ (Fr.refl M)
    obtain ⟨M', e, f, T⟩ := ih (stI M (t + 10) x.toNat (iI (-1))) (fun y y0 y1 => by
      by_cases hy : y = x
      · rw [hy]; exact rI_eq _ _ _ _
      · rw [rI_nk (by omega)]; exact hM y y0 (by omega))
    refine ⟨M', ?_, hF.trans f, T⟩
    rw [lX0_numberBeds_7_s, ← e]
    simp (disch := omega) only [iI_add, iI_sub, iI_mul, iI_neg, iI_nat, addm1, ixkI, ↓sbind, sbind, ↓bdS, bdS, ↓nm_eq, ↓jn_eq, iI_lt, iI_le, iI_eq, k_0, k_1, k_2, k_3, k_4, k_5, k_6, k_7, k_8, k_9, k_10, k_11, k_12, k_13, k_14, k_15, k_16, k_17, k_18, k_19, k_20, k_21, k_22, k_23, k_24, k_27, k_30, k_32, k_48, k_57, k_59, k_60, k_61, k_62, k_63, k_64, k_72, k_78, k_80, k_82, k_97, k_99, k_100, k_122, k_244, k_255, k_268, k_280, k_300, k_432, k_650, k_900, k_901, k_999, k_1700, k_2600, k_2601, k_2602, k_2603, k_2604, k_2610, k_2618, k_2682, k_2777, k_2844, k_2868, k_2880, k_3245, k_3250, k_9551, k_9999, k_65536, k_100000, k_999999, k_1000000, k_2147483647, lt_T, lt_F, le_T, le_F, eq_T, eq_F, ↓reduceIte, not_true_eq_false, not_false_eq_true, or_true, or_false, true_or, false_or, and_true, true_and, and_false, false_and]
theorem c_num28 (K : Mem → Option (Unit × Mem)) : ∀ (n : Nat) (x : Int), 0 ≤ x → x ≤ 432 → 432 < n + x → ∀ M, (∀ y : Int, 0 ≤ y → y < x → M.1 (t + 11) y.toNat = iI (-1)) → ∃ M', lX0_numberBeds_28 K t g n (iI x) M = K M' ∧ Fr (Rg (t + 11) (t + 11)) M M' ∧ ∀ y : Int, 0 ≤ y → y < 432 → M'.1 (t + 11) y.toNat = iI (-1) := by
  refine lup (N := 432) (P := fun n x => ∀ M, (∀ y : Int, 0 ≤ y → y < x → M.1 (t + 11) y.toNat = iI (-1)) → ∃ M', lX0_numberBeds_28 K t g n (iI x) M = K M' ∧ Fr (Rg (t + 11) (t + 11)) M M' ∧ ∀ y : Int, 0 ≤ y → y < 432 → M'.1 (t + 11) y.toNat = iI (-1)) ?_ ?_
  · intro n M hM
    refine ⟨M, ?_, Fr.refl M, hM⟩
    rw [lX0_numberBeds_28_s]
    simp (disch := omega) only [iI_add, iI_sub, iI_mul, iI_neg, iI_nat, addm1, ixkI, ↓sbind, sbind, ↓bdS, bdS, ↓nm_eq, ↓jn_eq, iI_lt, iI_le, iI_eq, k_0, k_1, k_2, k_3, k_4, k_5, k_6, k_7, k_8, k_9, k_10, k_11, k_12, k_13, k_14, k_15, k_16, k_17, k_18, k_19, k_20, k_21, k_22, k_23, k_24, k_27, k_30, k_32, k_48, k_57, k_59, k_60, k_61, k_62, k_63, k_64, k_72, k_78, k_80, k_82, k_97, k_99, k_100, k_122, k_244, k_255, k_268, k_280, k_300, k_432, k_650, k_900, k_901, k_999, k_1700, k_2600, k_2601, k_2602, k_2603, k_2604, k_2610, k_2618, k_2682, k_2777, k_2844, k_2868, k_2880, k_3245, k_3250, k_9551, k_9999, k_65536, k_100000, k_999999, k_1000000, k_2147483647, lt_T, lt_F, le_T, le_F, eq_T, eq_F, ↓reduceIte, not_true_eq_false, not_false_eq_true, or_true, or_false, true_or, false_or, and_true, true_and, and_false, false_and]
  · intro n x x0 x1 ih M hM
    have hF : Fr (Rg (t + 11) (t + 11)) M (stI M (t + 11) x.toNat (iI (-1))) := Fr.stI ⟨by omega, by omega⟩ (Fr.refl M)
    obtain ⟨M', e, f, T⟩ := ih (stI M (t + 11) x.toNat (iI (-1))) (fun y y0 y1 => by
      by_cases hy : y = x
      · rw [hy]; exact rI_eq _ _ _ _
      · rw [rI_nk (by omega)]; exact hM y y0 (by omega))
    refine ⟨M', ?_, hF.trans f, T⟩
    rw [lX0_numberBeds_28_s, ← e]
    simp (disch := omega) only [iI_add, iI_sub, iI_mul, iI_neg, iI_nat, addm1, ixkI, ↓sbind, sbind, ↓bdS, bdS, ↓nm_eq, ↓jn_eq, iI_lt, iI_le, iI_eq, k_0, k_1, k_2, k_3, k_4, k_5, k_6, k_7, k_8, k_9, k_10, k_11, k_12, k_13, k_14, k_15, k_16, k_17, k_18, k_19, k_20, k_21, k_22, k_23, k_24, k_27, k_30, k_32, k_48, k_57, k_59, k_60, k_61, k_62, k_63, k_64, k_72, k_78, k_80, k_82, k_97, k_99, k_100, k_122, k_244, k_255, k_268, k_280, k_300, k_432, k_650, k_900, k_901, k_999, k_1700, k_2600, k_2601, k_2602, k_2603, k_2604, k_2610, k_2618, k_2682, k_2777, k_2844, k_2868, k_2880, k_3245, k_3250, k_9551, k_9999, k_65536, k_100000, k_999999, k_1000000, k_2147483647, lt_T, lt_F, le_T, le_F, eq_T, eq_F, ↓reduceIte, not_true_eq_false, not_false_eq_true, or_true, or_false, true_or, false_or, and_true, true_and, and_false, false_and]
theorem c_numberBeds (w : WF F) (hd : t + 14 ≤ g ∨ g + 13 < t) {φ : Nat} (hφ : 2000 < φ) (G : GR g F M) (hg : ∀ s : Int, 0 ≤ s → s < 72 → M.1 (t + 8) s.toNat = iI (s_lab F s)) : ∃ M', fX0_numberBeds φ t g M = some ((), M') ∧ Fr (fun x => x = t ∨ (t + 9 ≤ x ∧ x ≤ t + 11)) M M' ∧ (∀ j, j ≠ 7 → M'.1 t j = M.1 t j) ∧ M'.1 t 7 = iI (bN F) ∧ (∀ h l, vl F h l → M'.1 (t + 9) (h * 12 + l).toNat = iI (bA F h l)) ∧ ∀ x h : Int, 0 ≤ x → x < bN F → 0 ≤ h → h < 6 → M'.1 (t + 11) (x * 6 + h).toNat = iI (if h < F 0 1 0 then s_fst F x h else -1) := by
  have n1 := w.n1
  have nb := bN_rng w
  have hL := s_lab_rng w
  have hU := s_lab_uni w
  have hF : Fr (fun x => x = t ∨ (t + 9 ≤ x ∧ x ≤ t + 11)) M (stI M t 7 (iI 0)) := Fr.stI (Or.inl rfl) (Fr.refl M)
  obtain ⟨M1, e1, f1, T1⟩ := c_num7 (g := g) (t := t) (fun M3 => lX0_numberBeds_28 (fun M5 => lX0_numberBeds_50 φ t g φ (iI 0) M5) t g φ (iI 0) M3) φ 0 (by omega) (by omega) (by omega) (stI M t 7 (iI 0)) (fun y a b => by omega)
  obtain ⟨M2, e2, f2, T2⟩ := c_num28 (g := g) (t := t) (fun M5 => lX0_numberBeds_50 φ t g φ (iI 0) M5) φ 0 (by omega) (by omega) (by omega) M1 (fun y a b => by omega)
  have f12 : Fr (fun x => x = t ∨ (t + 9 ≤ x ∧ x ≤ t + 11)) M M2 := hF.trans ((f1.mono fun x q => Or.inr ⟨by have := q.1; omega, by have := q.2; omega⟩).trans (f2.mono fun x q => Or.inr ⟨by have := q.1; omega, by have := q.2; omega⟩))
  have m7 : M2.1 t 7 = iI 0 := by rw [(f2 t (fun q => by have := q.1; omega)).1, (f1 t (fun q => by have := q.1; omega)).1]; exact rI_eq _ _ _ _
  have mj : ∀ j, j ≠ 7 → M2.1 t j = M.1 t j := fun j hj => by rw [(f2 t (fun q => by have := q.1; omega)).1, (f1 t (fun q => by have := q.1; omega)).1, rI_nk hj]
  have C0 : CN t F (s_lab F) (0, fun _ => -1) 0 0 M2 := by
    refine ⟨⟨Int.le_refl 0, fun x => Or.inl rfl, fun x y hx => absurd rfl hx⟩, Int.le_refl _, m7, fun x x0 x1 => ?_, fun s s0 s1 => ?_, fun h' l' v u => ?_, fun x h' x0 x1 h0 h1 _ => T2 _ (by omega) (by omega)⟩
    · rw [(f2 (t + 10) (fun q => by have := q.1; omega)).1]; exact T1 x x0 x1
    · rw [(f12 (t + 8) (fun q => by omega)).1]; exact hg s s0 s1
    · have := v.1
      have := v.2
      unfold vis at u
      omega
  obtain ⟨M3, e3, f3, T3, U3⟩ := c_num50 w hd hL hU (φ := φ) (by omega) φ 0 (by omega) (by omega) (by omega) (0, fun _ => -1) M2 (G.fr f12 (fun x a b q => by omega)) C0
  have eq : fo (fun h q => nR F (s_lab F) h q) (F 0 1 0) 0 ((0 : Int), fun _ => (-1 : Int)) = nA F (s_lab F) := rfl
  rw [eq] at T3
  obtain ⟨d1, d2, d3, d4, d5, d6, d7⟩ := T3
  refine ⟨M3, ?_, f12.trans f3, fun j hj => (U3 j hj).trans (mj j hj), d3, fun h l v => ?_, fun x h x0 x1 h0 h1 => ?_⟩
  · rw [← e3, ← e2, ← e1]
    unfold fX0_numberBeds
    simp only [k_0, ↓nm_eq]
  · exact (d6 h l v (Or.inl v.1.2)).2.1
  · by_cases hh : h < F 0 1 0
    · rw [if_pos hh]
      rcases s_fst_rng w (x := x) ⟨h0, hh⟩ with r | ⟨r1, r2, r3⟩
      · rw [r]
        refine d7 x h x0 (by omega) h0 h1 fun l v _ e => ?_
        have := s_fst_eq w v
        have e' : bA F h l = x := e
        rw [e', r] at this
        have := v.2
        omega
      · have := (d6 h _ ⟨⟨h0, hh⟩, r1, r2⟩ (Or.inl hh)).2.2
        have r3' : (nA F (s_lab F)).2 (s_lab F (h * 12 + s_fst F x h)) = x := r3
        rw [r3'] at this
        exact this
    · rw [if_neg hh]
      exact d7 x h x0 (by omega) h0 h1 fun l v _ => absurd v.1.2 hh
theorem c_ref30 (K : Mem → Option (Unit × Mem)) : ∀ (n : Nat) (x : Int), 0 ≤ x → x ≤ 72 → 72 < n + x → ∀ M, (∀ y : Int, 0 ≤ y → y < x → M.1 (t + 8) y.toNat = iI y) → ∃ M', lX0_refresh_30 K t g n (iI x) M = K M' ∧ Fr (Rg (t + 8) (t + 8)) M M' ∧ ∀ y : Int, 0 ≤ y → y < 72 → M'.1 (t + 8) y.toNat = iI y := by
  refine lup (N := 72) (P := fun n x => ∀ M, (∀ y : Int, 0 ≤ y → y < x → M.1 (t + 8) y.toNat = iI y) → ∃ M', lX0_refresh_30 K t g n (iI x) M = K M' ∧ Fr (Rg (t + 8) (t + 8)) M M' ∧ ∀ y : Int, 0 ≤ y → y < 72 → M'.1 (t + 8) y.toNat = iI y) ?_ ?_
  · intro n M hM
    refine ⟨M, ?_, Fr.refl M, hM⟩
    rw [lX0_refresh_30_s]
    simp (disch := omega) only [iI_add, iI_sub, iI_mul, iI_neg, iI_nat, addm1, ixkI, ↓sbind, sbind, ↓bdS, bdS, ↓nm_eq, ↓jn_eq, iI_lt, iI_le, iI_eq, k_0, k_1, k_2, k_3, k_4, k_5, k_6, k_7, k_8, k_9, k_10, k_11, k_12, k_13, k_14, k_15, k_16, k_17, k_18, k_19, k_20, k_21, k_22, k_23, k_24, k_27, k_30, k_32, k_48, k_57, k_59, k_60, k_61, k_62, k_63, k_64, k_72, k_78, k_80, k_82, k_97, k_99, k_100, k_122, k_244, k_255, k_268, k_280, k_300, k_432, k_650, k_900, k_901, k_999, k_1700, k_2600, k_2601, k_2602, k_2603, k_2604, k_2610, k_2618, k_2682, k_2777, k_2844, k_2868, k_2880, k_3245, k_3250, k_9551, k_9999, k_65536, k_100000, k_999999, k_1000000, k_2147483647, lt_T, lt_F, le_T, le_F, eq_T, eq_F, ↓reduceIte, not_true_eq_false, not_false_eq_true, or_true, or_false, true_or, false_or, and_true, true_and, and_false, false_and]
  · intro n x x0 x1 ih M hM
    have hF : Fr (Rg (t + 8) (t + 8)) M (stI M (t + 8) x.toNat (iI x)) := Fr.stI ⟨by omega, by omega⟩ (Fr.refl M)
    obtain ⟨M', e, f, T⟩ := ih (stI M (t + 8) x.toNat (iI x)) (fun y y0 y1 => by
      by_cases hy : y = x
      · rw [hy]; exact rI_eq _ _ _ _
      · rw [rI_nk (by omega)]; exact hM y y0 (by omega))
    refine ⟨M', ?_, hF.trans f, T⟩
    rw [lX0_refresh_30_s, ← e]
    simp (disch := omega) only [iI_add, iI_sub, iI_mul, iI_neg, iI_nat, addm1, ixkI, ↓sbind, sbind, ↓bdS, bdS, ↓nm_eq, ↓jn_eq, iI_lt, iI_le, iI_eq, k_0, k_1, k_2, k_3, k_4, k_5, k_6, k_7, k_8, k_9, k_10, k_11, k_12, k_13, k_14, k_15, k_16, k_17, k_18, k_19, k_20, k_21, k_22, k_23, k_24, k_27, k_30, k_32, k_48, k_57, k_59, k_60, k_61, k_62, k_63, k_64, k_72, k_78, k_80, k_82, k_97, k_99, k_100, k_122, k_244, k_255, k_268, k_280, k_300, k_432, k_650, k_900, k_901, k_999, k_1700, k_2600, k_2601, k_2602, k_2603, k_2604, k_2610, k_2618, k_2682, k_2777, k_2844, k_2868, k_2880, k_3245, k_3250, k_9551, k_9999, k_65536, k_100000, k_999999, k_1000000, k_2147483647, lt_T, lt_F, le_T, le_F, eq_T, eq_F, ↓reduceIte, not_true_eq_false, not_false_eq_true, or_true, or_false, true_or, false_or, and_true, true_and, and_false, false_and]
theorem c_ref51 (w : WF F) (hd : t + 14 ≤ g ∨ g + 13 < t) {φ : Nat} (hφ : 2000 < φ) : ∀ (n k : Nat) (M : Mem), k ≤ s_cn F → s_cn F < n + k → GR g F M → TC t F (s_cn F) M → M.1 t 6 = iI (sm (fun k => cT F (tQ F k.toNat).1 (tQ F k.toNat).2 0 0) k) → (∀ s : Int, 0 ≤ s → s < 72 → M.1 (t + 8) s.toNat = iI (bL F k s)) → ∃ M', lX0_refresh_51 φ t g n (iI (k : Nat)) M = some ((), M') ∧ Fr (Rg t (t + 11)) M M' ∧ BC t F M' ∧ M'.1 t 1 = M.1 t 1 ∧ M'.1 t 13 = M.1 t 13 := by
  have n1 := w.n1
  have hcn : ((s_cn F : Nat) : Int) ≤ 5 := by unfold s_cn; omega
  intro n
  induction n with
  | zero => intro k M hk hn; omega
  | succ n ih =>
    intro k M hk hn hG hT hc hg
    obtain ⟨t2, t3, t4⟩ := hT
    by_cases hlt : k < s_cn F
    · have hq : (k : Int) < F 0 1 0 - 1 := by unfold s_cn at hlt; omega
      obtain ⟨q1, q2, q3, q4⟩ := tQ_ok w hq
      have ha : 0 ≤ (tQ F k).1 ∧ (tQ F k).1 < F 0 1 0 := by omega
      have hb : 0 ≤ (tQ F k).2 ∧ (tQ F k).2 < F 0 1 0 := by omega
      obtain ⟨r1, r2, r3⟩ := t4 k hlt
      obtain ⟨M1, e1, f1, a1, a2, a3⟩ := c_workOut (t := t + 1) w (by omega) ha hb (φ := φ) (by omega) hG
      have hcb := cT_bd w ha hb (i := 0) (k := 0) (by omega) (by omega)
      have hF2 : Fr (Rg t (t + 11)) M1 (stI M1 t 6 (iI (sm (fun k => cT F (tQ F k.toNat).1 (tQ F k.toNat).2 0 0) ((k : Int) + 1)))) := Fr.stI ⟨by omega, by omega⟩ (Fr.refl M1)
      obtain ⟨M3, e3, f3, T3⟩ := c_joinPairs (t := t) (M := stI M1 t 6 (iI (sm (fun k => cT F (tQ F k.toNat).1 (tQ F k.toNat).2 0 0) ((k : Int) + 1)))) w ha hb hφ (bL_rng w k (by omega)) (by rw [rI_ng (by omega)]; exact a1) (fun x x0 x1 => by rw [rI_ng (by omega)]; exact a3 x x0 x1) (fun s s0 s1 => by rw [rI_ng (by omega), (f1 (t + 8) (fun q => by have := q.2; omega)).1]; exact hg s s0 s1)
      have fA : Fr (Rg t (t + 11)) M M3 := (f1.mono fun x q => ⟨by have := q.1; omega, by have := q.2; omega⟩).trans (hF2.trans (f3.mono fun x q => ⟨by have := q.1; omega, by have := q.2; omega⟩))
      have mt0 : ∀ j, j ≠ 6 → M3.1 t j = M.1 t j := fun j hj => by rw [(f3 t (fun q => by have := q.1; omega)).1, rI_nk hj, (f1 t (fun q => by have := q.1; omega)).1]
      have mc : ∀ c, t + 4 ≤ c → c ≤ t + 7 → M3.1 c = M.1 c := fun c c1 c2 => by
        rw [(f3 c (fun q => by have := q.1; omega)).1, show (stI M1 t 6 (iI (sm (fun k => cT F (tQ F k.toNat).1 (tQ F k.toNat).2 0 0) ((k : Int) + 1)))).1 c = M1.1 c from by funext z; exact rI_ng (by omega), (f1 c (fun q => by have := q.2; omega)).1]
      obtain ⟨M', e, f, B, u1, u2⟩ := ih (k + 1) M3 (by omega) (by omega) (hG.fr fA (fun x a b q => by have := q.1; have := q.2; omega)) ⟨by rw [mt0 2 (by decide)]; exact t2, by rw [mc (t + 7) (by omega) (by omega)]; exact t3, by rw [mc (t + 4) (by omega) (by omega), mc (t + 5) (by omega) (by omega), mc (t + 6) (by omega) (by omega)]; exact t4⟩ (by rw [(f3 t (fun q => by have := q.1; omega)).1, rI_eq]; rfl) (fun s s0 s1 => by rw [T3 s s0 s1]; rfl)
      refine ⟨M', ?_, fA.trans f, B, by rw [u1, mt0 1 (by decide)], by rw [u2, mt0 13 (by decide)]⟩
      have ec : M.1 t 6 + iI (cT F (tQ F k).1 (tQ F k).2 0 0) = iI (sm (fun k => cT F (tQ F k.toNat).1 (tQ F k.toNat).2 0 0) ((k : Int) + 1)) := by
        rw [hc, iI_add, sm_s _ (by omega)]
        rfl
      rw [lX0_refresh_51_s, ← e]
      simp (disch := omega) only [iI_add, iI_sub, iI_mul, iI_neg, iI_nat, addm1, ixkI, ↓sbind, sbind, ↓bdS, bdS, ↓nm_eq, ↓jn_eq, iI_lt, iI_le, iI_eq, k_0, k_1, k_2, k_3, k_4, k_5, k_6, k_7, k_8, k_9, k_10, k_11, k_12, k_13, k_14, k_15, k_16, k_17, k_18, k_19, k_20, k_21, k_22, k_23, k_24, k_27, k_30, k_32, k_48, k_57, k_59, k_60, k_61, k_62, k_63, k_64, k_72, k_78, k_80, k_82, k_97, k_99, k_100, k_122, k_244, k_255, k_268, k_280, k_300, k_432, k_650, k_900, k_901, k_999, k_1700, k_2600, k_2601, k_2602, k_2603, k_2604, k_2610, k_2618, k_2682, k_2777, k_2844, k_2868, k_2880, k_3245, k_3250, k_9551, k_9999, k_65536, k_100000, k_999999, k_1000000, k_2147483647, lt_T, lt_F, le_T, le_F, eq_T, eq_F, ↓reduceIte, not_true_eq_false, not_false_eq_true, or_true, or_false, true_or, false_or, and_true, true_and, and_false, false_and, t2, Int.toNat_natCast, r1, r2, e1]
      rw [ec]
      have g1 : (stI M1 t 6 (iI (sm (fun k => cT F (tQ F k.toNat).1 (tQ F k.toNat).2 0 0) ((k : Int) + 1)))).1 (t + 4) k = iI (tQ F k).1 := by rw [rI_ng (by omega), (f1 (t + 4) (fun q => by have := q.2; omega)).1]; exact r1
      have g2 : (stI M1 t 6 (iI (sm (fun k => cT F (tQ F k.toNat).1 (tQ F k.toNat).2 0 0) ((k : Int) + 1)))).1 (t + 5) k = iI (tQ F k).2 := by rw [rI_ng (by omega), (f1 (t + 5) (fun q => by have := q.2; omega)).1]; exact r2
      simp (disch := omega) only [iI_add, iI_sub, iI_mul, iI_neg, iI_nat, addm1, ixkI, ↓sbind, sbind, ↓bdS, bdS, ↓nm_eq, ↓jn_eq, iI_lt, iI_le, iI_eq, k_0, k_1, k_2, k_3, k_4, k_5, k_6, k_7, k_8, k_9, k_10, k_11, k_12, k_13, k_14, k_15, k_16, k_17, k_18, k_19, k_20, k_21, k_22, k_23, k_24, k_27, k_30, k_32, k_48, k_57, k_59, k_60, k_61, k_62, k_63, k_64, k_72, k_78, k_80, k_82, k_97, k_99, k_100, k_122, k_244, k_255, k_268, k_280, k_300, k_432, k_650, k_900, k_901, k_999, k_1700, k_2600, k_2601, k_2602, k_2603, k_2604, k_2610, k_2618, k_2682, k_2777, k_2844, k_2868, k_2880, k_3245, k_3250, k_9551, k_9999, k_65536, k_100000, k_999999, k_1000000, k_2147483647, lt_T, lt_F, le_T, le_F, eq_T, eq_F, ↓reduceIte, not_true_eq_false, not_false_eq_true, or_true, or_false, true_or, false_or, and_true, true_and, and_false, false_and, g1, g2, e3]
      rfl
    · have hkk : k = s_cn F := by omega
      obtain ⟨M1, e1, f1, u1, b7, b9, b11⟩ := c_numberBeds (t := t) w hd hφ hG (fun s s0 s1 => by rw [hg s s0 s1, hkk]; rfl)
      refine ⟨M1, ?_, f1.mono (fun x q => ⟨by omega, by omega⟩), ⟨by rw [u1 2 (by decide)]; exact t2, by rw [u1 6 (by decide), hc, hkk]; rfl, b7, ?_, b9, b11⟩, u1 1 (by decide), u1 13 (by decide)⟩
      · rw [lX0_refresh_51_s]
        simp (disch := omega) only [iI_add, iI_sub, iI_mul, iI_neg, iI_nat, addm1, ixkI, ↓sbind, sbind, ↓bdS, bdS, ↓nm_eq, ↓jn_eq, iI_lt, iI_le, iI_eq, k_0, k_1, k_2, k_3, k_4, k_5, k_6, k_7, k_8, k_9, k_10, k_11, k_12, k_13, k_14, k_15, k_16, k_17, k_18, k_19, k_20, k_21, k_22, k_23, k_24, k_27, k_30, k_32, k_48, k_57, k_59, k_60, k_61, k_62, k_63, k_64, k_72, k_78, k_80, k_82, k_97, k_99, k_100, k_122, k_244, k_255, k_268, k_280, k_300, k_432, k_650, k_900, k_901, k_999, k_1700, k_2600, k_2601, k_2602, k_2603, k_2604, k_2610, k_2618, k_2682, k_2777, k_2844, k_2868, k_2880, k_3245, k_3250, k_9551, k_9999, k_65536, k_100000, k_999999, k_1000000, k_2147483647, lt_T, lt_F, le_T, le_F, eq_T, eq_F, ↓reduceIte, not_true_eq_false, not_false_eq_true, or_true, or_false, true_or, false_or, and_true, true_and, and_false, false_and, t2, e1]
      · rw [(f1 (t + 4) (fun q => by omega)).1, (f1 (t + 5) (fun q => by omega)).1, (f1 (t + 6) (fun q => by omega)).1]
        exact t4
theorem c_refresh (w : WF F) (hd : t + 14 ≤ g ∨ g + 13 < t) {φ : Nat} (hφ : 2000 < φ) (G : GR g F M) (hs : M.1 t 1 = iI 1 ∨ (M.1 t 1 = iI 0 ∧ BC t F M)) : ∃ M', fX0_refresh φ t g M = some ((), M') ∧ Fr (Rg t (t + 11)) M M' ∧ BC t F M' ∧ M'.1 t 1 = iI 0 ∧ (M'.1 t 13 = iI 1 ∨ M' = M) := by
  have n1 := w.n1
  rcases hs with hs | ⟨hs, hB⟩
  · have hF : Fr (Rg t (t + 11)) M (stI (stI M t 1 (iI 0)) t 13 (iI 1)) := Fr.stI ⟨by omega, by omega⟩ (Fr.stI ⟨by omega, by omega⟩ (Fr.refl M))
    obtain ⟨M1, e1, f1, T1, u1⟩ := c_growTree (t := t) w hd hφ (G.fr hF (fun x a b q => by have := q.1; have := q.2; omega))
    have f1' : Fr (Rg t (t + 11)) M M1 := hF.trans (f1.mono fun x q => ⟨by omega, by omega⟩)
    have hF2 : Fr (Rg t (t + 11)) M1 (stI M1 t 6 (iI 0)) := Fr.stI ⟨by omega, by omega⟩ (Fr.refl M1)
    obtain ⟨M2, e2, f2, T2⟩ := c_ref30 (g := g) (t := t) (fun M7 => lX0_refresh_51 φ t g φ (iI 0) M7) φ 0 (by omega) (by omega) (by omega) (stI M1 t 6 (iI 0)) (fun y a b => by omega)
    have f2' : Fr (Rg t (t + 11)) M M2 := f1'.trans (hF2.trans (f2.mono fun x q => ⟨by have := q.1; omega, by have := q.2; omega⟩))
    have mt0 : ∀ j, j ≠ 6 → M2.1 t j = M1.1 t j := fun j hj => by rw [(f2 t (fun q => by have := q.1; omega)).1, rI_nk hj]
    have mc : ∀ c, t + 4 ≤ c → c ≤ t + 7 → M2.1 c = M1.1 c := fun c c1 c2 => by
      rw [(f2 c (fun q => by have := q.1; omega)).1]
      funext z
      exact rI_ng (by omega)
    obtain ⟨t2, t3, t4⟩ := T1
    obtain ⟨M3, e3, f3, B3, v1, v2⟩ := c_ref51 (t := t) w hd hφ φ 0 M2 (by omega) (by unfold s_cn; omega) (G.fr f2' (fun x a b q => by have := q.1; have := q.2; omega)) ⟨by rw [mt0 2 (by decide)]; exact t2, by rw [mc (t + 7) (by omega) (by omega)]; exact t3, by rw [mc (t + 4) (by omega) (by omega), mc (t + 5) (by omega) (by omega), mc (t + 6) (by omega) (by omega)]; exact t4⟩ (by rw [(f2 t (fun q => by have := q.1; omega)).1]; exact rI_eq _ _ _ _) T2
    refine ⟨M3, ?_, f2'.trans f3, B3, ?_, Or.inl ?_⟩
    · have e3' : lX0_refresh_51 φ t g φ (iI 0) M2 = some ((), M3) := e3
      rw [← e3', ← e2]
      unfold fX0_refresh
      simp (disch := omega) only [iI_add, iI_sub, iI_mul, iI_neg, iI_nat, addm1, ixkI, ↓sbind, sbind, ↓bdS, bdS, ↓nm_eq, ↓jn_eq, iI_lt, iI_le, iI_eq, k_0, k_1, k_2, k_3, k_4, k_5, k_6, k_7, k_8, k_9, k_10, k_11, k_12, k_13, k_14, k_15, k_16, k_17, k_18, k_19, k_20, k_21, k_22, k_23, k_24, k_27, k_30, k_32, k_48, k_57, k_59, k_60, k_61, k_62, k_63, k_64, k_72, k_78, k_80, k_82, k_97, k_99, k_100, k_122, k_244, k_255, k_268, k_280, k_300, k_432, k_650, k_900, k_901, k_999, k_1700, k_2600, k_2601, k_2602, k_2603, k_2604, k_2610, k_2618, k_2682, k_2777, k_2844, k_2868, k_2880, k_3245, k_3250, k_9551, k_9999, k_65536, k_100000, k_999999, k_1000000, k_2147483647, lt_T, lt_F, le_T, le_F, eq_T, eq_F, ↓reduceIte, not_true_eq_false, not_false_eq_true, or_true, or_false, true_or, false_or, and_true, true_and, and_false, false_and, hs, e1]
    · rw [v1, mt0 1 (by decide), u1 1 (by decide), rI_nk (by decide)]
      exact rI_eq _ _ _ _
    · rw [v2, mt0 13 (by decide), u1 13 (by decide)]
      exact rI_eq _ _ _ _
  · refine ⟨M, ?_, Fr.refl M, hB, hs, Or.inr rfl⟩
    unfold fX0_refresh
    simp (disch := omega) only [iI_add, iI_sub, iI_mul, iI_neg, iI_nat, addm1, ixkI, ↓sbind, sbind, ↓bdS, bdS, ↓nm_eq, ↓jn_eq, iI_lt, iI_le, iI_eq, k_0, k_1, k_2, k_3, k_4, k_5, k_6, k_7, k_8, k_9, k_10, k_11, k_12, k_13, k_14, k_15, k_16, k_17, k_18, k_19, k_20, k_21, k_22, k_23, k_24, k_27, k_30, k_32, k_48, k_57, k_59, k_60, k_61, k_62, k_63, k_64, k_72, k_78, k_80, k_82, k_97, k_99, k_100, k_122, k_244, k_255, k_268, k_280, k_300, k_432, k_650, k_900, k_901, k_999, k_1700, k_2600, k_2601, k_2602, k_2603, k_2604, k_2610, k_2618, k_2682, k_2777, k_2844, k_2868, k_2880, k_3245, k_3250, k_9551, k_9999, k_65536, k_100000, k_999999, k_1000000, k_2147483647, lt_T, lt_F, le_T, le_F, eq_T, eq_F, ↓reduceIte, not_true_eq_false, not_false_eq_true, or_true, or_false, true_or, false_or, and_true, true_and, and_false, false_and, hs]
end CB3
