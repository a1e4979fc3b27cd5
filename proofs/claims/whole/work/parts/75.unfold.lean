/-! the rock of each unit of a hole -/
section UY
variable {m g : Nat} {F : Fld} {M : Mem}
def s_rk (F : Fld) (h d : Int) : Int := if 0 ≤ d then (if s_unit F h d = -1 then -1 else F 4 h (s_unit F h d)) else -1
theorem s_top_s (F : Fld) (h : Int) {l : Int} (hl : 0 ≤ l) : s_top F h (l + 1) = s_top F h l + F 5 h l := sm_s (fun l => F 5 h l) hl
theorem s_top_m (w : WF F) {h i k : Int} (hh : 0 ≤ h ∧ h < F 0 1 0) (hi : 0 ≤ i) (hik : i ≤ k) (hk : k ≤ F 3 h 2) : s_top F h i ≤ s_top F h k := sm_mono (f := fun l => F 5 h l) (N := F 3 h 2) (fun l a b => by
  have := w.th hh ⟨a, b⟩
  show 0 ≤ F 5 h l
  omega) hi hik hk
theorem s_unit_in (w : WF F) {h d l : Int} (hh : 0 ≤ h ∧ h < F 0 1 0) (hl : 0 ≤ l ∧ l < F 3 h 2) (h1 : s_top F h l ≤ d) (h2 : d < s_top F h (l + 1)) : s_unit F h d = l := by
  have hn := w.nl hh
  unfold s_unit
  rcases ff_rng (fun l => decide (d < s_top F h (l + 1))) (F 3 h 2) 0 (by omega) (by omega) with ⟨a, b⟩ | ⟨a, b, c, e⟩
  · have := of_decide_eq_false (b l hl.1 hl.2)
    omega
  · have c1 := of_decide_eq_true c
    by_cases hc : ff (fun l => decide (d < s_top F h (l + 1))) (F 3 h 2) 0 < l
    · have := s_top_m w hh (i := ff (fun l => decide (d < s_top F h (l + 1))) (F 3 h 2) 0 + 1) (k := l) (by omega) (by omega) (by omega)
      omega
    · by_cases hc2 : l < ff (fun l => decide (d < s_top F h (l + 1))) (F 3 h 2) 0
      · have := of_decide_eq_false (e l (by omega) hc2)
        omega
      · omega
theorem s_unit_out (w : WF F) {h d : Int} (hh : 0 ≤ h ∧ h < F 0 1 0) (h1 : s_top F h (F 3 h 2) ≤ d) : s_unit F h d = -1 := by
  have hn := w.nl hh
  unfold s_unit
  rcases ff_rng (fun l => decide (d < s_top F h (l + 1))) (F 3 h 2) 0 (by omega) (by omega) with ⟨a, b⟩ | ⟨a, b, c, e⟩
  · exact a
  · have c1 := of_decide_eq_true c
    have := s_top_m w hh (i := ff (fun l => decide (d < s_top F h (l + 1))) (F 3 h 2) 0 + 1) (k := F 3 h 2) (by omega) (by omega) (by omega)
    omega
theorem s_unit_no (w : WF F) {h d : Int} (hh : 0 ≤ h ∧ h < F 0 1 0) (h1 : s_unit F h d = -1) : s_top F h (F 3 h 2) ≤ d ∨ F 3 h 2 = 0 := by
  have hn := w.nl hh
  unfold s_unit at h1
  by_cases h0 : F 3 h 2 = 0
  · exact Or.inr h0
  · rcases ff_rng (fun l => decide (d < s_top F h (l + 1))) (F 3 h 2) 0 (by omega) (by omega) with ⟨a, b⟩ | ⟨a, b, c, e⟩
    · have := of_decide_eq_false (b (F 3 h 2 - 1) (by omega) (by omega))
      rw [show F 3 h 2 - 1 + 1 = F 3 h 2 from by omega] at this
      omega
    · omega
theorem s_unit_rg (w : WF F) {h d : Int} (hh : 0 ≤ h ∧ h < F 0 1 0) : s_unit F h d = -1 ∨ (0 ≤ s_unit F h d ∧ s_unit F h d < F 3 h 2) := by
  have hn := w.nl hh
  unfold s_unit
  rcases ff_rng (fun l => decide (d < s_top F h (l + 1))) (F 3 h 2) 0 (by omega) (by omega) with ⟨a, b⟩ | ⟨a, b, c, e⟩
  · exact Or.inl a
  · exact Or.inr ⟨a, b⟩
theorem s_rk_bd (w : WF F) {h d : Int} (hh : 0 ≤ h ∧ h < F 0 1 0) : -1 ≤ s_rk F h d ∧ s_rk F h d ≤ 7 := by
  have h0 := w.n0
  unfold s_rk
  by_cases hd : 0 ≤ d
  · rw [if_pos hd]
    rcases s_unit_rg w (d := d) hh with hc | hc
    · rw [if_pos hc]; omega
    · have := w.rk hh hc
      rw [if_neg (by omega)]; omega
  · rw [if_neg hd]; omega
theorem m_rockAt (w : WF F) (G : MR m 0 F M) {h d : Int} (hh : 0 ≤ h ∧ h < F 0 1 0) (hd : -1000 ≤ d ∧ d ≤ 1000) {φ : Nat} (hφ : 100 < φ) : fX11_rockAt φ m (iI h) (iI d) M = some (iI (s_rk F h d)) := by
  have hn := w.nl hh
  have h1 := w.n1
  have e1 := m_layersOf G (h := h) (by omega)
  unfold fX11_rockAt
  rw [k_0]
  by_cases h0 : d < 0
  · rw [show s_rk F h d = -1 from if_neg (by omega)]
    obtain ⟨k, rfl⟩ : ∃ k, φ = k + 1 := ⟨φ - 1, by omega⟩
    rw [lX11_rockAt_5]
    by_cases hc : F 3 h 2 ≤ 0
    · simp (disch := omega) only [iI_add, iI_sub, iI_mul, iI_neg, iI_nat, addm1, ixkI, ↓sbind, sbind, ↓bdS, bdS, ↓nm_eq, ↓jn_eq, iI_lt, iI_le, iI_eq, k_0, k_1, k_2, k_3, k_4, k_5, k_6, k_7, k_8, k_9, k_10, k_11, k_12, k_13, k_14, k_15, k_16, k_17, k_18, k_19, k_20, k_21, k_22, k_23, k_24, k_27, k_30, k_32, k_48, k_57, k_59, k_60, k_61, k_62, k_63, k_64, k_72, k_78, k_80, k_82, k_97, k_99, k_100, k_122, k_244, k_255, k_268, k_280, k_300, k_432, k_650, k_900, k_901, k_999, k_1700, k_2600, k_2601, k_2602, k_2603, k_2604, k_2610, k_2618, k_2682, k_2777, k_2844, k_2868, k_2880, k_3245, k_3250, k_9551, k_9999, k_65536, k_100000, k_999999, k_1000000, k_2147483647, lt_T, lt_F, le_T, le_F, eq_T, eq_F, ↓reduceIte, not_true_eq_false, not_false_eq_true, or_true, or_false, true_or, false_or, and_true, true_and, and_false, false_and, e1]
    · simp (disch := omega) only [iI_add, iI_sub, iI_mul, iI_neg, iI_nat, addm1, ixkI, ↓sbind, sbind, ↓bdS, bdS, ↓nm_eq, ↓jn_eq, iI_lt, iI_le, iI_eq, k_0, k_1, k_2, k_3, k_4, k_5, k_6, k_7, k_8, k_9, k_10, k_11, k_12, k_13, k_14, k_15, k_16, k_17, k_18, k_19, k_20, k_21, k_22, k_23, k_24, k_27, k_30, k_32, k_48, k_57, k_59, k_60, k_61, k_62, k_63, k_64, k_72, k_78, k_80, k_82, k_97, k_99, k_100, k_122, k_244, k_255, k_268, k_280, k_300, k_432, k_650, k_900, k_901, k_999, k_1700, k_2600, k_2601, k_2602, k_2603, k_2604, k_2610, k_2618, k_2682, k_2777, k_2844, k_2868, k_2880, k_3245, k_3250, k_9551, k_9999, k_65536, k_100000, k_999999, k_1000000, k_2147483647, lt_T, lt_F, le_T, le_F, eq_T, eq_F, ↓reduceIte, not_true_eq_false, not_false_eq_true, or_true, or_false, true_or, false_or, and_true, true_and, and_false, false_and, e1]
  · rw [show s_rk F h d = if s_unit F h d = -1 then -1 else F 4 h (s_unit F h d) from if_pos (by omega)]
    have key : ∀ (k : Nat) (l : Int), 0 ≤ l → l ≤ F 3 h 2 → F 3 h 2 < k + l → s_top F h l ≤ d → lX11_rockAt_5 m (iI h) M k (iI (d - s_top F h l)) (iI l) = some (iI (if s_unit F h d = -1 then -1 else F 4 h (s_unit F h d))) := by
      refine lup (P := fun k l => s_top F h l ≤ d → lX11_rockAt_5 m (iI h) M k (iI (d - s_top F h l)) (iI l) = some (iI (if s_unit F h d = -1 then -1 else F 4 h (s_unit F h d)))) (N := F 3 h 2) (fun k ht => ?_) (fun k l l0 l1 ih ht => ?_)
      · rw [if_pos (s_unit_out w hh ht), lX11_rockAt_5]
        simp (disch := omega) only [iI_add, iI_sub, iI_mul, iI_neg, iI_nat, addm1, ixkI, ↓sbind, sbind, ↓bdS, bdS, ↓nm_eq, ↓jn_eq, iI_lt, iI_le, iI_eq, k_0, k_1, k_2, k_3, k_4, k_5, k_6, k_7, k_8, k_9, k_10, k_11, k_12, k_13, k_14, k_15, k_16, k_17, k_18, k_19, k_20, k_21, k_22, k_23, k_24, k_27, k_30, k_32, k_48, k_57, k_59, k_60, k_61, k_62, k_63, k_64, k_72, k_78, k_80, k_82, k_97, k_99, k_100, k_122, k_244, k_255, k_268, k_280, k_300, k_432, k_650, k_900, k_901, k_999, k_1700, k_2600, k_2601, k_2602, k_2603, k_2604, k_2610, k_2618, k_2682, k_2777, k_2844, k_2868, k_2880, k_3245, k_3250, k_9551, k_9999, k_65536, k_100000, k_999999, k_1000000, k_2147483647, lt_T, lt_F, le_T, le_F, eq_T, eq_F, ↓reduceIte, not_true_eq_false, not_false_eq_true, or_true, or_false, true_or, false_or, and_true, true_and, and_false, false_and, e1]
      · have e2 := m_thickOf G (h := h) (l := l) (by omega) (by omega)
        have e3 := m_rockOf G (h := h) (l := l) (by omega) (by omega)
        have e4 := w.th hh ⟨l0, l1⟩
        have e5 := w.top hh (n := l) ⟨l0, by omega⟩
        have e6 := s_top_s F h l0
        rw [lX11_rockAt_5]
        by_cases hc : F 5 h l ≤ d - s_top F h l
        · have i1 := ih (by omega)
          rw [show d - s_top F h (l + 1) = d - s_top F h l - F 5 h l from by omega] at i1
          simp (disch := omega) only [iI_add, iI_sub, iI_mul, iI_neg, iI_nat, addm1, ixkI, ↓sbind, sbind, ↓bdS, bdS, ↓nm_eq, ↓jn_eq, iI_lt, iI_le, iI_eq, k_0, k_1, k_2, k_3, k_4, k_5, k_6, k_7, k_8, k_9, k_10, k_11, k_12, k_13, k_14, k_15, k_16, k_17, k_18, k_19, k_20, k_21, k_22, k_23, k_24, k_27, k_30, k_32, k_48, k_57, k_59, k_60, k_61, k_62, k_63, k_64, k_72, k_78, k_80, k_82, k_97, k_99, k_100, k_122, k_244, k_255, k_268, k_280, k_300, k_432, k_650, k_900, k_901, k_999, k_1700, k_2600, k_2601, k_2602, k_2603, k_2604, k_2610, k_2618, k_2682, k_2777, k_2844, k_2868, k_2880, k_3245, k_3250, k_9551, k_9999, k_65536, k_100000, k_999999, k_1000000, k_2147483647, lt_T, lt_F, le_T, le_F, eq_T, eq_F, ↓reduceIte, not_true_eq_false, not_false_eq_true, or_true, or_false, true_or, false_or, and_true, true_and, and_false, false_and, e1, e2, i1]
        · rw [s_unit_in w hh ⟨l0, l1⟩ ht (by omega), if_neg (by omega : ¬ l = -1)]
          simp (disch := omega) only [iI_add, iI_sub, iI_mul, iI_neg, iI_nat, addm1, ixkI, ↓sbind, sbind, ↓bdS, bdS, ↓nm_eq, ↓jn_eq, iI_lt, iI_le, iI_eq, k_0, k_1, k_2, k_3, k_4, k_5, k_6, k_7, k_8, k_9, k_10, k_11, k_12, k_13, k_14, k_15, k_16, k_17, k_18, k_19, k_20, k_21, k_22, k_23, k_24, k_27, k_30, k_32, k_48, k_57, k_59, k_60, k_61, k_62, k_63, k_64, k_72, k_78, k_80, k_82, k_97, k_99, k_100, k_122, k_244, k_255, k_268, k_280, k_300, k_432, k_650, k_900, k_901, k_999, k_1700, k_2600, k_2601, k_2602, k_2603, k_2604, k_2610, k_2618, k_2682, k_2777, k_2844, k_2868, k_2880, k_3245, k_3250, k_9551, k_9999, k_65536, k_100000, k_999999, k_1000000, k_2147483647, lt_T, lt_F, le_T, le_F, eq_T, eq_F, ↓reduceIte, not_true_eq_false, not_false_eq_true, or_true, or_false, true_or, false_or, and_true, true_and, and_false, false_and, e1, e2, e3]
    have k0 := key φ 0 (by omega) (by omega) (by omega) (by
      show sm (fun l => F 5 h l) 0 ≤ d
      rw [sm_0]; omega)
    rw [show d - s_top F h 0 = d from by
      show d - sm (fun l => F 5 h l) 0 = d
      rw [sm_0]; omega] at k0
    exact k0
/-- what the class keeps for a unit: -2 where no rock lies -/
def u_rk (F : Fld) (h d : Int) : Int := if s_rk F h d = -1 then -2 else s_rk F h d
def UR (t : Nat) (F : Fld) (h : Int) (M : Mem) : Prop := ∀ i : Int, 0 ≤ i → i < 80 → M.1 (t + 2) i.toNat = iI (u_rk F h i)
theorem u_rk_bd (w : WF F) {h d : Int} (hh : 0 ≤ h ∧ h < F 0 1 0) : -2 ≤ u_rk F h d ∧ u_rk F h d ≤ 7 := by
  have := s_rk_bd w (d := d) hh
  unfold u_rk
  by_cases hc : s_rk F h d = -1
  · rw [if_pos hc]; omega
  · rw [if_neg hc]; omega
theorem u_rk_in (w : WF F) {h d l : Int} (hh : 0 ≤ h ∧ h < F 0 1 0) (hl : 0 ≤ l ∧ l < F 3 h 2) (hd : 0 ≤ d) (h1 : s_top F h l ≤ d) (h2 : d < s_top F h (l + 1)) : u_rk F h d = F 4 h l := by
  have e := s_unit_in w hh hl h1 h2
  have e2 : s_rk F h d = F 4 h l := by
    unfold s_rk
    rw [if_pos hd, e, if_neg (by omega)]
  have e3 := w.rk hh hl
  unfold u_rk
  rw [e2, if_neg (by omega)]
theorem u_rk_out (w : WF F) {h d : Int} (hh : 0 ≤ h ∧ h < F 0 1 0) (hd : 0 ≤ d) (h1 : s_top F h (F 3 h 2) ≤ d) : u_rk F h d = -2 := by
  have e := s_unit_out w hh h1
  have e2 : s_rk F h d = -1 := by
    unfold s_rk
    rw [if_pos hd, if_pos e]
  unfold u_rk
  rw [if_pos e2]
theorem c_unf_72 (t : Nat) : ∀ (d : Nat) (i : Int) (M : Mem) (k : Nat), 80 - i = d → 0 ≤ i → d < k → ∃ M1, lX4_unfold_72 t k (iI i) M = some ((), M1) ∧ (∀ y : Int, i ≤ y → y < 80 → M1.1 (t + 2) y.toNat = iI (-2)) ∧ (∀ y : Nat, (y : Int) < i → M1.1 (t + 2) y = M.1 (t + 2) y) ∧ Fr (Rg (t + 2) (t + 2)) M M1 := by
  intro d
  induction d with
  | zero =>
    intro i M k hd hi hk
    obtain ⟨k, rfl⟩ : ∃ q, k = q + 1 := ⟨k - 1, by omega⟩
    refine ⟨M, ?_, fun y h0 h1 => by omega, fun y h => rfl, Fr.refl M⟩
    rw [lX4_unfold_72]
    simp (disch := omega) only [iI_add, iI_sub, iI_mul, iI_neg, iI_nat, addm1, ixkI, ↓sbind, sbind, ↓bdS, bdS, ↓nm_eq, ↓jn_eq, iI_lt, iI_le, iI_eq, k_0, k_1, k_2, k_3, k_4, k_5, k_6, k_7, k_8, k_9, k_10, k_11, k_12, k_13, k_14, k_15, k_16, k_17, k_18, k_19, k_20, k_21, k_22, k_23, k_24, k_27, k_30, k_32, k_48, k_57, k_59, k_60, k_61, k_62, k_63, k_64, k_72, k_78, k_80, k_82, k_97, k_99, k_100, k_122, k_244, k_255, k_268, k_280, k_300, k_432, k_650, k_900, k_901, k_999, k_1700, k_2600, k_2601, k_2602, k_2603, k_2604, k_2610, k_2618, k_2682, k_2777, k_2844, k_2868, k_2880, k_3245, k_3250, k_9551, k_9999, k_65536, k_100000, k_999999, k_1000000, k_2147483647, lt_T, lt_F, le_T, le_F, eq_T, eq_F, ↓reduceIte, not_true_eq_false, not_false_eq_true, or_true, or_false, true_or, false_or, and_true, true_and, and_false, false_and]
  | succ d ih =>
    intro i M k hd hi hk
    obtain ⟨k, rfl⟩ : ∃ q, k = q + 1 := ⟨k - 1, by omega⟩
    obtain ⟨M1, r1, r2, r3, r4⟩ := ih (i + 1) (stI M (t + 2) i.toNat (iI (-2))) k (by omega) (by omega) (by omega)
    refine ⟨M1, ?_, fun y h0 h1 => ?_, fun y h => ?_, (Fr.stI ⟨by omega, by omega⟩ (Fr.refl M)).trans r4⟩
    · rw [lX4_unfold_72]
      simp (disch := omega) only [iI_add, iI_sub, iI_mul, iI_neg, iI_nat, addm1, ixkI, ↓sbind, sbind, ↓bdS, bdS, ↓nm_eq, ↓jn_eq, iI_lt, iI_le, iI_eq, k_0, k_1, k_2, k_3, k_4, k_5, k_6, k_7, k_8, k_9, k_10, k_11, k_12, k_13, k_14, k_15, k_16, k_17, k_18, k_19, k_20, k_21, k_22, k_23, k_24, k_27, k_30, k_32, k_48, k_57, k_59, k_60, k_61, k_62, k_63, k_64, k_72, k_78, k_80, k_82, k_97, k_99, k_100, k_122, k_244, k_255, k_268, k_280, k_300, k_432, k_650, k_900, k_901, k_999, k_1700, k_2600, k_2601, k_2602, k_2603, k_2604, k_2610, k_2618, k_2682, k_2777, k_2844, k_2868, k_2880, k_3245, k_3250, k_9551, k_9999, k_65536, k_100000, k_999999, k_1000000, k_2147483647, lt_T, lt_F, le_T, le_F, eq_T, eq_F, ↓reduceIte, not_true_eq_false, not_false_eq_true, or_true, or_false, true_or, false_or, and_true, true_and, and_false, false_and, show (-2 : Int32) = iI (-2) from rfl, r1]
    · by_cases hy : y = i
      · rw [r3 _ (by omega), hy]; exact rI_at rfl rfl
      · exact r2 y (by omega) h1
    · rw [r3 y (by omega)]; exact rI_nk (by omega)
theorem c_unf_31 (w : WF F) (K : Int32 → Mem → Option (Unit × Mem)) (t g : Nat) {h l : Int} (hh : 0 ≤ h ∧ h < F 0 1 0) (hl : 0 ≤ l ∧ l < F 3 h 2) (hd : t + 2 < g ∨ g + 13 < t + 2) : ∀ (d : Nat) (i : Int) (M : Mem) (k : Nat), s_top F h (l + 1) - i ≤ d → (i = 80 ∨ s_top F h l ≤ i) → 0 ≤ i → i ≤ 80 → i ≤ s_top F h (l + 1) → d < k → GR g F M → (∀ y : Int, 0 ≤ y → y < i → M.1 (t + 2) y.toNat = iI (u_rk F h y)) → ∃ M1 i1, (i1 = 80 ∨ i1 = s_top F h (l + 1)) ∧ 0 ≤ i1 ∧ i1 ≤ 80 ∧ i1 ≤ s_top F h (l + 1) ∧ lX4_unfold_31 K t g (iI h) (iI l) (iI (s_top F h (l + 1))) k (iI i) M = K (iI i1) M1 ∧ GR g F M1 ∧ (∀ y : Int, 0 ≤ y → y < i1 → M1.1 (t + 2) y.toNat = iI (u_rk F h y)) ∧ Fr (Rg (t + 2) (t + 2)) M M1 := by
  have hn := w.nl hh
  have h1 := w.n1
  have e5 := w.top hh (n := l + 1) ⟨by omega, by omega⟩
  intro d
  induction d with
  | zero =>
    intro i M k hd' hi0 hi hi8 hit hk G hy
    obtain ⟨k, rfl⟩ : ∃ q, k = q + 1 := ⟨k - 1, by omega⟩
    refine ⟨M, i, by omega, hi, hi8, hit, ?_, G, hy, Fr.refl M⟩
    rw [lX4_unfold_31]
    simp (disch := omega) only [iI_add, iI_sub, iI_mul, iI_neg, iI_nat, addm1, ixkI, ↓sbind, sbind, ↓bdS, bdS, ↓nm_eq, ↓jn_eq, iI_lt, iI_le, iI_eq, k_0, k_1, k_2, k_3, k_4, k_5, k_6, k_7, k_8, k_9, k_10, k_11, k_12, k_13, k_14, k_15, k_16, k_17, k_18, k_19, k_20, k_21, k_22, k_23, k_24, k_27, k_30, k_32, k_48, k_57, k_59, k_60, k_61, k_62, k_63, k_64, k_72, k_78, k_80, k_82, k_97, k_99, k_100, k_122, k_244, k_255, k_268, k_280, k_300, k_432, k_650, k_900, k_901, k_999, k_1700, k_2600, k_2601, k_2602, k_2603, k_2604, k_2610, k_2618, k_2682, k_2777, k_2844, k_2868, k_2880, k_3245, k_3250, k_9551, k_9999, k_65536, k_100000, k_999999, k_1000000, k_2147483647, lt_T, lt_F, le_T, le_F, eq_T, eq_F, ↓reduceIte, not_true_eq_false, not_false_eq_true, or_true, or_false, true_or, false_or, and_true, true_and, and_false, false_and]
  | succ d ih =>
    intro i M k hd' hi0 hi hi8 hit hk G hy
    obtain ⟨k, rfl⟩ : ∃ q, k = q + 1 := ⟨k - 1, by omega⟩
    by_cases hc : s_top F h (l + 1) ≤ i
    · refine ⟨M, i, by omega, hi, hi8, hit, ?_, G, hy, Fr.refl M⟩
      rw [lX4_unfold_31]
      simp (disch := omega) only [iI_add, iI_sub, iI_mul, iI_neg, iI_nat, addm1, ixkI, ↓sbind, sbind, ↓bdS, bdS, ↓nm_eq, ↓jn_eq, iI_lt, iI_le, iI_eq, k_0, k_1, k_2, k_3, k_4, k_5, k_6, k_7, k_8, k_9, k_10, k_11, k_12, k_13, k_14, k_15, k_16, k_17, k_18, k_19, k_20, k_21, k_22, k_23, k_24, k_27, k_30, k_32, k_48, k_57, k_59, k_60, k_61, k_62, k_63, k_64, k_72, k_78, k_80, k_82, k_97, k_99, k_100, k_122, k_244, k_255, k_268, k_280, k_300, k_432, k_650, k_900, k_901, k_999, k_1700, k_2600, k_2601, k_2602, k_2603, k_2604, k_2610, k_2618, k_2682, k_2777, k_2844, k_2868, k_2880, k_3245, k_3250, k_9551, k_9999, k_65536, k_100000, k_999999, k_1000000, k_2147483647, lt_T, lt_F, le_T, le_F, eq_T, eq_F, ↓reduceIte, not_true_eq_false, not_false_eq_true, or_true, or_false, true_or, false_or, and_true, true_and, and_false, false_and]
    · by_cases hc2 : 80 ≤ i
      · refine ⟨M, i, by omega, hi, hi8, hit, ?_, G, hy, Fr.refl M⟩
        rw [lX4_unfold_31]
        simp (disch := omega) only [iI_add, iI_sub, iI_mul, iI_neg, iI_nat, addm1, ixkI, ↓sbind, sbind, ↓bdS, bdS, ↓nm_eq, ↓jn_eq, iI_lt, iI_le, iI_eq, k_0, k_1, k_2, k_3, k_4, k_5, k_6, k_7, k_8, k_9, k_10, k_11, k_12, k_13, k_14, k_15, k_16, k_17, k_18, k_19, k_20, k_21, k_22, k_23, k_24, k_27, k_30, k_32, k_48, k_57, k_59, k_60, k_61, k_62, k_63, k_64, k_72, k_78, k_80, k_82, k_97, k_99, k_100, k_122, k_244, k_255, k_268, k_280, k_300, k_432, k_650, k_900, k_901, k_999, k_1700, k_2600, k_2601, k_2602, k_2603, k_2604, k_2610, k_2618, k_2682, k_2777, k_2844, k_2868, k_2880, k_3245, k_3250, k_9551, k_9999, k_65536, k_100000, k_999999, k_1000000, k_2147483647, lt_T, lt_F, le_T, le_F, eq_T, eq_F, ↓reduceIte, not_true_eq_false, not_false_eq_true, or_true, or_false, true_or, false_or, and_true, true_and, and_false, false_and]
      · have e1 := c_slot (M := M) h l
        have e2 := G.rk ⟨hh, hl⟩
        have e3 := u_rk_in w hh hl hi (by omega) (by omega : i < s_top F h (l + 1))
        have fr1 : Fr (Rg (t + 2) (t + 2)) M (stI M (t + 2) i.toNat (iI (F 4 h l))) := Fr.stI ⟨by omega, by omega⟩ (Fr.refl M)
        obtain ⟨M1, i1, r1, r2, r3, r4, r5, r6, r7, r8⟩ := ih (i + 1) (stI M (t + 2) i.toNat (iI (F 4 h l))) k (by omega) (by omega) (by omega) (by omega) (by omega) (by omega) (G.fr fr1 (fun x a b q => by have := q.1; have := q.2; omega)) (fun y y0 y1 => by
          by_cases hq : y = i
          · rw [hq, e3]; exact rI_at rfl rfl
          · rw [rI_nk (by omega)]; exact hy y y0 (by omega))
        refine ⟨M1, i1, r1, r2, r3, r4, ?_, r6, r7, fr1.trans r8⟩
        rw [lX4_unfold_31]
        simp (disch := omega) only [iI_add, iI_sub, iI_mul, iI_neg, iI_nat, addm1, ixkI, ↓sbind, sbind, ↓bdS, bdS, ↓nm_eq, ↓jn_eq, iI_lt, iI_le, iI_eq, k_0, k_1, k_2, k_3, k_4, k_5, k_6, k_7, k_8, k_9, k_10, k_11, k_12, k_13, k_14, k_15, k_16, k_17, k_18, k_19, k_20, k_21, k_22, k_23, k_24, k_27, k_30, k_32, k_48, k_57, k_59, k_60, k_61, k_62, k_63, k_64, k_72, k_78, k_80, k_82, k_97, k_99, k_100, k_122, k_244, k_255, k_268, k_280, k_300, k_432, k_650, k_900, k_901, k_999, k_1700, k_2600, k_2601, k_2602, k_2603, k_2604, k_2610, k_2618, k_2682, k_2777, k_2844, k_2868, k_2880, k_3245, k_3250, k_9551, k_9999, k_65536, k_100000, k_999999, k_1000000, k_2147483647, lt_T, lt_F, le_T, le_F, eq_T, eq_F, ↓reduceIte, not_true_eq_false, not_false_eq_true, or_true, or_false, true_or, false_or, and_true, true_and, and_false, false_and, e1, e2, r5]
theorem c_unf_5 (w : WF F) (t g : Nat) {h : Int} (hh : 0 ≤ h ∧ h < F 0 1 0) (hd : t + 2 < g ∨ g + 13 < t + 2) {φ : Nat} (hφ : 20000 ≤ φ) : ∀ (d : Nat) (l i : Int) (M : Mem) (k : Nat), F 3 h 2 - l = d → 0 ≤ l → (i = 80 ∨ i = s_top F h l) → 0 ≤ i → i ≤ 80 → i ≤ s_top F h l → d < k → GR g F M → (∀ y : Int, 0 ≤ y → y < i → M.1 (t + 2) y.toNat = iI (u_rk F h y)) → ∃ M1, lX4_unfold_5 (fun (v7 : Int32) (M8 : Mem) => lX4_unfold_72 t φ v7 M8) φ t g (iI h) k (iI i) (iI l) M = some ((), M1) ∧ UR t F h M1 ∧ Fr (Rg (t + 2) (t + 2)) M M1 := by
  have hn := w.nl hh
  have h1 := w.n1
  intro d
  induction d with
  | zero =>
    intro l i M k hd' hl hi0 hi hi8 hit hk G hy
    obtain ⟨k, rfl⟩ : ∃ q, k = q + 1 := ⟨k - 1, by omega⟩
    have e1 := G.nl hh
    obtain ⟨M1, r1, r2, r3, r4⟩ := c_unf_72 t (80 - i).toNat i M φ (by omega) hi (by omega)
    refine ⟨M1, ?_, fun y y0 y1 => ?_, r4⟩
    · rw [lX4_unfold_5]
      simp (disch := omega) only [iI_add, iI_sub, iI_mul, iI_neg, iI_nat, addm1, ixkI, ↓sbind, sbind, ↓bdS, bdS, ↓nm_eq, ↓jn_eq, iI_lt, iI_le, iI_eq, k_0, k_1, k_2, k_3, k_4, k_5, k_6, k_7, k_8, k_9, k_10, k_11, k_12, k_13, k_14, k_15, k_16, k_17, k_18, k_19, k_20, k_21, k_22, k_23, k_24, k_27, k_30, k_32, k_48, k_57, k_59, k_60, k_61, k_62, k_63, k_64, k_72, k_78, k_80, k_82, k_97, k_99, k_100, k_122, k_244, k_255, k_268, k_280, k_300, k_432, k_650, k_900, k_901, k_999, k_1700, k_2600, k_2601, k_2602, k_2603, k_2604, k_2610, k_2618, k_2682, k_2777, k_2844, k_2868, k_2880, k_3245, k_3250, k_9551, k_9999, k_65536, k_100000, k_999999, k_1000000, k_2147483647, lt_T, lt_F, le_T, le_F, eq_T, eq_F, ↓reduceIte, not_true_eq_false, not_false_eq_true, or_true, or_false, true_or, false_or, and_true, true_and, and_false, false_and, e1, r1]
    · by_cases hq : y < i
      · rw [r3 _ (by omega)]; exact hy y y0 hq
      · rw [r2 y (by omega) y1, u_rk_out w hh y0 (by rw [show F 3 h 2 = l from by omega]; omega)]
  | succ d ih =>
    intro l i M k hd' hl hi0 hi hi8 hit hk G hy
    obtain ⟨k, rfl⟩ : ∃ q, k = q + 1 := ⟨k - 1, by omega⟩
    have e1 := G.nl hh
    have e2 := c_slot (M := M) h l
    have e3 := G.th ⟨hh, hl, (by omega : l < F 3 h 2)⟩
    have e4 := s_top_s F h hl
    have e5 := w.top hh (n := l + 1) ⟨by omega, by omega⟩
    have e6 := w.th hh ⟨hl, (by omega : l < F 3 h 2)⟩
    by_cases hc : i = s_top F h l
    · obtain ⟨M1, i1, r1, r2, r3, r4, r5, r6, r7, r8⟩ := c_unf_31 w (fun (v5 : Int32) (M6 : Mem) => lX4_unfold_5 (fun (v7 : Int32) (M8 : Mem) => lX4_unfold_72 t φ v7 M8) φ t g (iI h) k v5 (iI (l + 1)) M6) t g hh ⟨hl, (by omega : l < F 3 h 2)⟩ hd (s_top F h (l + 1) - i).toNat i M φ (by omega) (by omega) hi hi8 (by omega) (by omega) G hy
      obtain ⟨M2, s1, s2, s3⟩ := ih (l + 1) i1 M1 k (by omega) (by omega) (by omega) r2 r3 r4 (by omega) r6 r7
      refine ⟨M2, ?_, s2, r8.trans s3⟩
      rw [e4, ← hc] at r5
      rw [lX4_unfold_5]
      simp (disch := omega) only [iI_add, iI_sub, iI_mul, iI_neg, iI_nat, addm1, ixkI, ↓sbind, sbind, ↓bdS, bdS, ↓nm_eq, ↓jn_eq, iI_lt, iI_le, iI_eq, k_0, k_1, k_2, k_3, k_4, k_5, k_6, k_7, k_8, k_9, k_10, k_11, k_12, k_13, k_14, k_15, k_16, k_17, k_18, k_19, k_20, k_21, k_22, k_23, k_24, k_27, k_30, k_32, k_48, k_57, k_59, k_60, k_61, k_62, k_63, k_64, k_72, k_78, k_80, k_82, k_97, k_99, k_100, k_122, k_244, k_255, k_268, k_280, k_300, k_432, k_650, k_900, k_901, k_999, k_1700, k_2600, k_2601, k_2602, k_2603, k_2604, k_2610, k_2618, k_2682, k_2777, k_2844, k_2868, k_2880, k_3245, k_3250, k_9551, k_9999, k_65536, k_100000, k_999999, k_1000000, k_2147483647, lt_T, lt_F, le_T, le_F, eq_T, eq_F, ↓reduceIte, not_true_eq_false, not_false_eq_true, or_true, or_false, true_or, false_or, and_true, true_and, and_false, false_and, e1, e2, e3, r5, s1]
    · obtain ⟨M2, s1, s2, s3⟩ := ih (l + 1) i M k (by omega) (by omega) (by omega) hi hi8 (by omega) (by omega) G hy
      refine ⟨M2, ?_, s2, s3⟩
      obtain ⟨φ, rfl⟩ : ∃ q, φ = q + 1 := ⟨φ - 1, by omega⟩
      rw [lX4_unfold_5]
      simp (disch := omega) only [iI_add, iI_sub, iI_mul, iI_neg, iI_nat, addm1, ixkI, ↓sbind, sbind, ↓bdS, bdS, ↓nm_eq, ↓jn_eq, iI_lt, iI_le, iI_eq, k_0, k_1, k_2, k_3, k_4, k_5, k_6, k_7, k_8, k_9, k_10, k_11, k_12, k_13, k_14, k_15, k_16, k_17, k_18, k_19, k_20, k_21, k_22, k_23, k_24, k_27, k_30, k_32, k_48, k_57, k_59, k_60, k_61, k_62, k_63, k_64, k_72, k_78, k_80, k_82, k_97, k_99, k_100, k_122, k_244, k_255, k_268, k_280, k_300, k_432, k_650, k_900, k_901, k_999, k_1700, k_2600, k_2601, k_2602, k_2603, k_2604, k_2610, k_2618, k_2682, k_2777, k_2844, k_2868, k_2880, k_3245, k_3250, k_9551, k_9999, k_65536, k_100000, k_999999, k_1000000, k_2147483647, lt_T, lt_F, le_T, le_F, eq_T, eq_F, ↓reduceIte, not_true_eq_false, not_false_eq_true, or_true, or_false, true_or, false_or, and_true, true_and, and_false, false_and, e1, e2, e3]
      rw [lX4_unfold_31]
      by_cases hc2 : i + F 5 h l ≤ i
      · omega
      · simp (disch := omega) only [iI_add, iI_sub, iI_mul, iI_neg, iI_nat, addm1, ixkI, ↓sbind, sbind, ↓bdS, bdS, ↓nm_eq, ↓jn_eq, iI_lt, iI_le, iI_eq, k_0, k_1, k_2, k_3, k_4, k_5, k_6, k_7, k_8, k_9, k_10, k_11, k_12, k_13, k_14, k_15, k_16, k_17, k_18, k_19, k_20, k_21, k_22, k_23, k_24, k_27, k_30, k_32, k_48, k_57, k_59, k_60, k_61, k_62, k_63, k_64, k_72, k_78, k_80, k_82, k_97, k_99, k_100, k_122, k_244, k_255, k_268, k_280, k_300, k_432, k_650, k_900, k_901, k_999, k_1700, k_2600, k_2601, k_2602, k_2603, k_2604, k_2610, k_2618, k_2682, k_2777, k_2844, k_2868, k_2880, k_3245, k_3250, k_9551, k_9999, k_65536, k_100000, k_999999, k_1000000, k_2147483647, lt_T, lt_F, le_T, le_F, eq_T, eq_F, ↓reduceIte, not_true_eq_false, not_false_eq_true, or_true, or_false, true_or, false_or, and_true, true_and, and_false, false_and, s1]
theorem c_unfold (w : WF F) (G : GR g F M) (t : Nat) {h : Int} (hh : 0 ≤ h ∧ h < F 0 1 0) (hd : t + 2 < g ∨ g + 13 < t + 2) {φ : Nat} (hφ : 20000 ≤ φ) : ∃ M1, fX4_unfold φ t g (iI h) M = some ((), M1) ∧ UR t F h M1 ∧ Fr (Rg (t + 2) (t + 2)) M M1 := by
  have hn := w.nl hh
  have e0 : s_top F h 0 = 0 := sm_0 _
  obtain ⟨M1, r1, r2, r3⟩ := c_unf_5 w t g hh hd hφ (F 3 h 2).toNat 0 0 M φ (by omega) (by omega) (by omega) (by omega) (by omega) (by omega) (by omega) G (fun y y0 y1 => by omega)
  refine ⟨M1, ?_, r2, r3⟩
  unfold fX4_unfold
  rw [k_0]
  exact r1
end UY
