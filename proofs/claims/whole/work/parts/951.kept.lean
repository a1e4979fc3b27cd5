/-! the class's kept words -/
section KP
variable {t : Nat} {M : Mem} {B : Int → Int} {n : Int}
def TX (c : Nat) (B : Int → Int) (n : Int) (M : Mem) : Prop := ∀ k : Int, 0 ≤ k → k < n → M.1 c k.toNat = iI (B k)
theorem s1_len : sLen 1001 = some (iI 123) := by decide +kernel
theorem s1_at {j : Int} (h : 0 ≤ j ∧ j < 123) : sAt 1001 (iI j) = some (iI (chI 1001 j)) := by
  unfold sAt
  rw [show strL.getD (1001 - 1001) 0 = 123 from by decide +kernel, ixkI (by omega), iI_nat (by omega)]
  unfold chI
  rw [iI_of]
theorem s1_bd : ∀ j : Fin 123, 0 ≤ chI 1001 (j.1 : Int) ∧ chI 1001 (j.1 : Int) ≤ 127 := by decide +kernel
theorem s1_b {j : Int} (h : 0 ≤ j ∧ j < 123) : 0 ≤ chI 1001 j ∧ chI 1001 j ≤ 127 := by
  have := s1_bd ⟨j.toNat, by omega⟩
  rw [show ((j.toNat : Nat) : Int) = j from by omega] at this
  exact this
theorem cs_f : ∀ w : Fin 24, 0 ≤ cS (w.1 : Int) ∧ cS (w.1 : Int) < cS ((w.1 : Int) + 1) - 1 ∧ cS ((w.1 : Int) + 1) ≤ 123 ∧ chI 1001 (cS ((w.1 : Int) + 1) - 1) = 32 ∧ cw (w.1 : Int) = cdN (fun k => chI 1001 (cS (w.1 : Int) + k)) (cS ((w.1 : Int) + 1) - 1 - cS (w.1 : Int)).toNat := by decide +kernel
theorem cs_g : ∀ w : Fin 24, ∀ i : Fin 9, (i.1 : Int) < cS ((w.1 : Int) + 1) - 1 - cS (w.1 : Int) → 97 ≤ chI 1001 (cS (w.1 : Int) + (i.1 : Int)) ∧ chI 1001 (cS (w.1 : Int) + (i.1 : Int)) ≤ 122 := by decide +kernel
theorem cs_h : ∀ w : Fin 24, cS ((w.1 : Int) + 1) - 1 - cS (w.1 : Int) ≤ 8 := by decide +kernel
theorem c_spelt {f a b : Int} (ha : 0 ≤ a) (hab : a ≤ b) (hb : b ≤ 900) (hf : 0 ≤ f ∧ f + (b - a) ≤ 123) (hB : ∀ k, -128 ≤ B k ∧ B k ≤ 127) (hT : TX (t + 1) B b M) : ∀ (d : Nat) (i : Int), b - i = d → a ≤ i → ∀ k, d < k → ∃ v : Bool, lX6_isSpelt_3 t (iI f) (iI a) (iI b) M k (iI i) = some (bI v) ∧ (v = true ↔ ∀ j, i ≤ j → j < b → B j = chI 1001 (f + (j - a))) := by
  intro d
  induction d with
  | zero =>
    intro i hd hi k hk
    obtain ⟨k, rfl⟩ : ∃ q, k = q + 1 := ⟨k - 1, by omega⟩
    refine ⟨true, ?_, fun _ j a b => by omega, fun _ => rfl⟩
    rw [lX6_isSpelt_3]
    simp (disch := omega) only [iI_add, iI_sub, iI_mul, iI_neg, iI_nat, addm1, ixkI, ↓sbind, sbind, ↓bdS, bdS, ↓nm_eq, ↓jn_eq, iI_lt, iI_le, iI_eq, k_0, k_1, k_2, k_3, k_4, k_5, k_6, k_7, k_8, k_9, k_10, k_11, k_12, k_13, k_14, k_15, k_16, k_17, k_18, k_19, k_20, k_21, k_22, k_23, k_24, k_27, k_30, k_32, k_48, k_57, k_59, k_60, k_61, k_62, k_63, k_64, k_72, k_78, k_80, k_82, k_97, k_99, k_100, k_122, k_244, k_255, k_268, k_280, k_300, k_432, k_650, k_900, k_901, k_999, k_1700, k_2600, k_2601, k_2602, k_2603, k_2604, k_2610, k_2618, k_2682, k_2777, k_2844, k_2868, k_2880, k_3245, k_3250, k_9551, k_9999, k_65536, k_100000, k_999999, k_1000000, k_2147483647, lt_T, lt_F, le_T, le_F, eq_T, eq_F, ↓reduceIte, not_true_eq_false, not_false_eq_true, or_true, or_false, true_or, false_or, and_true, true_and, and_false, false_and, bI_t]
  | succ d ih =>
    intro i hd hi k hk
    obtain ⟨k, rfl⟩ : ∃ q, k = q + 1 := ⟨k - 1, by omega⟩
    have e1 := hT i (by omega) (by omega)
    have e2 := s1_at (j := f + i - a) (by omega)
    have b1 := hB i
    have b2 := s1_b (j := f + i - a) (by omega)
    by_cases h : B i = chI 1001 (f + i - a)
    · obtain ⟨v, r1, r2⟩ := ih (i + 1) (by omega) (by omega) k (by omega)
      refine ⟨v, ?_, r2.trans ⟨fun q j j0 j1 => ?_, fun q j j0 j1 => q j (by omega) j1⟩⟩
      · rw [lX6_isSpelt_3]
        simp (disch := omega) only [iI_add, iI_sub, iI_mul, iI_neg, iI_nat, addm1, ixkI, ↓sbind, sbind, ↓bdS, bdS, ↓nm_eq, ↓jn_eq, iI_lt, iI_le, iI_eq, k_0, k_1, k_2, k_3, k_4, k_5, k_6, k_7, k_8, k_9, k_10, k_11, k_12, k_13, k_14, k_15, k_16, k_17, k_18, k_19, k_20, k_21, k_22, k_23, k_24, k_27, k_30, k_32, k_48, k_57, k_59, k_60, k_61, k_62, k_63, k_64, k_72, k_78, k_80, k_82, k_97, k_99, k_100, k_122, k_244, k_255, k_268, k_280, k_300, k_432, k_650, k_900, k_901, k_999, k_1700, k_2600, k_2601, k_2602, k_2603, k_2604, k_2610, k_2618, k_2682, k_2777, k_2844, k_2868, k_2880, k_3245, k_3250, k_9551, k_9999, k_65536, k_100000, k_999999, k_1000000, k_2147483647, lt_T, lt_F, le_T, le_F, eq_T, eq_F, ↓reduceIte, not_true_eq_false, not_false_eq_true, or_true, or_false, true_or, false_or, and_true, true_and, and_false, false_and, e1, e2, h, r1]
      · by_cases z : j = i
        · rw [z, h, show f + i - a = f + (i - a) from by omega]
        · exact q j (by omega) j1
    · refine ⟨false, ?_, fun q => (by cases q), fun q => ?_⟩
      · rw [lX6_isSpelt_3]
        simp (disch := omega) only [iI_add, iI_sub, iI_mul, iI_neg, iI_nat, addm1, ixkI, ↓sbind, sbind, ↓bdS, bdS, ↓nm_eq, ↓jn_eq, iI_lt, iI_le, iI_eq, k_0, k_1, k_2, k_3, k_4, k_5, k_6, k_7, k_8, k_9, k_10, k_11, k_12, k_13, k_14, k_15, k_16, k_17, k_18, k_19, k_20, k_21, k_22, k_23, k_24, k_27, k_30, k_32, k_48, k_57, k_59, k_60, k_61, k_62, k_63, k_64, k_72, k_78, k_80, k_82, k_97, k_99, k_100, k_122, k_244, k_255, k_268, k_280, k_300, k_432, k_650, k_900, k_901, k_999, k_1700, k_2600, k_2601, k_2602, k_2603, k_2604, k_2610, k_2618, k_2682, k_2777, k_2844, k_2868, k_2880, k_3245, k_3250, k_9551, k_9999, k_65536, k_100000, k_999999, k_1000000, k_2147483647, lt_T, lt_F, le_T, le_F, eq_T, eq_F, ↓reduceIte, not_true_eq_false, not_false_eq_true, or_true, or_false, true_or, false_or, and_true, true_and, and_false, false_and, e1, e2, bI_f]
      · exfalso
        apply h
        rw [q i (by omega) (by omega), show f + i - a = f + (i - a) from by omega]
theorem c_kskip {φ : Nat} {w f a b e : Int} (he : e < 123) : ∀ (d : Nat) (i : Int), e - i = d → 0 ≤ i → (∀ j, i ≤ j → j < e → chI 1001 j ≠ 32) → ∀ k, lX6_keptWord_8 φ t (iI a) (iI b) M (k + d) (iI w) (iI f) (iI i) = lX6_keptWord_8 φ t (iI a) (iI b) M k (iI w) (iI f) (iI e) := by
  intro d
  induction d with
  | zero =>
    intro i hd hi h k
    rw [show i = e from by omega]
    rfl
  | succ d ih =>
    intro i hd hi h k
    have e1 := s1_len
    have e2 := s1_at (j := i) (by omega)
    have b2 := s1_b (j := i) (by omega)
    have h0 := h i (by omega) (by omega)
    have r1 := ih (i + 1) (by omega) (by omega) (fun j a b => h j (by omega) b) k
    rw [show k + (d + 1) = k + d + 1 from by omega, lX6_keptWord_8]
    simp (disch := omega) only [iI_add, iI_sub, iI_mul, iI_neg, iI_nat, addm1, ixkI, ↓sbind, sbind, ↓bdS, bdS, ↓nm_eq, ↓jn_eq, iI_lt, iI_le, iI_eq, k_0, k_1, k_2, k_3, k_4, k_5, k_6, k_7, k_8, k_9, k_10, k_11, k_12, k_13, k_14, k_15, k_16, k_17, k_18, k_19, k_20, k_21, k_22, k_23, k_24, k_27, k_30, k_32, k_48, k_57, k_59, k_60, k_61, k_62, k_63, k_64, k_72, k_78, k_80, k_82, k_97, k_99, k_100, k_122, k_244, k_255, k_268, k_280, k_300, k_432, k_650, k_900, k_901, k_999, k_1700, k_2600, k_2601, k_2602, k_2603, k_2604, k_2610, k_2618, k_2682, k_2777, k_2844, k_2868, k_2880, k_3245, k_3250, k_9551, k_9999, k_65536, k_100000, k_999999, k_1000000, k_2147483647, lt_T, lt_F, le_T, le_F, eq_T, eq_F, ↓reduceIte, not_true_eq_false, not_false_eq_true, or_true, or_false, true_or, false_or, and_true, true_and, and_false, false_and, e1, e2, r1]
theorem c_kword {φ : Nat} (hφ : 2000 < φ) {a b : Int} (ha : 0 ≤ a) (hab : a < b) (hb : b ≤ 900) (hB : ∀ k, -128 ≤ B k ∧ B k ≤ 127) (hT : TX (t + 1) B b M) (hL : LD (fun k => B (a + k)) (b - a).toNat) : ∀ (d : Nat) (w : Nat), w + d = 24 → ∀ k : Nat, 123 - cS (w : Int) < k → lX6_keptWord_8 φ t (iI a) (iI b) M k (iI w) (iI (cS (w : Int))) (iI (cS (w : Int))) = some (iI (ff (fun w => cdN (fun k => B (a + k)) (b - a).toNat == cw w) 24 w)) := by
  intro d
  induction d with
  | zero =>
    intro w hd k hk
    obtain rfl : w = 24 := by omega
    have e0 : cS ((24 : Nat) : Int) = 123 := by decide +kernel
    rw [e0] at hk ⊢
    obtain ⟨k, rfl⟩ : ∃ q, k = q + 1 := ⟨k - 1, by omega⟩
    have e1 := s1_len
    rw [show (((24 : Nat)) : Int) = 24 from rfl, ff_e]
    rw [lX6_keptWord_8]
    simp (disch := omega) only [iI_add, iI_sub, iI_mul, iI_neg, iI_nat, addm1, ixkI, ↓sbind, sbind, ↓bdS, bdS, ↓nm_eq, ↓jn_eq, iI_lt, iI_le, iI_eq, k_0, k_1, k_2, k_3, k_4, k_5, k_6, k_7, k_8, k_9, k_10, k_11, k_12, k_13, k_14, k_15, k_16, k_17, k_18, k_19, k_20, k_21, k_22, k_23, k_24, k_27, k_30, k_32, k_48, k_57, k_59, k_60, k_61, k_62, k_63, k_64, k_72, k_78, k_80, k_82, k_97, k_99, k_100, k_122, k_244, k_255, k_268, k_280, k_300, k_432, k_650, k_900, k_901, k_999, k_1700, k_2600, k_2601, k_2602, k_2603, k_2604, k_2610, k_2618, k_2682, k_2777, k_2844, k_2868, k_2880, k_3245, k_3250, k_9551, k_9999, k_65536, k_100000, k_999999, k_1000000, k_2147483647, lt_T, lt_F, le_T, le_F, eq_T, eq_F, ↓reduceIte, not_true_eq_false, not_false_eq_true, or_true, or_false, true_or, false_or, and_true, true_and, and_false, false_and, e1]
  | succ d ih =>
    intro w hd k hk
    obtain ⟨f1, f2, f3, f4, f5⟩ := cs_f ⟨w, by omega⟩
    have f6 := cs_h ⟨w, by omega⟩
    have f1 : 0 ≤ cS (w : Int) := f1
    have f2 : cS (w : Int) < cS ((w : Int) + 1) - 1 := f2
    have f3 : cS ((w : Int) + 1) ≤ 123 := f3
    have f4 : chI 1001 (cS ((w : Int) + 1) - 1) = 32 := f4
    have f5 : cw (w : Int) = cdN (fun k => chI 1001 (cS (w : Int) + k)) (cS ((w : Int) + 1) - 1 - cS (w : Int)).toNat := f5
    have f6 : cS ((w : Int) + 1) - 1 - cS (w : Int) ≤ 8 := f6
    obtain ⟨f, hf⟩ : ∃ f, f = cS (w : Int) := ⟨_, rfl⟩
    obtain ⟨e, he⟩ : ∃ e, e = cS ((w : Int) + 1) - 1 := ⟨_, rfl⟩
    have he1 : cS ((w : Int) + 1) = e + 1 := by omega
    rw [← hf, ← he] at f5 f6 f2
    rw [← hf] at f1 hk ⊢
    rw [← he] at f4
    have gl : ∀ j, f ≤ j → j < e → 97 ≤ chI 1001 j ∧ chI 1001 j ≤ 122 := fun j j0 j1 => by
      have := cs_g ⟨w, by omega⟩ ⟨(j - f).toNat, by omega⟩
      have this : (((j - f).toNat : Nat) : Int) < cS ((w : Int) + 1) - 1 - cS (w : Int) → 97 ≤ chI 1001 (cS (w : Int) + (((j - f).toNat : Nat) : Int)) ∧ chI 1001 (cS (w : Int) + (((j - f).toNat : Nat) : Int)) ≤ 122 := this
      rw [← hf, show f + (((j - f).toNat : Nat) : Int) = j from by omega] at this
      exact this (by omega)
    have k1 := c_kskip (φ := φ) (t := t) (M := M) (w := (w : Int)) (f := f) (a := a) (b := b) (e := e) (by omega) (e - f).toNat f (by omega) f1 (fun j a b => by have := gl j a b; omega) (k - (e - f).toNat)
    rw [show k - (e - f).toNat + (e - f).toNat = k from by omega] at k1
    rw [k1]
    obtain ⟨k', hk'⟩ : ∃ q, k - (e - f).toNat = q + 1 := ⟨k - (e - f).toNat - 1, by omega⟩
    rw [hk']
    have e1 := s1_len
    have e2 := s1_at (j := e) (by omega)
    rw [f4] at e2
    have ihw := ih (w + 1) (by omega) k' (by rw [show (((w + 1 : Nat)) : Int) = (w : Int) + 1 from by omega, he1]; omega)
    rw [show (((w + 1 : Nat)) : Int) = (w : Int) + 1 from by omega, he1] at ihw
    rw [ff_s _ (by omega)]
    by_cases hl : e - f = b - a
    · obtain ⟨v, v1, v2⟩ := c_spelt (t := t) (M := M) (f := f) ha (by omega) hb (by omega) hB hT (b - a).toNat a (by omega) (by omega) φ (by omega)
      have v1 : fX6_isSpelt φ t (iI f) (iI a) (iI b) M = some (bI v) := v1
      have lw : LD (fun k => chI 1001 (f + k)) (e - f).toNat := fun i hi => gl (f + i) (by omega) (by omega)
      have vC : v = (cdN (fun k => B (a + k)) (b - a).toNat == cw (w : Int)) := by
        rw [f5]
        cases hv : v with
        | true =>
          have q := v2.mp hv
          symm
          rw [beq_iff_eq, hl]
          exact cd_cg _ (fun i hi => by
            show B (a + i) = chI 1001 (f + i)
            rw [q (a + i) (by omega) (by omega), show a + (i : Int) - a = i from by omega])
        | false =>
          symm
          rw [beq_eq_false_iff_ne]
          intro q
          obtain ⟨q1, q2⟩ := cd_inj _ _ hL lw q
          have : v = true := v2.mpr (fun j j0 j1 => by
            have := q2 (j - a).toNat (by omega)
            have this : B (a + (((j - a).toNat : Nat) : Int)) = chI 1001 (f + (((j - a).toNat : Nat) : Int)) := this
            rw [show (((j - a).toNat : Nat) : Int) = j - a from by omega, show a + (j - a) = j from by omega] at this
            exact this)
          rw [hv] at this
          cases this
      rw [← vC]
      rw [lX6_keptWord_8]
      cases hv : v with
      | true =>
        rw [hv] at v1
        simp (disch := omega) only [iI_add, iI_sub, iI_mul, iI_neg, iI_nat, addm1, ixkI, ↓sbind, sbind, ↓bdS, bdS, ↓nm_eq, ↓jn_eq, iI_lt, iI_le, iI_eq, k_0, k_1, k_2, k_3, k_4, k_5, k_6, k_7, k_8, k_9, k_10, k_11, k_12, k_13, k_14, k_15, k_16, k_17, k_18, k_19, k_20, k_21, k_22, k_23, k_24, k_27, k_30, k_32, k_48, k_57, k_59, k_60, k_61, k_62, k_63, k_64, k_72, k_78, k_80, k_82, k_97, k_99, k_100, k_122, k_244, k_255, k_268, k_280, k_300, k_432, k_650, k_900, k_901, k_999, k_1700, k_2600, k_2601, k_2602, k_2603, k_2604, k_2610, k_2618, k_2682, k_2777, k_2844, k_2868, k_2880, k_3245, k_3250, k_9551, k_9999, k_65536, k_100000, k_999999, k_1000000, k_2147483647, lt_T, lt_F, le_T, le_F, eq_T, eq_F, ↓reduceIte, not_true_eq_false, not_false_eq_true, or_true, or_false, true_or, false_or, and_true, true_and, and_false, false_and, e1, e2, v1, bI_t]
      | false =>
        rw [hv] at v1
        simp (disch := omega) only [iI_add, iI_sub, iI_mul, iI_neg, iI_nat, addm1, ixkI, ↓sbind, sbind, ↓bdS, bdS, ↓nm_eq, ↓jn_eq, iI_lt, iI_le, iI_eq, k_0, k_1, k_2, k_3, k_4, k_5, k_6, k_7, k_8, k_9, k_10, k_11, k_12, k_13, k_14, k_15, k_16, k_17, k_18, k_19, k_20, k_21, k_22, k_23, k_24, k_27, k_30, k_32, k_48, k_57, k_59, k_60, k_61, k_62, k_63, k_64, k_72, k_78, k_80, k_82, k_97, k_99, k_100, k_122, k_244, k_255, k_268, k_280, k_300, k_432, k_650, k_900, k_901, k_999, k_1700, k_2600, k_2601, k_2602, k_2603, k_2604, k_2610, k_2618, k_2682, k_2777, k_2844, k_2868, k_2880, k_3245, k_3250, k_9551, k_9999, k_65536, k_100000, k_999999, k_1000000, k_2147483647, lt_T, lt_F, le_T, le_F, eq_T, eq_F, ↓reduceIte, not_true_eq_false, not_false_eq_true, or_true, or_false, true_or, false_or, and_true, true_and, and_false, false_and, e1, e2, v1, bI_f, ihw, Bool.false_eq_true]
    · have hC : (cdN (fun k => B (a + k)) (b - a).toNat == cw (w : Int)) = false := by
        rw [beq_eq_false_iff_ne, f5]
        intro q
        have lw : LD (fun k => chI 1001 (f + k)) (e - f).toNat := fun i hi => gl (f + i) (by omega) (by omega)
        obtain ⟨q1, q2⟩ := cd_inj _ _ hL lw q
        omega
      rw [hC]
      rw [lX6_keptWord_8]
      simp (disch := omega) only [iI_add, iI_sub, iI_mul, iI_neg, iI_nat, addm1, ixkI, ↓sbind, sbind, ↓bdS, bdS, ↓nm_eq, ↓jn_eq, iI_lt, iI_le, iI_eq, k_0, k_1, k_2, k_3, k_4, k_5, k_6, k_7, k_8, k_9, k_10, k_11, k_12, k_13, k_14, k_15, k_16, k_17, k_18, k_19, k_20, k_21, k_22, k_23, k_24, k_27, k_30, k_32, k_48, k_57, k_59, k_60, k_61, k_62, k_63, k_64, k_72, k_78, k_80, k_82, k_97, k_99, k_100, k_122, k_244, k_255, k_268, k_280, k_300, k_432, k_650, k_900, k_901, k_999, k_1700, k_2600, k_2601, k_2602, k_2603, k_2604, k_2610, k_2618, k_2682, k_2777, k_2844, k_2868, k_2880, k_3245, k_3250, k_9551, k_9999, k_65536, k_100000, k_999999, k_1000000, k_2147483647, lt_T, lt_F, le_T, le_F, eq_T, eq_F, ↓reduceIte, not_true_eq_false, not_false_eq_true, or_true, or_false, true_or, false_or, and_true, true_and, and_false, false_and, e1, e2, ihw, Bool.false_eq_true]
theorem c_kept {φ : Nat} (hφ : 2000 < φ) {a b : Int} (ha : 0 ≤ a) (hab : a < b) (hb : b ≤ 900) (hB : ∀ k, -128 ≤ B k ∧ B k ≤ 127) (hT : TX (t + 1) B b M) (hL : LD (fun k => B (a + k)) (b - a).toNat) : fX6_keptWord φ t (iI a) (iI b) M = some (iI (kwC (cdN (fun k => B (a + k)) (b - a).toNat))) := c_kword hφ ha hab hb hB hT hL 24 0 rfl φ (by rw [show cS ((0 : Nat) : Int) = 0 from by decide +kernel]; omega)
end KP
