/-! the reference's bytes and kept words -/
section KM2
variable {m : Nat} {M : Mem} {B : Int → Int} {n : Int}
def b8 (v : Int) : Int := if v < 0 then v + 256 else v
theorem and255 {v : Int} (h : -128 ≤ v ∧ v ≤ 127) : iI v &&& (255 : Int32) = iI (b8 v) := by
  have h2 : ∀ k : Fin 256, iI ((k.1 : Int) - 128) &&& (255 : Int32) = iI (b8 ((k.1 : Int) - 128)) := by decide +kernel
  have := h2 ⟨(v + 128).toNat, by omega⟩
  have this : iI ((((v + 128).toNat : Nat) : Int) - 128) &&& (255 : Int32) = iI (b8 ((((v + 128).toNat : Nat) : Int) - 128)) := this
  rw [show (((v + 128).toNat : Nat) : Int) - 128 = v from by omega] at this
  exact this
theorem m_byteAt (hn : 0 ≤ n ∧ n ≤ 900) (h11 : M.1 m 11 = iI n) (hB : ∀ k, -128 ≤ B k ∧ B k ≤ 127) (hT : TX (m + 7) B n M) {k : Int} (hk : 0 ≤ k ∧ k ≤ 10000) : fX11_byteAt m (iI k) M = some (iI (if k < n then b8 (B k) else -1)) := by
  unfold fX11_byteAt
  by_cases h : k < n
  · have e1 := hT k hk.1 h
    have e2 := and255 (hB k)
    rw [if_pos h, h11, if_neg (by rw [iI_le (by omega) (by omega)]; omega), ixkI (by omega), iI_nat (by omega), e1, e2]
  · rw [if_neg h]
    simp (disch := omega) only [iI_add, iI_sub, iI_mul, iI_neg, iI_nat, addm1, ixkI, ↓sbind, sbind, ↓bdS, bdS, ↓nm_eq, ↓jn_eq, iI_lt, iI_le, iI_eq, k_0, k_1, k_2, k_3, k_4, k_5, k_6, k_7, k_8, k_9, k_10, k_11, k_12, k_13, k_14, k_15, k_16, k_17, k_18, k_19, k_20, k_21, k_22, k_23, k_24, k_27, k_30, k_32, k_48, k_57, k_59, k_60, k_61, k_62, k_63, k_64, k_72, k_78, k_80, k_82, k_97, k_99, k_100, k_122, k_244, k_255, k_268, k_280, k_300, k_432, k_650, k_900, k_901, k_999, k_1700, k_2600, k_2601, k_2602, k_2603, k_2604, k_2610, k_2618, k_2682, k_2777, k_2844, k_2868, k_2880, k_3245, k_3250, k_9551, k_9999, k_65536, k_100000, k_999999, k_1000000, k_2147483647, lt_T, lt_F, le_T, le_F, eq_T, eq_F, ↓reduceIte, not_true_eq_false, not_false_eq_true, or_true, or_false, true_or, false_or, and_true, true_and, and_false, false_and, h11]
theorem s2_len : sLen 1002 = some (iI 124) := by decide +kernel
theorem s2_at {j : Int} (h : 0 ≤ j ∧ j < 124) : sAt 1002 (iI j) = some (iI (chI 1002 j)) := by
  unfold sAt
  rw [show strL.getD (1002 - 1001) 0 = 124 from by decide +kernel, ixkI (by omega), iI_nat (by omega)]
  unfold chI
  rw [iI_of]
theorem s2_bd : ∀ j : Fin 124, 0 ≤ chI 1002 (j.1 : Int) ∧ chI 1002 (j.1 : Int) ≤ 127 := by decide +kernel
theorem s2_b {j : Int} (h : 0 ≤ j ∧ j < 124) : 0 ≤ chI 1002 j ∧ chI 1002 j ≤ 127 := by
  have := s2_bd ⟨j.toNat, by omega⟩
  rw [show ((j.toNat : Nat) : Int) = j from by omega] at this
  exact this
theorem ms_f : ∀ w : Fin 24, 1 ≤ mSt (w.1 : Int) ∧ mSt (w.1 : Int) < mSt ((w.1 : Int) + 1) - 1 ∧ mSt ((w.1 : Int) + 1) ≤ 124 ∧ chI 1002 (mSt ((w.1 : Int) + 1) - 1) = 32 ∧ cw (pm (w.1 : Int)) = cdN (fun k => chI 1002 (mSt (w.1 : Int) + k)) (mSt ((w.1 : Int) + 1) - 1 - mSt (w.1 : Int)).toNat := by decide +kernel
theorem ms_g : ∀ w : Fin 24, ∀ i : Fin 9, (i.1 : Int) < mSt ((w.1 : Int) + 1) - 1 - mSt (w.1 : Int) → 97 ≤ chI 1002 (mSt (w.1 : Int) + (i.1 : Int)) ∧ chI 1002 (mSt (w.1 : Int) + (i.1 : Int)) ≤ 122 := by decide +kernel
theorem ms_h : ∀ w : Fin 24, mSt ((w.1 : Int) + 1) - 1 - mSt (w.1 : Int) ≤ 8 := by decide +kernel
theorem m_spelt (K : Int32 → Option Int32) (hn : 0 ≤ n ∧ n ≤ 900) (h11 : M.1 m 11 = iI n) (hB : ∀ k, -128 ≤ B k ∧ B k ≤ 127) (hT : TX (m + 7) B n M) {x2 : Int32} {f e a b : Int} (h13 : M.1 m 13 = iI a) (ha : 0 ≤ a) (hab : a < b) (hb : b ≤ n) (hf : 0 ≤ f ∧ e ≤ 124) (hl : e - f = b - a) (hL : ∀ j, a ≤ j → j < b → 97 ≤ B j) : ∀ (d : Nat) (i : Int), e - i = d → f ≤ i → ∀ k, d + 1 < k → ∃ v : Bool, lX11_inWords_68 K m 1002 x2 (iI f) (iI e) M k (iI 1) (iI i) = K (bI v) ∧ (v = true ↔ ∀ j, i ≤ j → j < e → chI 1002 j = B (a + (j - f))) := by
  intro d
  induction d with
  | zero =>
    intro i hd hi k hk
    obtain ⟨k, rfl⟩ : ∃ q, k = q + 1 := ⟨k - 1, by omega⟩
    refine ⟨true, ?_, fun _ j a b => by omega, fun _ => rfl⟩
    rw [lX11_inWords_68]
    simp (disch := omega) only [iI_add, iI_sub, iI_mul, iI_neg, iI_nat, addm1, ixkI, ↓sbind, sbind, ↓bdS, bdS, ↓nm_eq, ↓jn_eq, iI_lt, iI_le, iI_eq, k_0, k_1, k_2, k_3, k_4, k_5, k_6, k_7, k_8, k_9, k_10, k_11, k_12, k_13, k_14, k_15, k_16, k_17, k_18, k_19, k_20, k_21, k_22, k_23, k_24, k_27, k_30, k_32, k_48, k_57, k_59, k_60, k_61, k_62, k_63, k_64, k_72, k_78, k_80, k_82, k_97, k_99, k_100, k_122, k_244, k_255, k_268, k_280, k_300, k_432, k_650, k_900, k_901, k_999, k_1700, k_2600, k_2601, k_2602, k_2603, k_2604, k_2610, k_2618, k_2682, k_2777, k_2844, k_2868, k_2880, k_3245, k_3250, k_9551, k_9999, k_65536, k_100000, k_999999, k_1000000, k_2147483647, lt_T, lt_F, le_T, le_F, eq_T, eq_F, ↓reduceIte, not_true_eq_false, not_false_eq_true, or_true, or_false, true_or, false_or, and_true, true_and, and_false, false_and, bI_t]
  | succ d ih =>
    intro i hd hi k hk
    obtain ⟨k, rfl⟩ : ∃ q, k = q + 1 := ⟨k - 1, by omega⟩
    have e1 := m_byteAt hn h11 hB hT (k := a + i - f) (by omega)
    rw [if_pos (by omega)] at e1
    have g1 := hL (a + i - f) (by omega) (by omega)
    rw [show b8 (B (a + i - f)) = B (a + i - f) from if_neg (by omega)] at e1
    have e2 := s2_at (j := i) (by omega)
    have b1 := hB (a + i - f)
    have b2 := s2_b (j := i) (by omega)
    by_cases h : chI 1002 i = B (a + i - f)
    · obtain ⟨v, r1, r2⟩ := ih (i + 1) (by omega) (by omega) k (by omega)
      refine ⟨v, ?_, r2.trans ⟨fun q j j0 j1 => ?_, fun q j j0 j1 => q j (by omega) j1⟩⟩
      · rw [lX11_inWords_68]
        simp (disch := omega) only [iI_add, iI_sub, iI_mul, iI_neg, iI_nat, addm1, ixkI, ↓sbind, sbind, ↓bdS, bdS, ↓nm_eq, ↓jn_eq, iI_lt, iI_le, iI_eq, k_0, k_1, k_2, k_3, k_4, k_5, k_6, k_7, k_8, k_9, k_10, k_11, k_12, k_13, k_14, k_15, k_16, k_17, k_18, k_19, k_20, k_21, k_22, k_23, k_24, k_27, k_30, k_32, k_48, k_57, k_59, k_60, k_61, k_62, k_63, k_64, k_72, k_78, k_80, k_82, k_97, k_99, k_100, k_122, k_244, k_255, k_268, k_280, k_300, k_432, k_650, k_900, k_901, k_999, k_1700, k_2600, k_2601, k_2602, k_2603, k_2604, k_2610, k_2618, k_2682, k_2777, k_2844, k_2868, k_2880, k_3245, k_3250, k_9551, k_9999, k_65536, k_100000, k_999999, k_1000000, k_2147483647, lt_T, lt_F, le_T, le_F, eq_T, eq_F, ↓reduceIte, not_true_eq_false, not_false_eq_true, or_true, or_false, true_or, false_or, and_true, true_and, and_false, false_and, h13, e1, e2, h, r1]
      · by_cases z : j = i
        · rw [z, h, show a + i - f = a + (i - f) from by omega]
        · exact q j (by omega) j1
    · refine ⟨false, ?_, fun q => (by cases q), fun q => ?_⟩
      · obtain ⟨k, rfl⟩ : ∃ q, k = q + 1 := ⟨k - 1, by omega⟩
        have s2 : lX11_inWords_68 K m 1002 x2 (iI f) (iI e) M (k + 1) (iI 0) (iI (i + 1)) = K (iI 0) := by
          rw [lX11_inWords_68]
          by_cases z : e ≤ i + 1
          · simp (disch := omega) only [iI_add, iI_sub, iI_mul, iI_neg, iI_nat, addm1, ixkI, ↓sbind, sbind, ↓bdS, bdS, ↓nm_eq, ↓jn_eq, iI_lt, iI_le, iI_eq, k_0, k_1, k_2, k_3, k_4, k_5, k_6, k_7, k_8, k_9, k_10, k_11, k_12, k_13, k_14, k_15, k_16, k_17, k_18, k_19, k_20, k_21, k_22, k_23, k_24, k_27, k_30, k_32, k_48, k_57, k_59, k_60, k_61, k_62, k_63, k_64, k_72, k_78, k_80, k_82, k_97, k_99, k_100, k_122, k_244, k_255, k_268, k_280, k_300, k_432, k_650, k_900, k_901, k_999, k_1700, k_2600, k_2601, k_2602, k_2603, k_2604, k_2610, k_2618, k_2682, k_2777, k_2844, k_2868, k_2880, k_3245, k_3250, k_9551, k_9999, k_65536, k_100000, k_999999, k_1000000, k_2147483647, lt_T, lt_F, le_T, le_F, eq_T, eq_F, ↓reduceIte, not_true_eq_false, not_false_eq_true, or_true, or_false, true_or, false_or, and_true, true_and, and_false, false_and]
          · simp (disch := omega) only [iI_add, iI_sub, iI_mul, iI_neg, iI_nat, addm1, ixkI, ↓sbind, sbind, ↓bdS, bdS, ↓nm_eq, ↓jn_eq, iI_lt, iI_le, iI_eq, k_0, k_1, k_2, k_3, k_4, k_5, k_6, k_7, k_8, k_9, k_10, k_11, k_12, k_13, k_14, k_15, k_16, k_17, k_18, k_19, k_20, k_21, k_22, k_23, k_24, k_27, k_30, k_32, k_48, k_57, k_59, k_60, k_61, k_62, k_63, k_64, k_72, k_78, k_80, k_82, k_97, k_99, k_100, k_122, k_244, k_255, k_268, k_280, k_300, k_432, k_650, k_900, k_901, k_999, k_1700, k_2600, k_2601, k_2602, k_2603, k_2604, k_2610, k_2618, k_2682, k_2777, k_2844, k_2868, k_2880, k_3245, k_3250, k_9551, k_9999, k_65536, k_100000, k_999999, k_1000000, k_2147483647, lt_T, lt_F, le_T, le_F, eq_T, eq_F, ↓reduceIte, not_true_eq_false, not_false_eq_true, or_true, or_false, true_or, false_or, and_true, true_and, and_false, false_and]
        rw [lX11_inWords_68]
        simp (disch := omega) only [iI_add, iI_sub, iI_mul, iI_neg, iI_nat, addm1, ixkI, ↓sbind, sbind, ↓bdS, bdS, ↓nm_eq, ↓jn_eq, iI_lt, iI_le, iI_eq, k_0, k_1, k_2, k_3, k_4, k_5, k_6, k_7, k_8, k_9, k_10, k_11, k_12, k_13, k_14, k_15, k_16, k_17, k_18, k_19, k_20, k_21, k_22, k_23, k_24, k_27, k_30, k_32, k_48, k_57, k_59, k_60, k_61, k_62, k_63, k_64, k_72, k_78, k_80, k_82, k_97, k_99, k_100, k_122, k_244, k_255, k_268, k_280, k_300, k_432, k_650, k_900, k_901, k_999, k_1700, k_2600, k_2601, k_2602, k_2603, k_2604, k_2610, k_2618, k_2682, k_2777, k_2844, k_2868, k_2880, k_3245, k_3250, k_9551, k_9999, k_65536, k_100000, k_999999, k_1000000, k_2147483647, lt_T, lt_F, le_T, le_F, eq_T, eq_F, ↓reduceIte, not_true_eq_false, not_false_eq_true, or_true, or_false, true_or, false_or, and_true, true_and, and_false, false_and, h13, e1, e2, s2, bI_f]
      · exfalso
        apply h
        rw [q i (by omega) (by omega), show a + (i - f) = a + i - f from by omega]
theorem m_kskip (K : Int32 → Option Int32) {x2 x3 : Int32} {e : Int} (he : e < 124) (h32 : chI 1002 e = 32) : ∀ (d : Nat) (i : Int), e - i = d → 0 ≤ i → (∀ j, i ≤ j → j < e → chI 1002 j ≠ 32) → ∀ k, lX11_inWords_25 K m 1002 x2 x3 M (k + 1 + d) (iI i) = K (iI e) := by
  intro d
  induction d with
  | zero =>
    intro i hd hi h k
    have e2 := s2_at (j := i) (by omega)
    rw [show i = e from by omega] at e2 ⊢
    rw [h32] at e2
    show lX11_inWords_25 K m 1002 x2 x3 M (k + 1) (iI e) = K (iI e)
    rw [lX11_inWords_25]
    simp (disch := omega) only [iI_add, iI_sub, iI_mul, iI_neg, iI_nat, addm1, ixkI, ↓sbind, sbind, ↓bdS, bdS, ↓nm_eq, ↓jn_eq, iI_lt, iI_le, iI_eq, k_0, k_1, k_2, k_3, k_4, k_5, k_6, k_7, k_8, k_9, k_10, k_11, k_12, k_13, k_14, k_15, k_16, k_17, k_18, k_19, k_20, k_21, k_22, k_23, k_24, k_27, k_30, k_32, k_48, k_57, k_59, k_60, k_61, k_62, k_63, k_64, k_72, k_78, k_80, k_82, k_97, k_99, k_100, k_122, k_244, k_255, k_268, k_280, k_300, k_432, k_650, k_900, k_901, k_999, k_1700, k_2600, k_2601, k_2602, k_2603, k_2604, k_2610, k_2618, k_2682, k_2777, k_2844, k_2868, k_2880, k_3245, k_3250, k_9551, k_9999, k_65536, k_100000, k_999999, k_1000000, k_2147483647, lt_T, lt_F, le_T, le_F, eq_T, eq_F, ↓reduceIte, not_true_eq_false, not_false_eq_true, or_true, or_false, true_or, false_or, and_true, true_and, and_false, false_and, e2]
  | succ d ih =>
    intro i hd hi h k
    have e2 := s2_at (j := i) (by omega)
    have b2 := s2_b (j := i) (by omega)
    have h0 := h i (by omega) (by omega)
    have r1 := ih (i + 1) (by omega) (by omega) (fun j a b => h j (by omega) b) k
    rw [show k + 1 + (d + 1) = k + 1 + d + 1 from by omega, lX11_inWords_25]
    simp (disch := omega) only [iI_add, iI_sub, iI_mul, iI_neg, iI_nat, addm1, ixkI, ↓sbind, sbind, ↓bdS, bdS, ↓nm_eq, ↓jn_eq, iI_lt, iI_le, iI_eq, k_0, k_1, k_2, k_3, k_4, k_5, k_6, k_7, k_8, k_9, k_10, k_11, k_12, k_13, k_14, k_15, k_16, k_17, k_18, k_19, k_20, k_21, k_22, k_23, k_24, k_27, k_30, k_32, k_48, k_57, k_59, k_60, k_61, k_62, k_63, k_64, k_72, k_78, k_80, k_82, k_97, k_99, k_100, k_122, k_244, k_255, k_268, k_280, k_300, k_432, k_650, k_900, k_901, k_999, k_1700, k_2600, k_2601, k_2602, k_2603, k_2604, k_2610, k_2618, k_2682, k_2777, k_2844, k_2868, k_2880, k_3245, k_3250, k_9551, k_9999, k_65536, k_100000, k_999999, k_1000000, k_2147483647, lt_T, lt_F, le_T, le_F, eq_T, eq_F, ↓reduceIte, not_true_eq_false, not_false_eq_true, or_true, or_false, true_or, false_or, and_true, true_and, and_false, false_and, e2, r1]
theorem m_kword {φ : Nat} (hφ : 2000 < φ) (hn : 0 ≤ n ∧ n ≤ 900) (h11 : M.1 m 11 = iI n) (hB : ∀ k, -128 ≤ B k ∧ B k ≤ 127) (hT : TX (m + 7) B n M) {a b : Int} (h13 : M.1 m 13 = iI a) (h14 : M.1 m 14 = iI b) (ha : 0 ≤ a) (hab : a < b) (hb : b ≤ n) (hL : LD (fun k => B (a + k)) (b - a).toNat) : ∀ (d : Nat) (w : Nat), w + d = 24 → ∀ k, d < k → lX11_inWords_14 φ m 1002 M k (iI w) (iI (mSt (w : Int))) = some (iI (ff (fun w => cdN (fun k => B (a + k)) (b - a).toNat == cw (pm w)) 24 w)) := by
  have hL2 : ∀ j, a ≤ j → j < b → 97 ≤ B j := fun j j0 j1 => by
    have := hL (j - a).toNat (by omega)
    have this : 97 ≤ B (a + (((j - a).toNat : Nat) : Int)) ∧ B (a + (((j - a).toNat : Nat) : Int)) ≤ 122 := this
    rw [show a + (((j - a).toNat : Nat) : Int) = j from by omega] at this
    exact this.1
  intro d
  induction d with
  | zero =>
    intro w hd k hk
    obtain rfl : w = 24 := by omega
    have e0 : mSt ((24 : Nat) : Int) = 124 := by decide +kernel
    rw [e0]
    obtain ⟨k, rfl⟩ : ∃ q, k = q + 1 := ⟨k - 1, by omega⟩
    have e1 := s2_len
    rw [show (((24 : Nat)) : Int) = 24 from rfl, ff_e]
    rw [lX11_inWords_14]
    simp (disch := omega) only [iI_add, iI_sub, iI_mul, iI_neg, iI_nat, addm1, ixkI, ↓sbind, sbind, ↓bdS, bdS, ↓nm_eq, ↓jn_eq, iI_lt, iI_le, iI_eq, k_0, k_1, k_2, k_3, k_4, k_5, k_6, k_7, k_8, k_9, k_10, k_11, k_12, k_13, k_14, k_15, k_16, k_17, k_18, k_19, k_20, k_21, k_22, k_23, k_24, k_27, k_30, k_32, k_48, k_57, k_59, k_60, k_61, k_62, k_63, k_64, k_72, k_78, k_80, k_82, k_97, k_99, k_100, k_122, k_244, k_255, k_268, k_280, k_300, k_432, k_650, k_900, k_901, k_999, k_1700, k_2600, k_2601, k_2602, k_2603, k_2604, k_2610, k_2618, k_2682, k_2777, k_2844, k_2868, k_2880, k_3245, k_3250, k_9551, k_9999, k_65536, k_100000, k_999999, k_1000000, k_2147483647, lt_T, lt_F, le_T, le_F, eq_T, eq_F, ↓reduceIte, not_true_eq_false, not_false_eq_true, or_true, or_false, true_or, false_or, and_true, true_and, and_false, false_and, e1]
  | succ d ih =>
    intro w hd k hk
    obtain ⟨c1, c2, c3, c4, c5⟩ := ms_f ⟨w, by omega⟩
    have c6 := ms_h ⟨w, by omega⟩
    have f1 : 1 ≤ mSt (w : Int) := c1
    have f2 : mSt (w : Int) < mSt ((w : Int) + 1) - 1 := c2
    have f3 : mSt ((w : Int) + 1) ≤ 124 := c3
    have f4 : chI 1002 (mSt ((w : Int) + 1) - 1) = 32 := c4
    have f5 : cw (pm (w : Int)) = cdN (fun k => chI 1002 (mSt (w : Int) + k)) (mSt ((w : Int) + 1) - 1 - mSt (w : Int)).toNat := c5
    have f6 : mSt ((w : Int) + 1) - 1 - mSt (w : Int) ≤ 8 := c6
    obtain ⟨f, hf⟩ : ∃ f, f = mSt (w : Int) := ⟨_, rfl⟩
    obtain ⟨e, he⟩ : ∃ e, e = mSt ((w : Int) + 1) - 1 := ⟨_, rfl⟩
    have he1 : mSt ((w : Int) + 1) = e + 1 := by omega
    rw [← hf, ← he] at f5 f6 f2
    rw [← hf] at f1 ⊢
    rw [← he] at f4
    have gl : ∀ j, f ≤ j → j < e → 97 ≤ chI 1002 j ∧ chI 1002 j ≤ 122 := fun j j0 j1 => by
      have := ms_g ⟨w, by omega⟩ ⟨(j - f).toNat, by omega⟩
      have this : (((j - f).toNat : Nat) : Int) < mSt ((w : Int) + 1) - 1 - mSt (w : Int) → 97 ≤ chI 1002 (mSt (w : Int) + (((j - f).toNat : Nat) : Int)) ∧ chI 1002 (mSt (w : Int) + (((j - f).toNat : Nat) : Int)) ≤ 122 := this
      rw [← hf, show f + (((j - f).toNat : Nat) : Int) = j from by omega] at this
      exact this (by omega)
    have lw : LD (fun k => chI 1002 (f + k)) (e - f).toNat := fun i hi => gl (f + i) (by omega) (by omega)
    obtain ⟨k, rfl⟩ : ∃ q, k = q + 1 := ⟨k - 1, by omega⟩
    have e1 := s2_len
    have ihw := ih (w + 1) (by omega) k (by omega)
    rw [show (((w + 1 : Nat)) : Int) = (w : Int) + 1 from by omega, he1] at ihw
    have skip : ∀ K : Int32 → Option Int32, lX11_inWords_25 K m 1002 (iI w) (iI f) M φ (iI f) = K (iI e) := fun K => by
      have := m_kskip (m := m) (M := M) K (x2 := iI w) (x3 := iI f) (e := e) (by omega) f4 (e - f).toNat f (by omega) (by omega) (fun j a b => by have := gl j a b; omega) (φ - 1 - (e - f).toNat)
      rw [show φ - 1 - (e - f).toNat + 1 + (e - f).toNat = φ from by omega] at this
      exact this
    rw [ff_s _ (by omega)]
    by_cases hl : e - f = b - a
    · have vv : ∀ K : Int32 → Option Int32, ∃ v : Bool, lX11_inWords_68 K m 1002 (iI w) (iI f) (iI e) M φ (iI 1) (iI f) = K (bI v) ∧ (v = true ↔ ∀ j, f ≤ j → j < e → chI 1002 j = B (a + (j - f))) := fun K => m_spelt K hn h11 hB hT h13 ha hab hb (by omega) hl hL2 (e - f).toNat f (by omega) (by omega) φ (by omega)
      obtain ⟨v, v1, v2⟩ := vv (fun (v10 : Int32) => if v10 = 0 then nm (iI e + (1 : Int32)) (fun v11 => lX11_inWords_14 φ m 1002 M k (iI w + 1) v11) else some (iI w))
      have vC : v = (cdN (fun k => B (a + k)) (b - a).toNat == cw (pm (w : Int))) := by
        rw [f5]
        cases hv : v with
        | true =>
          have q := v2.mp hv
          symm
          rw [beq_iff_eq, hl]
          exact cd_cg _ (fun i hi => by
            show B (a + i) = chI 1002 (f + i)
            rw [q (f + i) (by omega) (by omega), show f + (i : Int) - f = i from by omega])
        | false =>
          symm
          rw [beq_eq_false_iff_ne]
          intro q
          obtain ⟨q1, q2⟩ := cd_inj _ _ hL lw q
          have : v = true := v2.mpr (fun j j0 j1 => by
            have := q2 (j - f).toNat (by omega)
            have this : B (a + (((j - f).toNat : Nat) : Int)) = chI 1002 (f + (((j - f).toNat : Nat) : Int)) := this
            rw [show (((j - f).toNat : Nat) : Int) = j - f from by omega, show f + (j - f) = j from by omega] at this
            exact this.symm)
          rw [hv] at this
          cases this
      rw [← vC]
      rw [lX11_inWords_14, e1, sbind, if_neg (by rw [iI_le (by omega) (by omega)]; omega), skip]
      simp only [jn_eq]
      rw [h14, h13, iI_sub, iI_sub, if_pos (by rw [hl])]
      refine Eq.trans v1 ?_
      cases hv : v with
      | true => simp (disch := omega) only [iI_add, iI_sub, iI_mul, iI_neg, iI_nat, addm1, ixkI, ↓sbind, sbind, ↓bdS, bdS, ↓nm_eq, ↓jn_eq, iI_lt, iI_le, iI_eq, k_0, k_1, k_2, k_3, k_4, k_5, k_6, k_7, k_8, k_9, k_10, k_11, k_12, k_13, k_14, k_15, k_16, k_17, k_18, k_19, k_20, k_21, k_22, k_23, k_24, k_27, k_30, k_32, k_48, k_57, k_59, k_60, k_61, k_62, k_63, k_64, k_72, k_78, k_80, k_82, k_97, k_99, k_100, k_122, k_244, k_255, k_268, k_280, k_300, k_432, k_650, k_900, k_901, k_999, k_1700, k_2600, k_2601, k_2602, k_2603, k_2604, k_2610, k_2618, k_2682, k_2777, k_2844, k_2868, k_2880, k_3245, k_3250, k_9551, k_9999, k_65536, k_100000, k_999999, k_1000000, k_2147483647, lt_T, lt_F, le_T, le_F, eq_T, eq_F, ↓reduceIte, not_true_eq_false, not_false_eq_true, or_true, or_false, true_or, false_or, and_true, true_and, and_false, false_and, bI_t]
      | false => simp (disch := omega) only [iI_add, iI_sub, iI_mul, iI_neg, iI_nat, addm1, ixkI, ↓sbind, sbind, ↓bdS, bdS, ↓nm_eq, ↓jn_eq, iI_lt, iI_le, iI_eq, k_0, k_1, k_2, k_3, k_4, k_5, k_6, k_7, k_8, k_9, k_10, k_11, k_12, k_13, k_14, k_15, k_16, k_17, k_18, k_19, k_20, k_21, k_22, k_23, k_24, k_27, k_30, k_32, k_48, k_57, k_59, k_60, k_61, k_62, k_63, k_64, k_72, k_78, k_80, k_82, k_97, k_99, k_100, k_122, k_244, k_255, k_268, k_280, k_300, k_432, k_650, k_900, k_901, k_999, k_1700, k_2600, k_2601, k_2602, k_2603, k_2604, k_2610, k_2618, k_2682, k_2777, k_2844, k_2868, k_2880, k_3245, k_3250, k_9551, k_9999, k_65536, k_100000, k_999999, k_1000000, k_2147483647, lt_T, lt_F, le_T, le_F, eq_T, eq_F, ↓reduceIte, not_true_eq_false, not_false_eq_true, or_true, or_false, true_or, false_or, and_true, true_and, and_false, false_and, bI_f, ihw, Bool.false_eq_true]
    · have hC : (cdN (fun k => B (a + k)) (b - a).toNat == cw (pm (w : Int))) = false := by
        rw [beq_eq_false_iff_ne, f5]
        intro q
        obtain ⟨q1, q2⟩ := cd_inj _ _ hL lw q
        omega
      rw [hC]
      obtain ⟨ψ, hψ⟩ : ∃ ψ, φ = ψ + 1 := ⟨φ - 1, by omega⟩
      have s2 : ∀ K : Int32 → Option Int32, lX11_inWords_68 K m 1002 (iI w) (iI f) (iI e) M φ (iI 0) (iI f) = K (iI 0) := fun K => by
        rw [hψ, lX11_inWords_68]
        simp (disch := omega) only [iI_add, iI_sub, iI_mul, iI_neg, iI_nat, addm1, ixkI, ↓sbind, sbind, ↓bdS, bdS, ↓nm_eq, ↓jn_eq, iI_lt, iI_le, iI_eq, k_0, k_1, k_2, k_3, k_4, k_5, k_6, k_7, k_8, k_9, k_10, k_11, k_12, k_13, k_14, k_15, k_16, k_17, k_18, k_19, k_20, k_21, k_22, k_23, k_24, k_27, k_30, k_32, k_48, k_57, k_59, k_60, k_61, k_62, k_63, k_64, k_72, k_78, k_80, k_82, k_97, k_99, k_100, k_122, k_244, k_255, k_268, k_280, k_300, k_432, k_650, k_900, k_901, k_999, k_1700, k_2600, k_2601, k_2602, k_2603, k_2604, k_2610, k_2618, k_2682, k_2777, k_2844, k_2868, k_2880, k_3245, k_3250, k_9551, k_9999, k_65536, k_100000, k_999999, k_1000000, k_2147483647, lt_T, lt_F, le_T, le_F, eq_T, eq_F, ↓reduceIte, not_true_eq_false, not_false_eq_true, or_true, or_false, true_or, false_or, and_true, true_and, and_false, false_and]
      rw [lX11_inWords_14, e1, sbind, if_neg (by rw [iI_le (by omega) (by omega)]; omega), skip]
      simp only [jn_eq]
      rw [h14, h13, iI_sub, iI_sub, if_neg (by rw [iI_eq (by omega) (by omega)]; omega), k_0, s2]
      simp (disch := omega) only [iI_add, iI_sub, iI_mul, iI_neg, iI_nat, addm1, ixkI, ↓sbind, sbind, ↓bdS, bdS, ↓nm_eq, ↓jn_eq, iI_lt, iI_le, iI_eq, k_0, k_1, k_2, k_3, k_4, k_5, k_6, k_7, k_8, k_9, k_10, k_11, k_12, k_13, k_14, k_15, k_16, k_17, k_18, k_19, k_20, k_21, k_22, k_23, k_24, k_27, k_30, k_32, k_48, k_57, k_59, k_60, k_61, k_62, k_63, k_64, k_72, k_78, k_80, k_82, k_97, k_99, k_100, k_122, k_244, k_255, k_268, k_280, k_300, k_432, k_650, k_900, k_901, k_999, k_1700, k_2600, k_2601, k_2602, k_2603, k_2604, k_2610, k_2618, k_2682, k_2777, k_2844, k_2868, k_2880, k_3245, k_3250, k_9551, k_9999, k_65536, k_100000, k_999999, k_1000000, k_2147483647, lt_T, lt_F, le_T, le_F, eq_T, eq_F, ↓reduceIte, not_true_eq_false, not_false_eq_true, or_true, or_false, true_or, false_or, and_true, true_and, and_false, false_and, ihw, Bool.false_eq_true]
theorem m_kept {φ : Nat} (hφ : 2000 < φ) (hn : 0 ≤ n ∧ n ≤ 900) (h11 : M.1 m 11 = iI n) (hB : ∀ k, -128 ≤ B k ∧ B k ≤ 127) (hT : TX (m + 7) B n M) {a b : Int} (h12 : M.1 m 12 = iI 2) (h13 : M.1 m 13 = iI a) (h14 : M.1 m 14 = iI b) (ha : 0 ≤ a) (hab : a < b) (hb : b ≤ n) (hL : LD (fun k => B (a + k)) (b - a).toNat) : fX11_inWords φ m 1002 M = some (iI (pr (kwC (cdN (fun k => B (a + k)) (b - a).toNat)))) := by
  have h := m_kword (m := m) (M := M) hφ hn h11 hB hT h13 h14 ha hab hb hL 24 0 rfl φ (by omega)
  rw [show mSt ((0 : Nat) : Int) = 1 from by decide +kernel, show (((0 : Nat)) : Int) = 0 from rfl] at h
  rw [← kw_pr]
  unfold fX11_inWords
  rw [h12, if_pos (by rw [k_2])]
  exact h
end KM2
