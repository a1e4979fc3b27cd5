/-! the order, and what lies at a triangle's corners, of the class -/
def s_free (F : Fld) (out : Int → Bool) (b : Int) : Bool := ff (fun o => !out o && s_hig F o b) (bN F) 0 == -1
def s_ff (F : Fld) (out : Int → Bool) : Int := ff (fun b => !out b && s_free F out b) (bN F) 0
def oO (F : Fld) : Nat → Int → Bool
  | 0, _ => false
  | k + 1, x => oO F k x || x == s_ff F (oO F k)
def oP (F : Fld) (k : Nat) : Int := s_ff F (oO F k)
theorem oO_s (F : Fld) (k : Nat) (x : Int) : oO F (k + 1) x = (oO F k x || x == oP F k) := rfl
def s_ho (F : Fld) : Bool := ff (fun k => oP F k.toNat == -1) (bN F) 0 == -1
theorem s_ff_bd {F : Fld} (w : WF F) (out : Int → Bool) : -1 ≤ s_ff F out ∧ s_ff F out < bN F := by
  have hb := bN_rng w
  have := ff_rng (fun b => !out b && s_free F out b) (bN F) 0 (by omega) hb.1
  unfold s_ff
  omega
theorem vn_0 : vp_nar .boolean (iI 0) = iI 0 := id rfl
theorem vn_1 : vp_nar .boolean (iI 1) = iI 1 := id rfl
theorem ldr_ok {ci g : Nat} (h : isO ci g) : ldr ci (some g) = some g := if_pos h
def s_thk (F : Fld) (x h : Int) : Int := if s_fst F x h = -1 then 0 else F 5 h (s_fst F x h)
def s_all (F : Fld) (x tr : Int) : Bool := ff (fun k => s_fst F x (F 6 tr k) == -1) 3 0 == -1
def s_six (F : Fld) (x tr : Int) : Int := sm (fun k => s_thk F x (F 6 tr k)) 3 * s_abs (s_turn F tr)
section OQ
variable {c t g : Nat} {F : Fld} {M : Mem}
theorem BC.mv {M' : Mem} (h2 : M'.1 t 2 = M.1 t 2) (h6 : M'.1 t 6 = M.1 t 6) (h7 : M'.1 t 7 = M.1 t 7) (hc : ∀ x, (t + 4 ≤ x ∧ x ≤ t + 6) ∨ x = t + 9 ∨ x = t + 11 → M'.1 x = M.1 x) (B : BC t F M) : BC t F M' := by
  unfold BC at B ⊢
  rw [h2, h6, h7, hc (t + 4) (by omega), hc (t + 5) (by omega), hc (t + 6) (by omega), hc (t + 9) (by omega), hc (t + 11) (by omega)]
  exact B
theorem BC.fr {S : Nat → Prop} {M' : Mem} (hF : Fr S M M') (hS : ∀ x, t ≤ x → x ≤ t + 11 → ¬ S x) (B : BC t F M) : BC t F M' := by
  have h := (hF t (hS t (by omega) (by omega))).1
  exact BC.mv (by rw [h]) (by rw [h]) (by rw [h]) (fun x q => (hF x (hS x (by omega) (by omega))).1) B
theorem c_isFree (w : WF F) (B : BC t F M) {out : Int → Bool} (ho : ∀ b : Int, 0 ≤ b → b < bN F → M.1 (t + 13) b.toNat = bI (out b)) {b : Int} (hb : 0 ≤ b ∧ b < bN F) {φ : Nat} (hφ : 100 < φ) : fX0_isFree φ t (iI b) M = some (bI (s_free F out b)) := by
  have hn := bN_rng w
  have h7 := B.2.2.1
  have key := lup (N := bN F) (P := fun n i => lX0_isFree_2 φ t (iI b) M n (iI i) = some (bI (ff (fun o => !out o && s_hig F o b) (bN F) i == -1)))
    (fun n => by
      rw [lX0_isFree_2_s, ff_e]
      simp (disch := omega) only [iI_add, iI_sub, iI_mul, iI_neg, iI_nat, addm1, ixkI, ↓sbind, sbind, ↓bdS, bdS, ↓nm_eq, ↓jn_eq, iI_lt, iI_le, iI_eq, k_0, k_1, k_2, k_3, k_4, k_5, k_6, k_7, k_8, k_9, k_10, k_11, k_12, k_13, k_14, k_15, k_16, k_17, k_18, k_19, k_20, k_21, k_22, k_23, k_24, k_27, k_30, k_32, k_48, k_57, k_59, k_60, k_61, k_62, k_63, k_64, k_72, k_78, k_80, k_82, k_97, k_99, k_100, k_122, k_244, k_255, k_268, k_280, k_300, k_432, k_650, k_900, k_901, k_999, k_1700, k_2600, k_2601, k_2602, k_2603, k_2604, k_2610, k_2618, k_2682, k_2777, k_2844, k_2868, k_2880, k_3245, k_3250, k_9551, k_9999, k_65536, k_100000, k_999999, k_1000000, k_2147483647, lt_T, lt_F, le_T, le_F, eq_T, eq_F, ↓reduceIte, not_true_eq_false, not_false_eq_true, or_true, or_false, true_or, false_or, and_true, true_and, and_false, false_and, h7]
      rfl)
    (fun n i i0 i1 ih => by
      have e := ho i i0 i1
      rw [lX0_isFree_2_s, c_isHigher w B ⟨i0, i1⟩ hb hφ, ff_s _ i1]
      simp (disch := omega) only [iI_add, iI_sub, iI_mul, iI_neg, iI_nat, addm1, ixkI, ↓sbind, sbind, ↓bdS, bdS, ↓nm_eq, ↓jn_eq, iI_lt, iI_le, iI_eq, k_0, k_1, k_2, k_3, k_4, k_5, k_6, k_7, k_8, k_9, k_10, k_11, k_12, k_13, k_14, k_15, k_16, k_17, k_18, k_19, k_20, k_21, k_22, k_23, k_24, k_27, k_30, k_32, k_48, k_57, k_59, k_60, k_61, k_62, k_63, k_64, k_72, k_78, k_80, k_82, k_97, k_99, k_100, k_122, k_244, k_255, k_268, k_280, k_300, k_432, k_650, k_900, k_901, k_999, k_1700, k_2600, k_2601, k_2602, k_2603, k_2604, k_2610, k_2618, k_2682, k_2777, k_2844, k_2868, k_2880, k_3245, k_3250, k_9551, k_9999, k_65536, k_100000, k_999999, k_1000000, k_2147483647, lt_T, lt_F, le_T, le_F, eq_T, eq_F, ↓reduceIte, not_true_eq_false, not_false_eq_true, or_true, or_false, true_or, false_or, and_true, true_and, and_false, false_and, h7, e, bI_0, ih]
      cases out i <;> cases s_hig F i b <;> simp [show (i == -1) = false from by simp; omega, bI])
    φ 0 (by omega) (by omega) (by omega)
  unfold fX0_isFree
  simp only [k_0]
  exact key
theorem c_firstFree (w : WF F) (B : BC t F M) {out : Int → Bool} (ho : ∀ b : Int, 0 ≤ b → b < bN F → M.1 (t + 13) b.toNat = bI (out b)) {φ : Nat} (hφ : 100 < φ) : fX0_firstFree φ t M = some (iI (s_ff F out)) := by
  have hn := bN_rng w
  have h7 := B.2.2.1
  have key := lup (N := bN F) (P := fun n i => lX0_firstFree_2 φ t M n (iI i) = some (iI (ff (fun b => !out b && s_free F out b) (bN F) i)))
    (fun n => by
      rw [lX0_firstFree_2_s, ff_e]
      simp (disch := omega) only [iI_add, iI_sub, iI_mul, iI_neg, iI_nat, addm1, ixkI, ↓sbind, sbind, ↓bdS, bdS, ↓nm_eq, ↓jn_eq, iI_lt, iI_le, iI_eq, k_0, k_1, k_2, k_3, k_4, k_5, k_6, k_7, k_8, k_9, k_10, k_11, k_12, k_13, k_14, k_15, k_16, k_17, k_18, k_19, k_20, k_21, k_22, k_23, k_24, k_27, k_30, k_32, k_48, k_57, k_59, k_60, k_61, k_62, k_63, k_64, k_72, k_78, k_80, k_82, k_97, k_99, k_100, k_122, k_244, k_255, k_268, k_280, k_300, k_432, k_650, k_900, k_901, k_999, k_1700, k_2600, k_2601, k_2602, k_2603, k_2604, k_2610, k_2618, k_2682, k_2777, k_2844, k_2868, k_2880, k_3245, k_3250, k_9551, k_9999, k_65536, k_100000, k_999999, k_1000000, k_2147483647, lt_T, lt_F, le_T, le_F, eq_T, eq_F, ↓reduceIte, not_true_eq_false, not_false_eq_true, or_true, or_false, true_or, false_or, and_true, true_and, and_false, false_and, h7])
    (fun n i i0 i1 ih => by
      have e := ho i i0 i1
      rw [lX0_firstFree_2_s, c_isFree w B ho ⟨i0, i1⟩ hφ, ff_s _ i1]
      simp (disch := omega) only [iI_add, iI_sub, iI_mul, iI_neg, iI_nat, addm1, ixkI, ↓sbind, sbind, ↓bdS, bdS, ↓nm_eq, ↓jn_eq, iI_lt, iI_le, iI_eq, k_0, k_1, k_2, k_3, k_4, k_5, k_6, k_7, k_8, k_9, k_10, k_11, k_12, k_13, k_14, k_15, k_16, k_17, k_18, k_19, k_20, k_21, k_22, k_23, k_24, k_27, k_30, k_32, k_48, k_57, k_59, k_60, k_61, k_62, k_63, k_64, k_72, k_78, k_80, k_82, k_97, k_99, k_100, k_122, k_244, k_255, k_268, k_280, k_300, k_432, k_650, k_900, k_901, k_999, k_1700, k_2600, k_2601, k_2602, k_2603, k_2604, k_2610, k_2618, k_2682, k_2777, k_2844, k_2868, k_2880, k_3245, k_3250, k_9551, k_9999, k_65536, k_100000, k_999999, k_1000000, k_2147483647, lt_T, lt_F, le_T, le_F, eq_T, eq_F, ↓reduceIte, not_true_eq_false, not_false_eq_true, or_true, or_false, true_or, false_or, and_true, true_and, and_false, false_and, h7, e, bI_0, ih]
      cases out i <;> cases s_free F out i <;> simp)
    φ 0 (by omega) (by omega) (by omega)
  unfold fX0_firstFree
  simp only [k_0]
  exact key
theorem c_order2 (w : WF F) (K : Mem → Option (Int32 × Mem)) : ∀ (n : Nat) (x : Int), 0 ≤ x → x ≤ bN F → bN F < n + x → ∀ M, M.1 t 7 = iI (bN F) → (∀ y : Int, 0 ≤ y → y < x → M.1 (t + 13) y.toNat = iI 0) → ∃ M', lX0_putInOrder_2 K t n (iI x) M = K M' ∧ Fr (Rg (t + 13) (t + 13)) M M' ∧ ∀ y : Int, 0 ≤ y → y < bN F → M'.1 (t + 13) y.toNat = iI 0 := by
  have hn := bN_rng w
  refine lup (N := bN F) (P := fun n x => ∀ M, M.1 t 7 = iI (bN F) → (∀ y : Int, 0 ≤ y → y < x → M.1 (t + 13) y.toNat = iI 0) → ∃ M', lX0_putInOrder_2 K t n (iI x) M = K M' ∧ Fr (Rg (t + 13) (t + 13)) M M' ∧ ∀ y : Int, 0 ≤ y → y < bN F → M'.1 (t + 13) y.toNat = iI 0) ?_ ?_
  · intro n M h7 hM
    refine ⟨M, ?_, Fr.refl M, hM⟩
    rw [lX0_putInOrder_2_s]
    simp (disch := omega) only [iI_add, iI_sub, iI_mul, iI_neg, iI_nat, addm1, ixkI, ↓sbind, sbind, ↓bdS, bdS, ↓nm_eq, ↓jn_eq, iI_lt, iI_le, iI_eq, k_0, k_1, k_2, k_3, k_4, k_5, k_6, k_7, k_8, k_9, k_10, k_11, k_12, k_13, k_14, k_15, k_16, k_17, k_18, k_19, k_20, k_21, k_22, k_23, k_24, k_27, k_30, k_32, k_48, k_57, k_59, k_60, k_61, k_62, k_63, k_64, k_72, k_78, k_80, k_82, k_97, k_99, k_100, k_122, k_244, k_255, k_268, k_280, k_300, k_432, k_650, k_900, k_901, k_999, k_1700, k_2600, k_2601, k_2602, k_2603, k_2604, k_2610, k_2618, k_2682, k_2777, k_2844, k_2868, k_2880, k_3245, k_3250, k_9551, k_9999, k_65536, k_100000, k_999999, k_1000000, k_2147483647, lt_T, lt_F, le_T, le_F, eq_T, eq_F, ↓reduceIte, not_true_eq_false, not_false_eq_true, or_true, or_false, true_or, false_or, and_true, true_and, and_false, false_and, h7]
  · intro n x x0 x1 ih M h7 hM
    have hF : Fr (Rg (t + 13) (t + 13)) M (stI M (t + 13) x.toNat (iI 0)) := Fr.stI ⟨by omega, by omega⟩ (Fr.refl M)
    obtain ⟨M', e, f, T⟩ := ih (stI M (t + 13) x.toNat (iI 0)) (by rw [rI_ng (by omega)]; exact h7) (fun y y0 y1 => by
      by_cases hy : y = x
      · rw [hy]; exact rI_eq _ _ _ _
      · rw [rI_nk (by omega)]; exact hM y y0 (by omega))
    refine ⟨M', ?_, hF.trans f, T⟩
    rw [lX0_putInOrder_2_s, ← e]
    simp (disch := omega) only [iI_add, iI_sub, iI_mul, iI_neg, iI_nat, addm1, ixkI, ↓sbind, sbind, ↓bdS, bdS, ↓nm_eq, ↓jn_eq, iI_lt, iI_le, iI_eq, k_0, k_1, k_2, k_3, k_4, k_5, k_6, k_7, k_8, k_9, k_10, k_11, k_12, k_13, k_14, k_15, k_16, k_17, k_18, k_19, k_20, k_21, k_22, k_23, k_24, k_27, k_30, k_32, k_48, k_57, k_59, k_60, k_61, k_62, k_63, k_64, k_72, k_78, k_80, k_82, k_97, k_99, k_100, k_122, k_244, k_255, k_268, k_280, k_300, k_432, k_650, k_900, k_901, k_999, k_1700, k_2600, k_2601, k_2602, k_2603, k_2604, k_2610, k_2618, k_2682, k_2777, k_2844, k_2868, k_2880, k_3245, k_3250, k_9551, k_9999, k_65536, k_100000, k_999999, k_1000000, k_2147483647, lt_T, lt_F, le_T, le_F, eq_T, eq_F, ↓reduceIte, not_true_eq_false, not_false_eq_true, or_true, or_false, true_or, false_or, and_true, true_and, and_false, false_and, h7, vn_0]
theorem c_order25 (w : WF F) {φ : Nat} (hφ : 100 < φ) : ∀ (n k : Nat) (M : Mem), (k : Int) ≤ bN F → bN F < n + k → BC t F M → (∀ b : Int, 0 ≤ b → b < bN F → M.1 (t + 13) b.toNat = bI (oO F k b)) → (∀ j : Nat, j < k → M.1 (t + 12) j = iI (oP F j)) → ∃ M', lX0_putInOrder_25 φ t n (iI (k : Nat)) M = some (bI (ff (fun k => oP F k.toNat == -1) (bN F) k == -1), M') ∧ Fr (Rg (t + 12) (t + 13)) M M' ∧ ((ff (fun k => oP F k.toNat == -1) (bN F) k == -1) = true → ∀ j : Nat, (j : Int) < bN F → M'.1 (t + 12) j = iI (oP F j)) := by
  have hn := bN_rng w
  intro n
  induction n with
  | zero => intro k M hk hn; omega
  | succ n ih =>
    intro k M hk hn hB ho hp
    have h7 := hB.2.2.1
    by_cases hlt : (k : Int) < bN F
    · have hf := c_firstFree w hB ho hφ
      have hbd := s_ff_bd w (oO F k)
      by_cases hc : oP F k = -1
      · have hc' : s_ff F (oO F k) = -1 := hc
        have ef : ff (fun k => oP F k.toNat == -1) (bN F) k = k := ff_t hlt (by show (oP F ((k : Nat) : Int).toNat == -1) = true; rw [Int.toNat_natCast, hc]; rfl)
        have ek : (((k : Nat) : Int) == -1) = false := by simp <;> omega
        refine ⟨M, ?_, Fr.refl M, fun q => ?_⟩
        · rw [lX0_putInOrder_25_s, hf, ef, ek]
          simp (disch := omega) only [iI_add, iI_sub, iI_mul, iI_neg, iI_nat, addm1, ixkI, ↓sbind, sbind, ↓bdS, bdS, ↓nm_eq, ↓jn_eq, iI_lt, iI_le, iI_eq, k_0, k_1, k_2, k_3, k_4, k_5, k_6, k_7, k_8, k_9, k_10, k_11, k_12, k_13, k_14, k_15, k_16, k_17, k_18, k_19, k_20, k_21, k_22, k_23, k_24, k_27, k_30, k_32, k_48, k_57, k_59, k_60, k_61, k_62, k_63, k_64, k_72, k_78, k_80, k_82, k_97, k_99, k_100, k_122, k_244, k_255, k_268, k_280, k_300, k_432, k_650, k_900, k_901, k_999, k_1700, k_2600, k_2601, k_2602, k_2603, k_2604, k_2610, k_2618, k_2682, k_2777, k_2844, k_2868, k_2880, k_3245, k_3250, k_9551, k_9999, k_65536, k_100000, k_999999, k_1000000, k_2147483647, lt_T, lt_F, le_T, le_F, eq_T, eq_F, ↓reduceIte, not_true_eq_false, not_false_eq_true, or_true, or_false, true_or, false_or, and_true, true_and, and_false, false_and, h7]
          rfl
        · rw [ef, ek] at q
          cases q
      · have hc' : s_ff F (oO F k) = oP F k := rfl
        have ef : ff (fun k => oP F k.toNat == -1) (bN F) k = ff (fun k => oP F k.toNat == -1) (bN F) ((k + 1 : Nat) : Int) := ff_f hlt (by show (oP F ((k : Nat) : Int).toNat == -1) = false; rw [Int.toNat_natCast]; simpa using hc)
        rw [hc'] at hf hbd
        have hF : Fr (Rg (t + 12) (t + 13)) M (stI (stI M (t + 12) k (iI (oP F k))) (t + 13) (oP F k).toNat (iI 1)) := Fr.stI ⟨by omega, by omega⟩ (Fr.stI ⟨by omega, by omega⟩ (Fr.refl M))
        obtain ⟨M', e, f, T⟩ := ih (k + 1) (stI (stI M (t + 12) k (iI (oP F k))) (t + 13) (oP F k).toNat (iI 1)) (by omega) (by omega) (hB.fr hF (fun x a b q => by have := q.1; omega)) (fun b b0 b1 => by
          rw [oO_s]
          by_cases hb : b = oP F k
          · rw [hb, rI_eq]
            simp [bI]
          · have hb' : (b == oP F k) = false := by simpa using hb
            rw [rI_nk (by omega), rI_ng (by omega), ho b b0 b1, hb', Bool.or_false]) (fun j hj => by
          rw [rI_ng (by omega)]
          by_cases hjk : j = k
          · rw [hjk, rI_eq]
          · rw [rI_nk hjk]; exact hp j (by omega))
        rw [ef]
        refine ⟨M', ?_, hF.trans f, T⟩
        rw [lX0_putInOrder_25_s, hf, ← e]
        simp (disch := omega) only [iI_add, iI_sub, iI_mul, iI_neg, iI_nat, addm1, ixkI, ↓sbind, sbind, ↓bdS, bdS, ↓nm_eq, ↓jn_eq, iI_lt, iI_le, iI_eq, k_0, k_1, k_2, k_3, k_4, k_5, k_6, k_7, k_8, k_9, k_10, k_11, k_12, k_13, k_14, k_15, k_16, k_17, k_18, k_19, k_20, k_21, k_22, k_23, k_24, k_27, k_30, k_32, k_48, k_57, k_59, k_60, k_61, k_62, k_63, k_64, k_72, k_78, k_80, k_82, k_97, k_99, k_100, k_122, k_244, k_255, k_268, k_280, k_300, k_432, k_650, k_900, k_901, k_999, k_1700, k_2600, k_2601, k_2602, k_2603, k_2604, k_2610, k_2618, k_2682, k_2777, k_2844, k_2868, k_2880, k_3245, k_3250, k_9551, k_9999, k_65536, k_100000, k_999999, k_1000000, k_2147483647, lt_T, lt_F, le_T, le_F, eq_T, eq_F, ↓reduceIte, not_true_eq_false, not_false_eq_true, or_true, or_false, true_or, false_or, and_true, true_and, and_false, false_and, h7, vn_1, Int.toNat_natCast]
        rfl
    · have hkk : (k : Int) = bN F := by omega
      refine ⟨M, ?_, Fr.refl M, fun _ j hj => hp j (by omega)⟩
      rw [lX0_putInOrder_25_s, hkk, ff_e]
      simp (disch := omega) only [iI_add, iI_sub, iI_mul, iI_neg, iI_nat, addm1, ixkI, ↓sbind, sbind, ↓bdS, bdS, ↓nm_eq, ↓jn_eq, iI_lt, iI_le, iI_eq, k_0, k_1, k_2, k_3, k_4, k_5, k_6, k_7, k_8, k_9, k_10, k_11, k_12, k_13, k_14, k_15, k_16, k_17, k_18, k_19, k_20, k_21, k_22, k_23, k_24, k_27, k_30, k_32, k_48, k_57, k_59, k_60, k_61, k_62, k_63, k_64, k_72, k_78, k_80, k_82, k_97, k_99, k_100, k_122, k_244, k_255, k_268, k_280, k_300, k_432, k_650, k_900, k_901, k_999, k_1700, k_2600, k_2601, k_2602, k_2603, k_2604, k_2610, k_2618, k_2682, k_2777, k_2844, k_2868, k_2880, k_3245, k_3250, k_9551, k_9999, k_65536, k_100000, k_999999, k_1000000, k_2147483647, lt_T, lt_F, le_T, le_F, eq_T, eq_F, ↓reduceIte, not_true_eq_false, not_false_eq_true, or_true, or_false, true_or, false_or, and_true, true_and, and_false, false_and, h7]
      rfl
def OC (t : Nat) (F : Fld) (M : Mem) : Prop := M.1 t 13 = iI 1 ∨ (M.1 t 13 = iI 0 ∧ M.1 t 14 = bI (s_ho F) ∧ (s_ho F = true → ∀ j : Nat, (j : Int) < bN F → M.1 (t + 12) j = iI (oP F j)))
theorem c_isOrdered (w : WF F) (B : BC t F M) (O : OC t F M) {φ : Nat} (hφ : 100 < φ) : ∃ M', fX0_isOrdered φ t M = some (bI (s_ho F), M') ∧ Fr (fun x => x = t ∨ x = t + 12 ∨ x = t + 13) M M' ∧ BC t F M' ∧ OC t F M' ∧ M'.1 t 1 = M.1 t 1 ∧ (s_ho F = true → ∀ j : Nat, (j : Int) < bN F → M'.1 (t + 12) j = iI (oP F j)) := by
  have hn := bN_rng w
  rcases O with h13 | ⟨h13, h14, hO⟩
  · have hF : Fr (fun x => x = t ∨ x = t + 12 ∨ x = t + 13) M (stI M t 13 (iI 0)) := Fr.stI (Or.inl rfl) (Fr.refl M)
    have B1 : BC t F (stI M t 13 (iI 0)) := BC.mv (rI_nk (by decide)) (rI_nk (by decide)) (rI_nk (by decide)) (fun x q => by funext z; exact rI_ng (by omega)) B
    obtain ⟨M1, e1, f1, T1⟩ := c_order2 (t := t) w (fun M2 => lX0_putInOrder_25 φ t φ (iI 0) M2) φ 0 (by omega) (by omega) (by omega) (stI M t 13 (iI 0)) B1.2.2.1 (fun y a b => by omega)
    obtain ⟨M2, e2, f2, T2⟩ := c_order25 (t := t) w hφ φ 0 M1 (by omega) (by omega) (B1.fr f1 (fun x a b q => by have := q.1; omega)) (fun b b0 b1 => by rw [T1 b b0 b1]; rfl) (fun j hj => absurd hj (Nat.not_lt_zero j))
    have e2' : lX0_putInOrder_25 φ t φ (iI 0) M1 = some (bI (s_ho F), M2) := e2
    have B2 : BC t F M2 := (B1.fr f1 (fun x a b q => by have := q.1; omega)).fr f2 (fun x a b q => by have := q.1; omega)
    have m13 : M2.1 t 13 = iI 0 := by rw [(f2 t (fun q => by have := q.1; omega)).1, (f1 t (fun q => by have := q.1; omega)).1]; exact rI_eq _ _ _ _
    have hO2 : s_ho F = true → ∀ j : Nat, (j : Int) < bN F → (stI M2 t 14 (bI (s_ho F))).1 (t + 12) j = iI (oP F j) := fun q j hj => by rw [rI_ng (by omega)]; exact T2 q j hj
    refine ⟨stI M2 t 14 (bI (s_ho F)), ?_, Fr.stI (Or.inl rfl) (hF.trans ((f1.mono fun x q => Or.inr (Or.inr (by have := q.1; have := q.2; omega))).trans (f2.mono fun x q => Or.inr (by have := q.1; have := q.2; omega)))), BC.mv (rI_nk (by decide)) (rI_nk (by decide)) (rI_nk (by decide)) (fun x q => by funext z; exact rI_ng (by omega)) B2, Or.inr ⟨by rw [rI_nk (by decide)]; exact m13, rI_eq _ _ _ _, hO2⟩, ?_, hO2⟩
    · unfold fX0_isOrdered fX0_putInOrder
      simp (disch := omega) only [iI_add, iI_sub, iI_mul, iI_neg, iI_nat, addm1, ixkI, ↓sbind, sbind, ↓bdS, bdS, ↓nm_eq, ↓jn_eq, iI_lt, iI_le, iI_eq, k_0, k_1, k_2, k_3, k_4, k_5, k_6, k_7, k_8, k_9, k_10, k_11, k_12, k_13, k_14, k_15, k_16, k_17, k_18, k_19, k_20, k_21, k_22, k_23, k_24, k_27, k_30, k_32, k_48, k_57, k_59, k_60, k_61, k_62, k_63, k_64, k_72, k_78, k_80, k_82, k_97, k_99, k_100, k_122, k_244, k_255, k_268, k_280, k_300, k_432, k_650, k_900, k_901, k_999, k_1700, k_2600, k_2601, k_2602, k_2603, k_2604, k_2610, k_2618, k_2682, k_2777, k_2844, k_2868, k_2880, k_3245, k_3250, k_9551, k_9999, k_65536, k_100000, k_999999, k_1000000, k_2147483647, lt_T, lt_F, le_T, le_F, eq_T, eq_F, ↓reduceIte, not_true_eq_false, not_false_eq_true, or_true, or_false, true_or, false_or, and_true, true_and, and_false, false_and, h13, e1, e2', bI_01, rI_eq]
    · rw [rI_nk (by decide), (f2 t (fun q => by have := q.1; omega)).1, (f1 t (fun q => by have := q.1; omega)).1, rI_nk (by decide)]
  · refine ⟨M, ?_, Fr.refl M, B, Or.inr ⟨h13, h14, hO⟩, rfl, hO⟩
    unfold fX0_isOrdered
    simp (disch := omega) only [iI_add, iI_sub, iI_mul, iI_neg, iI_nat, addm1, ixkI, ↓sbind, sbind, ↓bdS, bdS, ↓nm_eq, ↓jn_eq, iI_lt, iI_le, iI_eq, k_0, k_1, k_2, k_3, k_4, k_5, k_6, k_7, k_8, k_9, k_10, k_11, k_12, k_13, k_14, k_15, k_16, k_17, k_18, k_19, k_20, k_21, k_22, k_23, k_24, k_27, k_30, k_32, k_48, k_57, k_59, k_60, k_61, k_62, k_63, k_64, k_72, k_78, k_80, k_82, k_97, k_99, k_100, k_122, k_244, k_255, k_268, k_280, k_300, k_432, k_650, k_900, k_901, k_999, k_1700, k_2600, k_2601, k_2602, k_2603, k_2604, k_2610, k_2618, k_2682, k_2777, k_2844, k_2868, k_2880, k_3245, k_3250, k_9551, k_9999, k_65536, k_100000, k_999999, k_1000000, k_2147483647, lt_T, lt_F, le_T, le_F, eq_T, eq_F, ↓reduceIte, not_true_eq_false, not_false_eq_true, or_true, or_false, true_or, false_or, and_true, true_and, and_false, false_and, h13, h14, bI_01]
theorem c_hasAtCorners (w : WF F) (G : GR g F M) (hg : M.2.2 c 7 = some g) (ho : isO 2 g) (B : BC (c + 57) F M) {x tr : Int} (hx : 0 ≤ x ∧ x < bN F) (ht : 0 ≤ tr ∧ tr < F 0 2 0) {φ : Nat} (hφ : 100 < φ) : fX10_hasAtCorners φ c (iI x) (iI tr) M = some (bI (s_all F x tr)) := by
  have h1 := w.n1
  have key := lup (N := 3) (P := fun n i => lX10_hasAtCorners_2 c (iI x) (iI tr) M n (iI i) = some (bI (ff (fun k => s_fst F x (F 6 tr k) == -1) 3 i == -1)))
    (fun n => by
      rw [lX10_hasAtCorners_2_s, ff_e]
      simp (disch := omega) only [iI_add, iI_sub, iI_mul, iI_neg, iI_nat, addm1, ixkI, ↓sbind, sbind, ↓bdS, bdS, ↓nm_eq, ↓jn_eq, iI_lt, iI_le, iI_eq, k_0, k_1, k_2, k_3, k_4, k_5, k_6, k_7, k_8, k_9, k_10, k_11, k_12, k_13, k_14, k_15, k_16, k_17, k_18, k_19, k_20, k_21, k_22, k_23, k_24, k_27, k_30, k_32, k_48, k_57, k_59, k_60, k_61, k_62, k_63, k_64, k_72, k_78, k_80, k_82, k_97, k_99, k_100, k_122, k_244, k_255, k_268, k_280, k_300, k_432, k_650, k_900, k_901, k_999, k_1700, k_2600, k_2601, k_2602, k_2603, k_2604, k_2610, k_2618, k_2682, k_2777, k_2844, k_2868, k_2880, k_3245, k_3250, k_9551, k_9999, k_65536, k_100000, k_999999, k_1000000, k_2147483647, lt_T, lt_F, le_T, le_F, eq_T, eq_F, ↓reduceIte, not_true_eq_false, not_false_eq_true, or_true, or_false, true_or, false_or, and_true, true_and, and_false, false_and]
      rfl)
    (fun n i i0 i1 ih => by
      have hc := w.co ht ⟨i0, i1⟩
      have z := s_fst_bd w (x := x) hc
      rw [lX10_hasAtCorners_2_s, hg, ldr_ok ho]
      simp only [sbind]
      rw [c_cornerHole w G ht ⟨i0, i1⟩]
      simp only [sbind]
      rw [c_layerIn w B hx (by omega), show s_li F x (F 6 tr i) = s_fst F x (F 6 tr i) from if_pos hc.2]
      by_cases hd : s_fst F x (F 6 tr i) = -1
      · rw [ff_t i1 (by simpa using hd), show (i == -1) = false from by simp; omega]
        simp (disch := omega) only [iI_add, iI_sub, iI_mul, iI_neg, iI_nat, addm1, ixkI, ↓sbind, sbind, ↓bdS, bdS, ↓nm_eq, ↓jn_eq, iI_lt, iI_le, iI_eq, k_0, k_1, k_2, k_3, k_4, k_5, k_6, k_7, k_8, k_9, k_10, k_11, k_12, k_13, k_14, k_15, k_16, k_17, k_18, k_19, k_20, k_21, k_22, k_23, k_24, k_27, k_30, k_32, k_48, k_57, k_59, k_60, k_61, k_62, k_63, k_64, k_72, k_78, k_80, k_82, k_97, k_99, k_100, k_122, k_244, k_255, k_268, k_280, k_300, k_432, k_650, k_900, k_901, k_999, k_1700, k_2600, k_2601, k_2602, k_2603, k_2604, k_2610, k_2618, k_2682, k_2777, k_2844, k_2868, k_2880, k_3245, k_3250, k_9551, k_9999, k_65536, k_100000, k_999999, k_1000000, k_2147483647, lt_T, lt_F, le_T, le_F, eq_T, eq_F, ↓reduceIte, not_true_eq_false, not_false_eq_true, or_true, or_false, true_or, false_or, and_true, true_and, and_false, false_and]
        rfl
      · rw [ff_f i1 (by simpa using hd), ← ih]
        simp (disch := omega) only [iI_add, iI_sub, iI_mul, iI_neg, iI_nat, addm1, ixkI, ↓sbind, sbind, ↓bdS, bdS, ↓nm_eq, ↓jn_eq, iI_lt, iI_le, iI_eq, k_0, k_1, k_2, k_3, k_4, k_5, k_6, k_7, k_8, k_9, k_10, k_11, k_12, k_13, k_14, k_15, k_16, k_17, k_18, k_19, k_20, k_21, k_22, k_23, k_24, k_27, k_30, k_32, k_48, k_57, k_59, k_60, k_61, k_62, k_63, k_64, k_72, k_78, k_80, k_82, k_97, k_99, k_100, k_122, k_244, k_255, k_268, k_280, k_300, k_432, k_650, k_900, k_901, k_999, k_1700, k_2600, k_2601, k_2602, k_2603, k_2604, k_2610, k_2618, k_2682, k_2777, k_2844, k_2868, k_2880, k_3245, k_3250, k_9551, k_9999, k_65536, k_100000, k_999999, k_1000000, k_2147483647, lt_T, lt_F, le_T, le_F, eq_T, eq_F, ↓reduceIte, not_true_eq_false, not_false_eq_true, or_true, or_false, true_or, false_or, and_true, true_and, and_false, false_and])
    φ 0 (by omega) (by omega) (by omega)
  unfold fX10_hasAtCorners
  simp only [k_0]
  exact key
theorem c_depthAtCorner (w : WF F) (G : GR g F M) (hg : M.2.2 c 7 = some g) (ho : isO 2 g) (B : BC (c + 57) F M) {x tr k : Int} (hx : 0 ≤ x ∧ x < bN F) (ht : 0 ≤ tr ∧ tr < F 0 2 0) (hk : 0 ≤ k ∧ k < 3) (hs : s_fst F x (F 6 tr k) ≠ -1) {φ : Nat} (hφ : 100 < φ) : fX10_depthAtCorner φ c (iI x) (iI tr) (iI k) M = some (lI (s_depth F (F 6 tr k) (s_fst F x (F 6 tr k)))) := by
  have h1 := w.n1
  have hc := w.co ht hk
  have z := s_fst_bd w (x := x) hc
  have zd := w.depth hc (n := s_fst F x (F 6 tr k)) (by omega)
  unfold fX10_depthAtCorner
  rw [hg, ldr_ok ho]
  simp only [sbind]
  rw [c_cornerHole w G ht hk]
  simp only [sbind]
  rw [c_layerIn w B hx (by omega), show s_li F x (F 6 tr k) = s_fst F x (F 6 tr k) from if_pos hc.2]
  simp only [sbind]
  rw [c_depthOf w G hc (by omega) hφ]
  simp (disch := omega) only [sbind, iI_l]
theorem c_thickAtCorner (w : WF F) (G : GR g F M) (hg : M.2.2 c 7 = some g) (ho : isO 2 g) (B : BC (c + 57) F M) {x tr k : Int} (hx : 0 ≤ x ∧ x < bN F) (ht : 0 ≤ tr ∧ tr < F 0 2 0) (hk : 0 ≤ k ∧ k < 3) : fX10_thickAtCorner c (iI x) (iI tr) (iI k) M = some (lI (s_thk F x (F 6 tr k))) := by
  have h1 := w.n1
  have hc := w.co ht hk
  have z := s_fst_bd w (x := x) hc
  unfold fX10_thickAtCorner s_thk
  rw [hg, ldr_ok ho]
  simp only [sbind]
  rw [c_cornerHole w G ht hk]
  simp only [sbind]
  rw [c_layerIn w B hx (by omega), show s_li F x (F 6 tr k) = s_fst F x (F 6 tr k) from if_pos hc.2]
  by_cases hd : s_fst F x (F 6 tr k) = -1
  · simp (disch := omega) only [iI_add, iI_sub, iI_mul, iI_neg, iI_nat, addm1, ixkI, ↓sbind, sbind, ↓bdS, bdS, ↓nm_eq, ↓jn_eq, iI_lt, iI_le, iI_eq, k_0, k_1, k_2, k_3, k_4, k_5, k_6, k_7, k_8, k_9, k_10, k_11, k_12, k_13, k_14, k_15, k_16, k_17, k_18, k_19, k_20, k_21, k_22, k_23, k_24, k_27, k_30, k_32, k_48, k_57, k_59, k_60, k_61, k_62, k_63, k_64, k_72, k_78, k_80, k_82, k_97, k_99, k_100, k_122, k_244, k_255, k_268, k_280, k_300, k_432, k_650, k_900, k_901, k_999, k_1700, k_2600, k_2601, k_2602, k_2603, k_2604, k_2610, k_2618, k_2682, k_2777, k_2844, k_2868, k_2880, k_3245, k_3250, k_9551, k_9999, k_65536, k_100000, k_999999, k_1000000, k_2147483647, lt_T, lt_F, le_T, le_F, eq_T, eq_F, ↓reduceIte, not_true_eq_false, not_false_eq_true, or_true, or_false, true_or, false_or, and_true, true_and, and_false, false_and, kl_0]
  · have zt := w.th hc (l := s_fst F x (F 6 tr k)) (by omega)
    simp (disch := omega) only [iI_add, iI_sub, iI_mul, iI_neg, iI_nat, addm1, ixkI, ↓sbind, sbind, ↓bdS, bdS, ↓nm_eq, ↓jn_eq, iI_lt, iI_le, iI_eq, k_0, k_1, k_2, k_3, k_4, k_5, k_6, k_7, k_8, k_9, k_10, k_11, k_12, k_13, k_14, k_15, k_16, k_17, k_18, k_19, k_20, k_21, k_22, k_23, k_24, k_27, k_30, k_32, k_48, k_57, k_59, k_60, k_61, k_62, k_63, k_64, k_72, k_78, k_80, k_82, k_97, k_99, k_100, k_122, k_244, k_255, k_268, k_280, k_300, k_432, k_650, k_900, k_901, k_999, k_1700, k_2600, k_2601, k_2602, k_2603, k_2604, k_2610, k_2618, k_2682, k_2777, k_2844, k_2868, k_2880, k_3245, k_3250, k_9551, k_9999, k_65536, k_100000, k_999999, k_1000000, k_2147483647, lt_T, lt_F, le_T, le_F, eq_T, eq_F, ↓reduceIte, not_true_eq_false, not_false_eq_true, or_true, or_false, true_or, false_or, and_true, true_and, and_false, false_and, c_slot, G.th, iI_l]
theorem s_thk_bd (w : WF F) {x h : Int} (hh : 0 ≤ h ∧ h < F 0 1 0) : 0 ≤ s_thk F x h ∧ s_thk F x h ≤ 999 := by
  have z := s_fst_bd w (x := x) hh
  unfold s_thk
  by_cases hd : s_fst F x h = -1
  · rw [if_pos hd]; omega
  · rw [if_neg hd]
    have zt := w.th hh (l := s_fst F x h) (by omega)
    omega
theorem c_sixfoldVolume (w : WF F) (G : GR g F M) (hg : M.2.2 c 7 = some g) (ho : isO 2 g) (B : BC (c + 57) F M) {x tr : Int} (hx : 0 ≤ x ∧ x < bN F) (ht : 0 ≤ tr ∧ tr < F 0 2 0) {φ : Nat} (hφ : 100 < φ) : fX10_sixfoldVolume φ c (iI x) (iI tr) M = some (lI (s_six F x tr)) := by
  have h1 := w.n1
  have hb := s_abs_bd (w.tr ht)
  have key := lup (N := 3) (P := fun n i => ∀ K, lX10_sixfoldVolume_5 K c (iI x) (iI tr) M n (lI (sm (fun k => s_thk F x (F 6 tr k)) i)) (iI i) = K (lI (sm (fun k => s_thk F x (F 6 tr k)) 3)))
    (fun n K => by
      rw [lX10_sixfoldVolume_5_s]
      simp (disch := omega) only [iI_add, iI_sub, iI_mul, iI_neg, iI_nat, addm1, ixkI, ↓sbind, sbind, ↓bdS, bdS, ↓nm_eq, ↓jn_eq, iI_lt, iI_le, iI_eq, k_0, k_1, k_2, k_3, k_4, k_5, k_6, k_7, k_8, k_9, k_10, k_11, k_12, k_13, k_14, k_15, k_16, k_17, k_18, k_19, k_20, k_21, k_22, k_23, k_24, k_27, k_30, k_32, k_48, k_57, k_59, k_60, k_61, k_62, k_63, k_64, k_72, k_78, k_80, k_82, k_97, k_99, k_100, k_122, k_244, k_255, k_268, k_280, k_300, k_432, k_650, k_900, k_901, k_999, k_1700, k_2600, k_2601, k_2602, k_2603, k_2604, k_2610, k_2618, k_2682, k_2777, k_2844, k_2868, k_2880, k_3245, k_3250, k_9551, k_9999, k_65536, k_100000, k_999999, k_1000000, k_2147483647, lt_T, lt_F, le_T, le_F, eq_T, eq_F, ↓reduceIte, not_true_eq_false, not_false_eq_true, or_true, or_false, true_or, false_or, and_true, true_and, and_false, false_and])
    (fun n i i0 i1 ih K => by
      rw [lX10_sixfoldVolume_5_s, c_thickAtCorner w G hg ho B hx ht ⟨i0, i1⟩, ← ih K, sm_s _ i0]
      simp (disch := omega) only [iI_add, iI_sub, iI_mul, iI_neg, iI_nat, addm1, ixkI, ↓sbind, sbind, ↓bdS, bdS, ↓nm_eq, ↓jn_eq, iI_lt, iI_le, iI_eq, k_0, k_1, k_2, k_3, k_4, k_5, k_6, k_7, k_8, k_9, k_10, k_11, k_12, k_13, k_14, k_15, k_16, k_17, k_18, k_19, k_20, k_21, k_22, k_23, k_24, k_27, k_30, k_32, k_48, k_57, k_59, k_60, k_61, k_62, k_63, k_64, k_72, k_78, k_80, k_82, k_97, k_99, k_100, k_122, k_244, k_255, k_268, k_280, k_300, k_432, k_650, k_900, k_901, k_999, k_1700, k_2600, k_2601, k_2602, k_2603, k_2604, k_2610, k_2618, k_2682, k_2777, k_2844, k_2868, k_2880, k_3245, k_3250, k_9551, k_9999, k_65536, k_100000, k_999999, k_1000000, k_2147483647, lt_T, lt_F, le_T, le_F, eq_T, eq_F, ↓reduceIte, not_true_eq_false, not_false_eq_true, or_true, or_false, true_or, false_or, and_true, true_and, and_false, false_and, lI_add])
    φ 0 (by omega) (by omega) (by omega)
  unfold fX10_sixfoldVolume s_six
  simp only [k_0, kl_0]
  refine (key _).trans ?_
  simp only [hg, ldr_ok ho, sbind]
  rw [c_twiceArea w G ht]
  simp (disch := omega) only [sbind, iI_l, lI_mul]
end OQ
