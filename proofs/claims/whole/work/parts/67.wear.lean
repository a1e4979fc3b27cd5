/-! wearing off: the spec, and the class -/
def wearN : Nat → Fld → Int → Int → Fld × Int
  | 0, F, _, left => (F, left)
  | d + 1, F, h, left => if left ≤ 0 ∨ F 3 h 2 ≤ 0 then (F, left) else if F 5 h 0 ≤ left then wearN d (u_rmv (u_thn F h 0) h) h (left - F 5 h 0) else (u_thn F h (F 5 h 0 - left), 0)
theorem wearN_0 {d : Nat} {F : Fld} {h left : Int} (hc : left ≤ 0 ∨ F 3 h 2 ≤ 0) : wearN (d + 1) F h left = (F, left) := if_pos hc
theorem wearN_r {d : Nat} {F : Fld} {h left : Int} (hc : ¬ (left ≤ 0 ∨ F 3 h 2 ≤ 0)) (h5 : F 5 h 0 ≤ left) : wearN (d + 1) F h left = wearN d (u_rmv (u_thn F h 0) h) h (left - F 5 h 0) := by
  show (if left ≤ 0 ∨ F 3 h 2 ≤ 0 then _ else _) = _
  rw [if_neg hc, if_pos h5]
theorem wearN_t {d : Nat} {F : Fld} {h left : Int} (hc : ¬ (left ≤ 0 ∨ F 3 h 2 ≤ 0)) (h5 : ¬ F 5 h 0 ≤ left) : wearN (d + 1) F h left = (u_thn F h (F 5 h 0 - left), 0) := by
  show (if left ≤ 0 ∨ F 3 h 2 ≤ 0 then _ else _) = _
  rw [if_neg hc, if_neg h5]
/-- a hole's layers are well made -/
def Hw (F : Fld) (h R : Int) : Prop := (0 ≤ F 3 h 2 ∧ F 3 h 2 ≤ 12) ∧ ∀ l, 0 ≤ l → l < F 3 h 2 → (0 ≤ F 4 h l ∧ F 4 h l < R) ∧ 1 ≤ F 5 h l ∧ F 5 h l ≤ 999
theorem Hw.rmv {F : Fld} {h R : Int} (w : Hw F h R) (hn : 0 < F 3 h 2) : Hw (u_rmv (u_thn F h 0) h) h R := by
  have e : u_rmv (u_thn F h 0) h 3 h 2 = F 3 h 2 - 1 := by rw [rmv_3, thn_k F (by decide)]
  refine ⟨by rw [e]; have := w.1; omega, fun l l0 l1 => ?_⟩
  rw [e] at l1
  rw [rmv_s _ (Or.inl rfl) (by rw [thn_k F (by decide)]; omega), rmv_s _ (Or.inr rfl) (by rw [thn_k F (by decide)]; omega), thn_k F (by decide), thn_5n F (by omega)]
  exact w.2 (l + 1) (by omega) (by omega)
theorem wearN_inv (d : Nat) : ∀ (F : Fld) (h left R : Int), Hw F h R → 0 ≤ left → Lk F (wearN d F h left).1 ∧ (∀ k a b, a ≠ h → (wearN d F h left).1 k a b = F k a b) ∧ Hw (wearN d F h left).1 h R ∧ 0 ≤ (wearN d F h left).2 ∧ (wearN d F h left).2 ≤ left := by
  induction d with
  | zero => exact fun F h left R w h0 => ⟨Lk.refl F, fun _ _ _ _ => rfl, w, h0, Int.le_refl _⟩
  | succ d ih =>
    intro F h left R w h0
    by_cases hc : left ≤ 0 ∨ F 3 h 2 ≤ 0
    · rw [wearN_0 hc]
      exact ⟨Lk.refl F, fun _ _ _ _ => rfl, w, h0, Int.le_refl _⟩
    · have q := w.2 0 (by omega) (by omega)
      by_cases h5 : F 5 h 0 ≤ left
      · rw [wearN_r hc h5]
        obtain ⟨a1, a2, a3, a4, a5⟩ := ih (u_rmv (u_thn F h 0) h) h (left - F 5 h 0) R (w.rmv (by omega)) (by omega)
        refine ⟨((Lk.thn F h 0).trans (Lk.rmv _ h)).trans a1, fun k a b hab => ?_, a3, a4, by omega⟩
        rw [a2 k a b hab, rmv_o _ hab]
        by_cases hk : k = 5
        · rw [hk, thn_5n F (Or.inl hab)]
        · rw [thn_k F hk]
      · rw [wearN_t hc h5]
        refine ⟨Lk.thn F h _, fun k a b hab => ?_, ⟨by show 0 ≤ u_thn F h (F 5 h 0 - left) 3 h 2 ∧ u_thn F h (F 5 h 0 - left) 3 h 2 ≤ 12; rw [thn_k F (by decide)]; exact w.1, fun l l0 l1 => ?_⟩, Int.le_refl 0, h0⟩
        · show u_thn F h (F 5 h 0 - left) k a b = F k a b
          by_cases hk : k = 5
          · rw [hk, thn_5n F (Or.inl hab)]
          · rw [thn_k F hk]
        · have l1 : l < u_thn F h (F 5 h 0 - left) 3 h 2 := l1
          rw [thn_k F (by decide)] at l1
          have q2 := w.2 l l0 l1
          show (0 ≤ u_thn F h (F 5 h 0 - left) 4 h l ∧ u_thn F h (F 5 h 0 - left) 4 h l < R) ∧ 1 ≤ u_thn F h (F 5 h 0 - left) 5 h l ∧ u_thn F h (F 5 h 0 - left) 5 h l ≤ 999
          rw [thn_k F (by decide)]
          refine ⟨q2.1, ?_⟩
          by_cases hl : l = 0
          · rw [hl, thn_5]; omega
          · rw [thn_5n F (Or.inr hl)]; exact q2.2
def s_wear (F : Fld) (h k : Int) : Fld × Int := wearN 13 F h k
theorem WF.hw {F : Fld} (w : WF F) {h : Int} (hh : 0 ≤ h ∧ h < F 0 1 0) : Hw F h (F 0 0 0) := ⟨w.nl hh, fun l l0 l1 => ⟨w.rk hh ⟨l0, l1⟩, w.th hh ⟨l0, l1⟩⟩⟩
theorem WF.wear {F : Fld} (w : WF F) {h k : Int} (hh : 0 ≤ h ∧ h < F 0 1 0) (hk : 0 ≤ k) : WF (s_wear F h k).1 := by
  obtain ⟨a1, a2, a3, a4, a5⟩ := wearN_inv 13 F h k (F 0 0 0) (w.hw hh) hk
  refine w.lk a1 (fun a a0 a1' => ?_) (fun a l a0 a1' l0 l1 => ?_)
  · by_cases ha : a = h
    · rw [ha]; exact a3.1
    · show 0 ≤ (wearN 13 F h k).1 3 a 2 ∧ (wearN 13 F h k).1 3 a 2 ≤ 12
      rw [a2 3 a 2 ha]; exact w.nl ⟨a0, a1'⟩
  · by_cases ha : a = h
    · rw [ha] at l1 ⊢; exact a3.2 l l0 l1
    · have l1 : l < (wearN 13 F h k).1 3 a 2 := l1
      rw [a2 3 a 2 ha] at l1
      show (0 ≤ (wearN 13 F h k).1 4 a l ∧ (wearN 13 F h k).1 4 a l < F 0 0 0) ∧ 1 ≤ (wearN 13 F h k).1 5 a l ∧ (wearN 13 F h k).1 5 a l ≤ 999
      rw [a2 4 a l ha, a2 5 a l ha]
      exact ⟨w.rk ⟨a0, a1'⟩ ⟨l0, l1⟩, w.th ⟨a0, a1'⟩ ⟨l0, l1⟩⟩
section CW
variable {g : Nat} {M : Mem}
/-- the class's loop over layers, i of them gone -/
theorem c_wear15 {h N R : Int} (hh : 0 ≤ h ∧ h < 6) (K : Int32 → Int32 → Mem → Option (Int32 × Mem)) (x2 : Int32) (d : Nat) : ∀ (n : Nat) (Fi : Fld) (left i : Int) (M : Mem), d < n → Fi 3 h 2 < d → Hw Fi h R → 0 ≤ left → left ≤ 9999 → 0 ≤ i → i + Fi 3 h 2 = N → N ≤ 12 → M.1 (g + 7) h.toNat = iI N → (∀ l, 0 ≤ l → l < Fi 3 h 2 → M.1 (g + 8) (h * 12 + (i + l)).toNat = iI (Fi 4 h l) ∧ M.1 (g + 9) (h * 12 + (i + l)).toNat = iI (Fi 5 h l)) → ∃ (M' : Mem) (j : Int), lX2_wearOff_15 K g (iI h) x2 (iI (h * 12)) n (iI left) (iI i) (iI i) M = K (iI (wearN d Fi h left).2) (iI j) M' ∧ 0 ≤ j ∧ j + (wearN d Fi h left).1 3 h 2 = N ∧ Fr (Rg (g + 9) (g + 9)) M M' ∧ (∀ l, 0 ≤ l → l < (wearN d Fi h left).1 3 h 2 → M'.1 (g + 8) (h * 12 + (j + l)).toNat = iI ((wearN d Fi h left).1 4 h l) ∧ M'.1 (g + 9) (h * 12 + (j + l)).toNat = iI ((wearN d Fi h left).1 5 h l)) ∧ ∀ b : Nat, (b : Int) < h * 12 ∨ h * 12 + 12 ≤ b → M'.1 (g + 9) b = M.1 (g + 9) b := by
  induction d with
  | zero =>
    intro n Fi left i M hn hd w
    have := w.1
    omega
  | succ d ih =>
    intro n Fi left i M hn hd w l0 l1 i0 iN hN h7 hl
    have wn := w.1
    obtain ⟨n, rfl⟩ : ∃ k, n = k + 1 := ⟨n - 1, by omega⟩
    by_cases hc : left ≤ 0 ∨ Fi 3 h 2 ≤ 0
    · rw [wearN_0 hc]
      refine ⟨M, i, ?_, i0, iN, Fr.refl M, hl, fun _ _ => rfl⟩
      rw [lX2_wearOff_15_s]
      by_cases h1 : N ≤ i
      · simp (disch := omega) only [iI_add, iI_sub, iI_mul, iI_neg, iI_nat, addm1, ixkI, ↓sbind, sbind, ↓bdS, bdS, ↓nm_eq, ↓jn_eq, iI_lt, iI_le, iI_eq, k_0, k_1, k_2, k_3, k_4, k_5, k_6, k_7, k_8, k_9, k_10, k_11, k_12, k_13, k_14, k_15, k_16, k_17, k_18, k_19, k_20, k_21, k_22, k_23, k_24, k_27, k_30, k_32, k_48, k_57, k_59, k_60, k_61, k_62, k_63, k_64, k_72, k_78, k_80, k_82, k_97, k_99, k_100, k_122, k_244, k_255, k_268, k_280, k_300, k_432, k_650, k_900, k_901, k_999, k_1700, k_2600, k_2601, k_2602, k_2603, k_2604, k_2610, k_2618, k_2682, k_2777, k_2844, k_2868, k_2880, k_3245, k_3250, k_9551, k_9999, k_65536, k_100000, k_999999, k_1000000, k_2147483647, lt_T, lt_F, le_T, le_F, eq_T, eq_F, ↓reduceIte, not_true_eq_false, not_false_eq_true, or_true, or_false, true_or, false_or, and_true, true_and, and_false, false_and, h7]
      · have h2 : left ≤ 0 := by omega
        simp (disch := omega) only [iI_add, iI_sub, iI_mul, iI_neg, iI_nat, addm1, ixkI, ↓sbind, sbind, ↓bdS, bdS, ↓nm_eq, ↓jn_eq, iI_lt, iI_le, iI_eq, k_0, k_1, k_2, k_3, k_4, k_5, k_6, k_7, k_8, k_9, k_10, k_11, k_12, k_13, k_14, k_15, k_16, k_17, k_18, k_19, k_20, k_21, k_22, k_23, k_24, k_27, k_30, k_32, k_48, k_57, k_59, k_60, k_61, k_62, k_63, k_64, k_72, k_78, k_80, k_82, k_97, k_99, k_100, k_122, k_244, k_255, k_268, k_280, k_300, k_432, k_650, k_900, k_901, k_999, k_1700, k_2600, k_2601, k_2602, k_2603, k_2604, k_2610, k_2618, k_2682, k_2777, k_2844, k_2868, k_2880, k_3245, k_3250, k_9551, k_9999, k_65536, k_100000, k_999999, k_1000000, k_2147483647, lt_T, lt_F, le_T, le_F, eq_T, eq_F, ↓reduceIte, not_true_eq_false, not_false_eq_true, or_true, or_false, true_or, false_or, and_true, true_and, and_false, false_and, h7]
    · have q := w.2 0 (by omega) (by omega)
      have e9 := (hl 0 (by omega) (by omega)).2
      rw [Int.add_zero] at e9
      by_cases h5 : Fi 5 h 0 ≤ left
      · have e3 : u_rmv (u_thn Fi h 0) h 3 h 2 = Fi 3 h 2 - 1 := by rw [rmv_3, thn_k Fi (by decide)]
        have hF : Fr (Rg (g + 9) (g + 9)) M (stI M (g + 9) (h * 12 + i).toNat (iI 0)) := Fr.stI ⟨by omega, by omega⟩ (Fr.refl M)
        rw [wearN_r hc h5]
        obtain ⟨M', j, a1, a2, a3, a4, a5, a6⟩ := ih n (u_rmv (u_thn Fi h 0) h) (left - Fi 5 h 0) (i + 1) (stI M (g + 9) (h * 12 + i).toNat (iI 0)) (by omega) (by omega) (w.rmv (by omega)) (by omega) (by omega) (by omega) (by omega) hN (by rw [rI_ng (by omega)]; exact h7) (fun l z0 z1 => by
          rw [e3] at z1
          rw [rI_ng (by omega), rI_nk (by omega), rmv_s _ (Or.inl rfl) (by rw [thn_k Fi (by decide)]; omega), rmv_s _ (Or.inr rfl) (by rw [thn_k Fi (by decide)]; omega), thn_k Fi (by decide), thn_5n Fi (by omega), show i + 1 + l = i + (l + 1) from by omega]
          exact hl (l + 1) (by omega) (by omega))
        refine ⟨M', j, ?_, a2, a3, hF.trans a4, a5, fun b hb => by rw [a6 b hb, rI_nk (by omega)]⟩
        rw [← a1, lX2_wearOff_15_s]
        have es : Fi 5 h 0 - Fi 5 h 0 = 0 := Int.sub_self _
        by_cases hlt : Fi 5 h 0 < left
        · simp (disch := omega) only [iI_add, iI_sub, iI_mul, iI_neg, iI_nat, addm1, ixkI, ↓sbind, sbind, ↓bdS, bdS, ↓nm_eq, ↓jn_eq, iI_lt, iI_le, iI_eq, k_0, k_1, k_2, k_3, k_4, k_5, k_6, k_7, k_8, k_9, k_10, k_11, k_12, k_13, k_14, k_15, k_16, k_17, k_18, k_19, k_20, k_21, k_22, k_23, k_24, k_27, k_30, k_32, k_48, k_57, k_59, k_60, k_61, k_62, k_63, k_64, k_72, k_78, k_80, k_82, k_97, k_99, k_100, k_122, k_244, k_255, k_268, k_280, k_300, k_432, k_650, k_900, k_901, k_999, k_1700, k_2600, k_2601, k_2602, k_2603, k_2604, k_2610, k_2618, k_2682, k_2777, k_2844, k_2868, k_2880, k_3245, k_3250, k_9551, k_9999, k_65536, k_100000, k_999999, k_1000000, k_2147483647, lt_T, lt_F, le_T, le_F, eq_T, eq_F, ↓reduceIte, not_true_eq_false, not_false_eq_true, or_true, or_false, true_or, false_or, and_true, true_and, and_false, false_and, h7, e9, es, rI_eq]
        · have : left = Fi 5 h 0 := by omega
          rw [this]
          simp (disch := omega) only [iI_add, iI_sub, iI_mul, iI_neg, iI_nat, addm1, ixkI, ↓sbind, sbind, ↓bdS, bdS, ↓nm_eq, ↓jn_eq, iI_lt, iI_le, iI_eq, k_0, k_1, k_2, k_3, k_4, k_5, k_6, k_7, k_8, k_9, k_10, k_11, k_12, k_13, k_14, k_15, k_16, k_17, k_18, k_19, k_20, k_21, k_22, k_23, k_24, k_27, k_30, k_32, k_48, k_57, k_59, k_60, k_61, k_62, k_63, k_64, k_72, k_78, k_80, k_82, k_97, k_99, k_100, k_122, k_244, k_255, k_268, k_280, k_300, k_432, k_650, k_900, k_901, k_999, k_1700, k_2600, k_2601, k_2602, k_2603, k_2604, k_2610, k_2618, k_2682, k_2777, k_2844, k_2868, k_2880, k_3245, k_3250, k_9551, k_9999, k_65536, k_100000, k_999999, k_1000000, k_2147483647, lt_T, lt_F, le_T, le_F, eq_T, eq_F, ↓reduceIte, not_true_eq_false, not_false_eq_true, or_true, or_false, true_or, false_or, and_true, true_and, and_false, false_and, h7, e9, es, rI_eq]
      · rw [wearN_t hc h5]
        have hF : Fr (Rg (g + 9) (g + 9)) M (stI M (g + 9) (h * 12 + i).toNat (iI (Fi 5 h 0 - left))) := Fr.stI ⟨by omega, by omega⟩ (Fr.refl M)
        refine ⟨stI M (g + 9) (h * 12 + i).toNat (iI (Fi 5 h 0 - left)), i, ?_, i0, ?_, hF, fun l z0 z1 => ?_, fun b hb => by rw [rI_nk (by omega)]⟩
        · rw [lX2_wearOff_15_s]
          have es : left - left = 0 := Int.sub_self _
          obtain ⟨n, rfl⟩ : ∃ k, n = k + 1 := ⟨n - 1, by omega⟩
          by_cases hend : N ≤ i + 1
          · simp (disch := omega) only [iI_add, iI_sub, iI_mul, iI_neg, iI_nat, addm1, ixkI, ↓sbind, sbind, ↓bdS, bdS, ↓nm_eq, ↓jn_eq, iI_lt, iI_le, iI_eq, k_0, k_1, k_2, k_3, k_4, k_5, k_6, k_7, k_8, k_9, k_10, k_11, k_12, k_13, k_14, k_15, k_16, k_17, k_18, k_19, k_20, k_21, k_22, k_23, k_24, k_27, k_30, k_32, k_48, k_57, k_59, k_60, k_61, k_62, k_63, k_64, k_72, k_78, k_80, k_82, k_97, k_99, k_100, k_122, k_244, k_255, k_268, k_280, k_300, k_432, k_650, k_900, k_901, k_999, k_1700, k_2600, k_2601, k_2602, k_2603, k_2604, k_2610, k_2618, k_2682, k_2777, k_2844, k_2868, k_2880, k_3245, k_3250, k_9551, k_9999, k_65536, k_100000, k_999999, k_1000000, k_2147483647, lt_T, lt_F, le_T, le_F, eq_T, eq_F, ↓reduceIte, not_true_eq_false, not_false_eq_true, or_true, or_false, true_or, false_or, and_true, true_and, and_false, false_and, h7, e9, es, rI_eq]
            rw [lX2_wearOff_15_s]
            simp (disch := omega) only [iI_add, iI_sub, iI_mul, iI_neg, iI_nat, addm1, ixkI, ↓sbind, sbind, ↓bdS, bdS, ↓nm_eq, ↓jn_eq, iI_lt, iI_le, iI_eq, k_0, k_1, k_2, k_3, k_4, k_5, k_6, k_7, k_8, k_9, k_10, k_11, k_12, k_13, k_14, k_15, k_16, k_17, k_18, k_19, k_20, k_21, k_22, k_23, k_24, k_27, k_30, k_32, k_48, k_57, k_59, k_60, k_61, k_62, k_63, k_64, k_72, k_78, k_80, k_82, k_97, k_99, k_100, k_122, k_244, k_255, k_268, k_280, k_300, k_432, k_650, k_900, k_901, k_999, k_1700, k_2600, k_2601, k_2602, k_2603, k_2604, k_2610, k_2618, k_2682, k_2777, k_2844, k_2868, k_2880, k_3245, k_3250, k_9551, k_9999, k_65536, k_100000, k_999999, k_1000000, k_2147483647, lt_T, lt_F, le_T, le_F, eq_T, eq_F, ↓reduceIte, not_true_eq_false, not_false_eq_true, or_true, or_false, true_or, false_or, and_true, true_and, and_false, false_and, h7, rI_ng]
          · simp (disch := omega) only [iI_add, iI_sub, iI_mul, iI_neg, iI_nat, addm1, ixkI, ↓sbind, sbind, ↓bdS, bdS, ↓nm_eq, ↓jn_eq, iI_lt, iI_le, iI_eq, k_0, k_1, k_2, k_3, k_4, k_5, k_6, k_7, k_8, k_9, k_10, k_11, k_12, k_13, k_14, k_15, k_16, k_17, k_18, k_19, k_20, k_21, k_22, k_23, k_24, k_27, k_30, k_32, k_48, k_57, k_59, k_60, k_61, k_62, k_63, k_64, k_72, k_78, k_80, k_82, k_97, k_99, k_100, k_122, k_244, k_255, k_268, k_280, k_300, k_432, k_650, k_900, k_901, k_999, k_1700, k_2600, k_2601, k_2602, k_2603, k_2604, k_2610, k_2618, k_2682, k_2777, k_2844, k_2868, k_2880, k_3245, k_3250, k_9551, k_9999, k_65536, k_100000, k_999999, k_1000000, k_2147483647, lt_T, lt_F, le_T, le_F, eq_T, eq_F, ↓reduceIte, not_true_eq_false, not_false_eq_true, or_true, or_false, true_or, false_or, and_true, true_and, and_false, false_and, h7, e9, es, rI_eq]
            rw [lX2_wearOff_15_s]
            simp (disch := omega) only [iI_add, iI_sub, iI_mul, iI_neg, iI_nat, addm1, ixkI, ↓sbind, sbind, ↓bdS, bdS, ↓nm_eq, ↓jn_eq, iI_lt, iI_le, iI_eq, k_0, k_1, k_2, k_3, k_4, k_5, k_6, k_7, k_8, k_9, k_10, k_11, k_12, k_13, k_14, k_15, k_16, k_17, k_18, k_19, k_20, k_21, k_22, k_23, k_24, k_27, k_30, k_32, k_48, k_57, k_59, k_60, k_61, k_62, k_63, k_64, k_72, k_78, k_80, k_82, k_97, k_99, k_100, k_122, k_244, k_255, k_268, k_280, k_300, k_432, k_650, k_900, k_901, k_999, k_1700, k_2600, k_2601, k_2602, k_2603, k_2604, k_2610, k_2618, k_2682, k_2777, k_2844, k_2868, k_2880, k_3245, k_3250, k_9551, k_9999, k_65536, k_100000, k_999999, k_1000000, k_2147483647, lt_T, lt_F, le_T, le_F, eq_T, eq_F, ↓reduceIte, not_true_eq_false, not_false_eq_true, or_true, or_false, true_or, false_or, and_true, true_and, and_false, false_and, h7, rI_ng]
        · show i + u_thn Fi h (Fi 5 h 0 - left) 3 h 2 = N
          rw [thn_k Fi (by decide)]; exact iN
        · have z1 : l < u_thn Fi h (Fi 5 h 0 - left) 3 h 2 := z1
          rw [thn_k Fi (by decide)] at z1
          show (stI M (g + 9) (h * 12 + i).toNat (iI (Fi 5 h 0 - left))).1 (g + 8) (h * 12 + (i + l)).toNat = iI (u_thn Fi h (Fi 5 h 0 - left) 4 h l) ∧ (stI M (g + 9) (h * 12 + i).toNat (iI (Fi 5 h 0 - left))).1 (g + 9) (h * 12 + (i + l)).toNat = iI (u_thn Fi h (Fi 5 h 0 - left) 5 h l)
          rw [rI_ng (by omega), thn_k Fi (by decide)]
          refine ⟨(hl l z0 z1).1, ?_⟩
          by_cases hz : l = 0
          · rw [hz, thn_5, Int.add_zero, rI_eq]
          · rw [thn_5n Fi (Or.inr hz), rI_nk (by omega)]
            exact (hl l z0 z1).2
theorem c_wearOff {F : Fld} (w : WF F) (G : GR g F M) {h k : Int} (hh : 0 ≤ h ∧ h < F 0 1 0) (hk : 0 ≤ k ∧ k ≤ 9999) {φ : Nat} (hφ : 100 < φ) : ∃ M', fX2_wearOff φ g (iI h) (iI k) M = some (iI (k - (s_wear F h k).2), M') ∧ GR g (s_wear F h k).1 M' ∧ Fr (Rg (g + 7) (g + 9)) M M' := by
  have n1 := w.n1
  have nl := w.nl hh
  obtain ⟨b1, b2, b3, b4, b5⟩ := wearN_inv 13 F h k (F 0 0 0) (w.hw hh) hk.1
  obtain ⟨M1, j, a1, a2, a3, a4, a5, a6⟩ := c_wear15 (g := g) (h := h) (N := F 3 h 2) (R := F 0 0 0) (by omega) (fun (v7 : Int32) (v8 : Int32) (M9 : Mem) => ixk (iI h) 6 (ixk (iI h) 6 (nm (stI M9 (g + 7) (iI h).toNatClampNeg ((M9.1 (g + 7) (iI h).toNatClampNeg) - v8)) (fun M10 => ixk (iI h) 6 (cpk (iI (h * 12) + v8) (iI (h * 12)) (M10.1 (g + 7) (iI h).toNatClampNeg) 72 72 (nm (cpI M10 (g + 8) (g + 8) (iI (h * 12) + v8).toNatClampNeg (iI (h * 12)).toNatClampNeg (M10.1 (g + 7) (iI h).toNatClampNeg).toNatClampNeg) (fun M11 => ixk (iI h) 6 (cpk (iI (h * 12) + v8) (iI (h * 12)) (M11.1 (g + 7) (iI h).toNatClampNeg) 72 72 (nm (cpI M11 (g + 9) (g + 9) (iI (h * 12) + v8).toNatClampNeg (iI (h * 12)).toNatClampNeg (M11.1 (g + 7) (iI h).toNatClampNeg).toNatClampNeg) (fun M12 => some ((iI k - v7), M12))))))))))) (iI k) 13 φ F k 0 M (by omega) (by omega) (w.hw hh) hk.1 hk.2 (by omega) (by omega) (by omega) (G.nl hh) (fun l l0 l1 => by rw [Int.zero_add]; exact ⟨G.rk ⟨hh, l0, l1⟩, G.th ⟨hh, l0, l1⟩⟩)
  have hN : F 3 h 2 - j = (wearN 13 F h k).1 3 h 2 := by omega
  have hn3 := b3.1
  have e7 : M1.1 (g + 7) h.toNat = iI (F 3 h 2) := by rw [(a4 (g + 7) (fun q => by have := q.1; omega)).1]; exact G.nl hh
  have f7 : (stI M1 (g + 7) h.toNat (iI (F 3 h 2 - j))).1 (g + 7) h.toNat = iI (F 3 h 2 - j) := rI_eq _ _ _ _
  have g7 : (cpI (stI M1 (g + 7) h.toNat (iI (F 3 h 2 - j))) (g + 8) (g + 8) (h * 12 + j).toNat (h * 12).toNat (F 3 h 2 - j).toNat).1 (g + 7) h.toNat = iI (F 3 h 2 - j) := by rw [ci_ng (by omega)]; exact f7
  refine ⟨cpI (cpI (stI M1 (g + 7) h.toNat (iI (F 3 h 2 - j))) (g + 8) (g + 8) (h * 12 + j).toNat (h * 12).toNat (F 3 h 2 - j).toNat) (g + 9) (g + 9) (h * 12 + j).toNat (h * 12).toNat (F 3 h 2 - j).toNat, ?_, ?_, Fr.cpI ⟨by omega, by omega⟩ (Fr.cpI ⟨by omega, by omega⟩ (Fr.stI ⟨by omega, by omega⟩ (a4.mono fun x q => ⟨by have := q.1; omega, q.2⟩)))⟩
  · unfold fX2_wearOff
    simp only [k_0, c_slot, sbind, Int.add_zero]
    refine a1.trans ?_
    simp (disch := omega) only [iI_add, iI_sub, iI_mul, iI_neg, iI_nat, addm1, ixkI, ↓sbind, sbind, ↓bdS, bdS, ↓nm_eq, ↓jn_eq, iI_lt, iI_le, iI_eq, k_0, k_1, k_2, k_3, k_4, k_5, k_6, k_7, k_8, k_9, k_10, k_11, k_12, k_13, k_14, k_15, k_16, k_17, k_18, k_19, k_20, k_21, k_22, k_23, k_24, k_27, k_30, k_32, k_48, k_57, k_59, k_60, k_61, k_62, k_63, k_64, k_72, k_78, k_80, k_82, k_97, k_99, k_100, k_122, k_244, k_255, k_268, k_280, k_300, k_432, k_650, k_900, k_901, k_999, k_1700, k_2600, k_2601, k_2602, k_2603, k_2604, k_2610, k_2618, k_2682, k_2777, k_2844, k_2868, k_2880, k_3245, k_3250, k_9551, k_9999, k_65536, k_100000, k_999999, k_1000000, k_2147483647, lt_T, lt_F, le_T, le_F, eq_T, eq_F, ↓reduceIte, not_true_eq_false, not_false_eq_true, or_true, or_false, true_or, false_or, and_true, true_and, and_false, false_and, e7, f7, g7, cpk_in]
    rfl
  · refine G.lk b1 (fun x a b c d e => by rw [show (cpI (cpI (stI M1 (g + 7) h.toNat (iI (F 3 h 2 - j))) (g + 8) (g + 8) (h * 12 + j).toNat (h * 12).toNat (F 3 h 2 - j).toNat) (g + 9) (g + 9) (h * 12 + j).toNat (h * 12).toNat (F 3 h 2 - j).toNat).1 x = M1.1 x from by funext z; rw [ci_ng (by omega), ci_ng (by omega), rI_ng (by omega)]]; exact (a4 x (fun q => by have := q.1; have := q.2; omega)).1) (fun a x0 x1 => ?_) (fun a l x0 x1 l0 l1 => ?_)
    · rw [ci_ng (by omega), ci_ng (by omega)]
      by_cases ha : a = h
      · rw [ha, rI_eq, hN]; rfl
      · rw [rI_nk (by omega), (a4 (g + 7) (fun q => by have := q.1; omega)).1, G.nl ⟨x0, x1⟩]
        show _ = iI ((wearN 13 F h k).1 3 a 2)
        rw [b2 3 a 2 ha]
    · by_cases ha : a = h
      · rw [ha] at l1 ⊢
        have l1 : l < (wearN 13 F h k).1 3 h 2 := l1
        obtain ⟨c1, c2⟩ := a5 l l0 l1
        refine ⟨?_, ?_⟩
        · rw [ci_ng (by omega), ci_at rfl (by omega), rI_ng (by omega), show (h * 12 + j).toNat + ((h * 12 + l).toNat - (h * 12).toNat) = (h * 12 + (j + l)).toNat from by omega]
          exact c1
        · rw [ci_at rfl (by omega), ci_ng (by omega), rI_ng (by omega), show (h * 12 + j).toNat + ((h * 12 + l).toNat - (h * 12).toNat) = (h * 12 + (j + l)).toNat from by omega]
          exact c2
      · have l1 : l < (wearN 13 F h k).1 3 a 2 := l1
        rw [b2 3 a 2 ha] at l1
        have nla := w.nl ⟨x0, x1⟩
        show _ = iI ((wearN 13 F h k).1 4 a l) ∧ _ = iI ((wearN 13 F h k).1 5 a l)
        rw [b2 4 a l ha, b2 5 a l ha]
        refine ⟨?_, ?_⟩
        · rw [ci_ng (by omega), ci_nb (by omega), rI_ng (by omega), (a4 (g + 8) (fun q => by have := q.1; omega)).1]
          exact G.rk ⟨⟨x0, x1⟩, l0, l1⟩
        · rw [ci_nb (by omega), ci_ng (by omega), rI_ng (by omega), a6 _ (by omega)]
          exact G.th ⟨⟨x0, x1⟩, l0, l1⟩
end CW
