/-! a field's draft on both sides -/
def DW (F : Fld) (nm : NMs) : Prop := WF F ∧ WN F nm ∧ ∀ a, 0 ≤ a → a < 8 → F 2 a a = 0
def ENV (t ft gs : Nat) : Prop := t + 5 < ft ∧ ft + 1 < gs ∧ isO 6 t ∧ isO 2 gs
def CSt (t ft gs : Nat) (B : Int → Int) (n p : Int) (F : Fld) (nm : NMs) (M : Mem) : Prop := RDp t B n p M ∧ GR gs F M ∧ NCn gs F nm M ∧ M.2.2 ft 1 = some t ∧ M.2.2 ft 2 = some gs
def MSt (m : Nat) (B : Int → Int) (n p : Int) (F : Fld) (nm : NMs) (M : Mem) : Prop := RKp m B n p M ∧ MR m 2600 F M ∧ NB m 64 F nm M ∧ M.1 m 18 = iI 0
def HB (B : Int → Int) (n : Int) : Prop := (0 ≤ n ∧ n ≤ 900) ∧ ∀ k, -128 ≤ B k ∧ B k ≤ 127
section DS2
variable {t m ft gs : Nat} {F F' : Fld} {nm nm' : NMs} {M : Mem} {B : Int → Int} {n p : Int}
theorem HB.w (hB : HB B n) (hp : 0 ≤ p ∧ p ≤ n) : WTk n (tok B n p) := wtk hp (fun k => (hB.2 k).2)
theorem nx_b (hB : HB B n) (hp : 0 ≤ p ∧ p ≤ n) : (0 ≤ nx B n p ∧ nx B n p ≤ n) ∧ p ≤ nx B n p ∧ ((tok B n p).1 ≠ 0 → p < nx B n p) := by
  unfold nx
  have w := hB.w hp
  obtain ⟨w1, w2, w3, w4, w5, w6, w7, w8, w9⟩ := w
  obtain ⟨s, hs⟩ : ∃ s, s = rn (fun k => lx_B (B k)) n p := ⟨_, rfl⟩
  have sr := rn_r (P := fun k => lx_B (B k)) (n := n) (i := p) hp.2
  rw [← hs] at sr
  have st : p ≤ (tok B n p).2.1 := by
    have htok : tok B n p = tokS B n s := by rw [hs]; rfl
    rw [htok]
    unfold tokS
    by_cases h1 : n ≤ s
    · rw [if_pos h1]; exact hp.2
    · rw [if_neg h1]
      split
      · exact sr.1
      · split
        · exact sr.1
        · exact sr.1
  by_cases q : (tok B n p).1 = 0
  · have := w6 q
    exact ⟨⟨by omega, w8⟩, by omega, fun z => absurd q z⟩
  · have := w7 q
    exact ⟨⟨by omega, w8⟩, by omega, fun _ => by omega⟩
theorem wv_k {T : Tk} {k : Int} (h : wv T = k) (hk : 0 ≤ k) : T.1 ≠ 0 := fun q => by
  unfold wv at h
  rw [if_neg (by omega)] at h
  omega
theorem CSt.go {M1 : Mem} (e : ENV t ft gs) (S : CSt t ft gs B n p F nm M) (h : RDp t B n (nx B n p) M1) (g : cGo t M M1) : CSt t ft gs B n (nx B n p) F nm M1 := by
  obtain ⟨s1, s2, s3, s4, s5⟩ := S
  obtain ⟨e1, e2, e3, e4⟩ := e
  exact ⟨h, s2.fr g.2.2 (fun z a b q => by omega), s3.fr g.2.2 (by omega) (by omega) (by omega), by rw [g.2.1]; exact s4, by rw [g.2.1]; exact s5⟩
theorem c_next (e : ENV t ft gs) (S : CSt t ft gs B n p F nm M) : ∃ M1, fX6_goOn t M = some ((), M1) ∧ CSt t ft gs B n (nx B n p) F nm M1 ∧ cGo t M M1 := by
  obtain ⟨M1, r1, r2, r3⟩ := c_goOn S.1
  exact ⟨M1, r1, S.go e r2 r3, r3⟩
theorem MSt.ah {M1 : Mem} {q : Int} (S : MSt m B n p F nm M) (h : RKp m B n q M1) (a : mAh m M M1) : MSt m B n q F nm M1 := by
  obtain ⟨s1, s2, s3, s4⟩ := S
  exact ⟨h, s2.fr a.2.2 (by omega), s3.fr a.2.2 (by omega), by rw [a.1 18 (by omega) (by omega) (by omega) (by omega)]; exact s4⟩
theorem m_next {φ : Nat} (hφ : 2000 < φ) (hB : HB B n) (S : MSt m B n p F nm M) : ∃ M1, fX11_ahead φ m M = some ((), M1) ∧ MSt m B n (nx B n p) F nm M1 ∧ mAh m M M1 := by
  obtain ⟨M1, r1, r2, r3⟩ := m_goOn hφ hB.1 hB.2 S.1
  exact ⟨M1, r1, S.ah r2 r3, r3⟩
theorem MSt.cnt (S : MSt m B n p F nm M) {w : Int} (h : 0 ≤ w ∧ w < 4) : M.1 (m + 1) (2600 + w).toNat = iI (F 0 w 0) := S.2.1.1 w h.1 h.2
/-- a new name stands here -/
def nwN (F : Fld) (nm : NMs) (T : Tk) : Bool := isNm T && isFree F nm T.2.2.2.2
theorem c_newName {φ : Nat} (hφ : 2000 < φ) (hB : HB B n) (hp : 0 ≤ p ∧ p ≤ n) (e : ENV t ft gs) (dw : DW F nm) (S : CSt t ft gs B n p F nm M) : fX1_isNewName φ ft M = some (bI (nwN F nm (tok B n p))) := by
  have w := hB.w hp
  have e1 := c_isName w S.1
  have e2 := c_name S.1
  have e3 := c_taken dw.1 S.2.1 S.2.2.1 dw.2.1 (nc_bd w) (φ := φ) (by omega)
  have l1 := S.2.2.2.1
  have l2 := S.2.2.2.2
  unfold fX1_isNewName nwN
  cases hm : isNm (tok B n p) with
  | false =>
    rw [hm] at e1
    simp (disch := omega) only [iI_add, iI_sub, iI_mul, iI_neg, iI_nat, addm1, ixkI, ↓sbind, sbind, ↓bdS, bdS, ↓nm_eq, ↓jn_eq, iI_lt, iI_le, iI_eq, k_0, k_1, k_2, k_3, k_4, k_5, k_6, k_7, k_8, k_9, k_10, k_11, k_12, k_13, k_14, k_15, k_16, k_17, k_18, k_19, k_20, k_21, k_22, k_23, k_24, k_27, k_30, k_32, k_48, k_57, k_59, k_60, k_61, k_62, k_63, k_64, k_72, k_78, k_80, k_82, k_97, k_99, k_100, k_122, k_244, k_255, k_268, k_280, k_300, k_432, k_650, k_900, k_901, k_999, k_1700, k_2600, k_2601, k_2602, k_2603, k_2604, k_2610, k_2618, k_2682, k_2777, k_2844, k_2868, k_2880, k_3245, k_3250, k_9551, k_9999, k_65536, k_100000, k_999999, k_1000000, k_2147483647, lt_T, lt_F, le_T, le_F, eq_T, eq_F, ↓reduceIte, not_true_eq_false, not_false_eq_true, or_true, or_false, true_or, false_or, and_true, true_and, and_false, false_and, l1, ldr_ok e.2.2.1, e1, bI_f, Bool.false_and]
  | true =>
    rw [hm] at e1
    cases hf : isFree F nm (tok B n p).2.2.2.2 with
    | false =>
      rw [hf] at e3
      simp (disch := omega) only [iI_add, iI_sub, iI_mul, iI_neg, iI_nat, addm1, ixkI, ↓sbind, sbind, ↓bdS, bdS, ↓nm_eq, ↓jn_eq, iI_lt, iI_le, iI_eq, k_0, k_1, k_2, k_3, k_4, k_5, k_6, k_7, k_8, k_9, k_10, k_11, k_12, k_13, k_14, k_15, k_16, k_17, k_18, k_19, k_20, k_21, k_22, k_23, k_24, k_27, k_30, k_32, k_48, k_57, k_59, k_60, k_61, k_62, k_63, k_64, k_72, k_78, k_80, k_82, k_97, k_99, k_100, k_122, k_244, k_255, k_268, k_280, k_300, k_432, k_650, k_900, k_901, k_999, k_1700, k_2600, k_2601, k_2602, k_2603, k_2604, k_2610, k_2618, k_2682, k_2777, k_2844, k_2868, k_2880, k_3245, k_3250, k_9551, k_9999, k_65536, k_100000, k_999999, k_1000000, k_2147483647, lt_T, lt_F, le_T, le_F, eq_T, eq_F, ↓reduceIte, not_true_eq_false, not_false_eq_true, or_true, or_false, true_or, false_or, and_true, true_and, and_false, false_and, l1, l2, ldr_ok e.2.2.1, ldr_ok e.2.2.2, e1, e2, e3, bI_t, bI_f, Bool.not_false, Bool.true_and]
    | true =>
      rw [hf] at e3
      simp (disch := omega) only [iI_add, iI_sub, iI_mul, iI_neg, iI_nat, addm1, ixkI, ↓sbind, sbind, ↓bdS, bdS, ↓nm_eq, ↓jn_eq, iI_lt, iI_le, iI_eq, k_0, k_1, k_2, k_3, k_4, k_5, k_6, k_7, k_8, k_9, k_10, k_11, k_12, k_13, k_14, k_15, k_16, k_17, k_18, k_19, k_20, k_21, k_22, k_23, k_24, k_27, k_30, k_32, k_48, k_57, k_59, k_60, k_61, k_62, k_63, k_64, k_72, k_78, k_80, k_82, k_97, k_99, k_100, k_122, k_244, k_255, k_268, k_280, k_300, k_432, k_650, k_900, k_901, k_999, k_1700, k_2600, k_2601, k_2602, k_2603, k_2604, k_2610, k_2618, k_2682, k_2777, k_2844, k_2868, k_2880, k_3245, k_3250, k_9551, k_9999, k_65536, k_100000, k_999999, k_1000000, k_2147483647, lt_T, lt_F, le_T, le_F, eq_T, eq_F, ↓reduceIte, not_true_eq_false, not_false_eq_true, or_true, or_false, true_or, false_or, and_true, true_and, and_false, false_and, l1, l2, ldr_ok e.2.2.1, ldr_ok e.2.2.2, e1, e2, e3, bI_t, bI_f, Bool.not_true, Bool.true_and]
theorem nb_r (S : NB m 64 F nm M) : ∀ r : Int, 0 ≤ r → r < F 0 0 0 → M.2.1 (m + 2) (64 + r).toNat = lI (w8 (nm 0 r)) := S.1
theorem nb_h (S : NB m 64 F nm M) : ∀ r : Int, 0 ≤ r → r < F 0 1 0 → M.2.1 (m + 2) (72 + r).toNat = lI (w8 (nm 1 r)) := fun r a b => by
  have := S.2.1 r a b
  rw [show (64 : Int) + (8 + r) = 72 + r from by omega] at this
  exact this
theorem nb_f (S : NB m 64 F nm M) : ∀ r : Int, 0 ≤ r → r < F 0 3 0 → M.2.1 (m + 2) (78 + r).toNat = lI (w8 (nm 2 r)) := fun r a b => by
  have := S.2.2 r a b
  rw [show (64 : Int) + (14 + r) = 78 + r from by omega] at this
  exact this
theorem m_new {φ : Nat} (hφ : 2000 < φ) (hB : HB B n) (hp : 0 ≤ p ∧ p ≤ n) (dw : DW F nm) (S : MSt m B n p F nm M) {w most b : Int} (hw : (w = 0 ∧ b = 0 ∧ most = 8) ∨ (w = 1 ∧ b = 8 ∧ most = 6) ∨ (w = 3 ∧ b = 14 ∧ most = 2)) (hc : 0 ≤ F 0 w 0 ∧ F 0 w 0 ≤ most) : (F 0 w 0 = most → MFail m (fkT (tok B n p) 6) (tok B n p).2.1 M (fX11_newOne φ m (iI w) (iI most) (iI b) M)) ∧ (F 0 w 0 ≠ most → nwN F nm (tok B n (nx B n p)) = false → MFail m (fkT (tok B n (nx B n p)) (if isNm (tok B n (nx B n p)) = true then 3 else 2)) (tok B n (nx B n p)).2.1 M (fX11_newOne φ m (iI w) (iI most) (iI b) M)) ∧ (F 0 w 0 ≠ most → nwN F nm (tok B n (nx B n p)) = true → ∃ M1, fX11_newOne φ m (iI w) (iI most) (iI b) M = some (iI 1, M1) ∧ RKp m B n (nx B n (nx B n p)) M1 ∧ mAh m (stL M (m + 2) (64 + b + F 0 w 0).toNat (lI (w8 (tok B n (nx B n p)).2.2.2.2))) M1) := by
  have e0 := S.cnt (w := w) (by omega)
  have zm : (-1 : Int32) = iI (-1) := rfl
  obtain ⟨n0, n1, n2, n3⟩ := And.intro dw.1.n0 (And.intro dw.1.n1 (And.intro dw.1.n2 dw.1.n3))
  refine ⟨fun q => ?_, fun q f => ?_, fun q f => ?_⟩
  · have e3 := m_fails hB.2 S.1 S.2.2.2 6
    rw [q] at e0
    refine MFail.of M ?_
    unfold fX11_newOne
    simp (disch := omega) only [iI_add, iI_sub, iI_mul, iI_neg, iI_nat, addm1, ixkI, ↓sbind, sbind, ↓bdS, bdS, ↓nm_eq, ↓jn_eq, iI_lt, iI_le, iI_eq, k_0, k_1, k_2, k_3, k_4, k_5, k_6, k_7, k_8, k_9, k_10, k_11, k_12, k_13, k_14, k_15, k_16, k_17, k_18, k_19, k_20, k_21, k_22, k_23, k_24, k_27, k_30, k_32, k_48, k_57, k_59, k_60, k_61, k_62, k_63, k_64, k_72, k_78, k_80, k_82, k_97, k_99, k_100, k_122, k_244, k_255, k_268, k_280, k_300, k_432, k_650, k_900, k_901, k_999, k_1700, k_2600, k_2601, k_2602, k_2603, k_2604, k_2610, k_2618, k_2682, k_2777, k_2844, k_2868, k_2880, k_3245, k_3250, k_9551, k_9999, k_65536, k_100000, k_999999, k_1000000, k_2147483647, lt_T, lt_F, le_T, le_F, eq_T, eq_F, ↓reduceIte, not_true_eq_false, not_false_eq_true, or_true, or_false, true_or, false_or, and_true, true_and, and_false, false_and, e0, e3, i01_a, if_true]
  · obtain ⟨M1, r1, S1, A1⟩ := m_next hφ hB S
    have hp1 := (nx_b hB hp).1
    have w1 := hB.w hp1
    have e1 := m_isName hφ hB.1 hB.2 S1.1
    have c0 : M1.1 (m + 1) (Int.toNat 2600) = iI (F 0 0 0) := S1.cnt (w := 0) (by omega)
    have c1 : M1.1 (m + 1) (Int.toNat 2601) = iI (F 0 1 0) := S1.cnt (w := 1) (by omega)
    have c3 : M1.1 (m + 1) (Int.toNat 2603) = iI (F 0 3 0) := S1.cnt (w := 3) (by omega)
    cases hm : isNm (tok B n (nx B n p)) with
    | false =>
      rw [hm] at e1
      have e3 := m_fails hB.2 S1.1 S1.2.2.2 2
      refine MFail.le A1.rw (MFail.of M1 ?_)
      unfold fX11_newOne
      simp (disch := omega) only [iI_add, iI_sub, iI_mul, iI_neg, iI_nat, addm1, ixkI, ↓sbind, sbind, ↓bdS, bdS, ↓nm_eq, ↓jn_eq, iI_lt, iI_le, iI_eq, k_0, k_1, k_2, k_3, k_4, k_5, k_6, k_7, k_8, k_9, k_10, k_11, k_12, k_13, k_14, k_15, k_16, k_17, k_18, k_19, k_20, k_21, k_22, k_23, k_24, k_27, k_30, k_32, k_48, k_57, k_59, k_60, k_61, k_62, k_63, k_64, k_72, k_78, k_80, k_82, k_97, k_99, k_100, k_122, k_244, k_255, k_268, k_280, k_300, k_432, k_650, k_900, k_901, k_999, k_1700, k_2600, k_2601, k_2602, k_2603, k_2604, k_2610, k_2618, k_2682, k_2777, k_2844, k_2868, k_2880, k_3245, k_3250, k_9551, k_9999, k_65536, k_100000, k_999999, k_1000000, k_2147483647, lt_T, lt_F, le_T, le_F, eq_T, eq_F, ↓reduceIte, not_true_eq_false, not_false_eq_true, or_true, or_false, true_or, false_or, and_true, true_and, and_false, false_and, e0, r1, e1, bI_f, e3, i01_a, if_true, Bool.false_eq_true]
    | true =>
      rw [hm] at e1
      have e3 := m_fails hB.2 S1.1 S1.2.2.2 3
      have f0 := m_find hφ hB.1 hB.2 S1.1 hm (b := 64) (N := F 0 0 0) (by omega) n0.1 dw.2.1.1 (nb_r S1.2.2.1)
      have f1 := m_find hφ hB.1 hB.2 S1.1 hm (b := 72) (N := F 0 1 0) (by omega) n1.1 dw.2.1.2.1 (nb_h S1.2.2.1)
      have f3 := m_find hφ hB.1 hB.2 S1.1 hm (b := 78) (N := F 0 3 0) (by omega) n3.1 dw.2.1.2.2 (nb_f S1.2.2.1)
      have b0 := fN_b (nm 0) (N := F 0 0 0) (c := (tok B n (nx B n p)).2.2.2.2) (by omega)
      have b1 := fN_b (nm 1) (N := F 0 1 0) (c := (tok B n (nx B n p)).2.2.2.2) (by omega)
      have b3 := fN_b (nm 2) (N := F 0 3 0) (c := (tok B n (nx B n p)).2.2.2.2) (by omega)
      unfold nwN at f
      rw [hm, Bool.true_and] at f
      have f := of_decide_eq_false f
      refine MFail.le A1.rw (MFail.of M1 ?_)
      rw [if_pos rfl]
      unfold fX11_newOne
      by_cases h0 : fN (nm 0) (F 0 0 0) (tok B n (nx B n p)).2.2.2.2 = -1
      · by_cases h1 : fN (nm 1) (F 0 1 0) (tok B n (nx B n p)).2.2.2.2 = -1
        · have h3 : fN (nm 2) (F 0 3 0) (tok B n (nx B n p)).2.2.2.2 ≠ -1 := fun z => f ⟨h0, h1, z⟩
          simp (disch := omega) only [iI_add, iI_sub, iI_mul, iI_neg, iI_nat, addm1, ixkI, ↓sbind, sbind, ↓bdS, bdS, ↓nm_eq, ↓jn_eq, iI_lt, iI_le, iI_eq, k_0, k_1, k_2, k_3, k_4, k_5, k_6, k_7, k_8, k_9, k_10, k_11, k_12, k_13, k_14, k_15, k_16, k_17, k_18, k_19, k_20, k_21, k_22, k_23, k_24, k_27, k_30, k_32, k_48, k_57, k_59, k_60, k_61, k_62, k_63, k_64, k_72, k_78, k_80, k_82, k_97, k_99, k_100, k_122, k_244, k_255, k_268, k_280, k_300, k_432, k_650, k_900, k_901, k_999, k_1700, k_2600, k_2601, k_2602, k_2603, k_2604, k_2610, k_2618, k_2682, k_2777, k_2844, k_2868, k_2880, k_3245, k_3250, k_9551, k_9999, k_65536, k_100000, k_999999, k_1000000, k_2147483647, lt_T, lt_F, le_T, le_F, eq_T, eq_F, ↓reduceIte, not_true_eq_false, not_false_eq_true, or_true, or_false, true_or, false_or, and_true, true_and, and_false, false_and, e0, r1, e1, bI_t, c0, c1, c3, zm, f0, f1, f3, h0, h1, e3, i01_a, if_true]
        · simp (disch := omega) only [iI_add, iI_sub, iI_mul, iI_neg, iI_nat, addm1, ixkI, ↓sbind, sbind, ↓bdS, bdS, ↓nm_eq, ↓jn_eq, iI_lt, iI_le, iI_eq, k_0, k_1, k_2, k_3, k_4, k_5, k_6, k_7, k_8, k_9, k_10, k_11, k_12, k_13, k_14, k_15, k_16, k_17, k_18, k_19, k_20, k_21, k_22, k_23, k_24, k_27, k_30, k_32, k_48, k_57, k_59, k_60, k_61, k_62, k_63, k_64, k_72, k_78, k_80, k_82, k_97, k_99, k_100, k_122, k_244, k_255, k_268, k_280, k_300, k_432, k_650, k_900, k_901, k_999, k_1700, k_2600, k_2601, k_2602, k_2603, k_2604, k_2610, k_2618, k_2682, k_2777, k_2844, k_2868, k_2880, k_3245, k_3250, k_9551, k_9999, k_65536, k_100000, k_999999, k_1000000, k_2147483647, lt_T, lt_F, le_T, le_F, eq_T, eq_F, ↓reduceIte, not_true_eq_false, not_false_eq_true, or_true, or_false, true_or, false_or, and_true, true_and, and_false, false_and, e0, r1, e1, bI_t, c0, c1, zm, f0, f1, h0, e3, i01_a, if_true]
      · simp (disch := omega) only [iI_add, iI_sub, iI_mul, iI_neg, iI_nat, addm1, ixkI, ↓sbind, sbind, ↓bdS, bdS, ↓nm_eq, ↓jn_eq, iI_lt, iI_le, iI_eq, k_0, k_1, k_2, k_3, k_4, k_5, k_6, k_7, k_8, k_9, k_10, k_11, k_12, k_13, k_14, k_15, k_16, k_17, k_18, k_19, k_20, k_21, k_22, k_23, k_24, k_27, k_30, k_32, k_48, k_57, k_59, k_60, k_61, k_62, k_63, k_64, k_72, k_78, k_80, k_82, k_97, k_99, k_100, k_122, k_244, k_255, k_268, k_280, k_300, k_432, k_650, k_900, k_901, k_999, k_1700, k_2600, k_2601, k_2602, k_2603, k_2604, k_2610, k_2618, k_2682, k_2777, k_2844, k_2868, k_2880, k_3245, k_3250, k_9551, k_9999, k_65536, k_100000, k_999999, k_1000000, k_2147483647, lt_T, lt_F, le_T, le_F, eq_T, eq_F, ↓reduceIte, not_true_eq_false, not_false_eq_true, or_true, or_false, true_or, false_or, and_true, true_and, and_false, false_and, e0, r1, e1, bI_t, c0, zm, f0, e3, i01_a, if_true]
  · obtain ⟨M1, r1, S1, A1⟩ := m_next hφ hB S
    have hp1 := (nx_b hB hp).1
    have w1 := hB.w hp1
    have e1 := m_isName hφ hB.1 hB.2 S1.1
    have c0 : M1.1 (m + 1) (Int.toNat 2600) = iI (F 0 0 0) := S1.cnt (w := 0) (by omega)
    have c1 : M1.1 (m + 1) (Int.toNat 2601) = iI (F 0 1 0) := S1.cnt (w := 1) (by omega)
    have c3 : M1.1 (m + 1) (Int.toNat 2603) = iI (F 0 3 0) := S1.cnt (w := 3) (by omega)
    have cw : M1.1 (m + 1) (2600 + w).toNat = iI (F 0 w 0) := S1.cnt (w := w) (by omega)
    have hm : isNm (tok B n (nx B n p)) = true := by
      unfold nwN at f
      cases hm : isNm (tok B n (nx B n p)) with
      | true => rfl
      | false => rw [hm] at f; cases f
    unfold nwN at f
    rw [hm, Bool.true_and] at f
    have f : fN (nm 0) (F 0 0 0) (tok B n (nx B n p)).2.2.2.2 = -1 ∧ fN (nm 1) (F 0 1 0) (tok B n (nx B n p)).2.2.2.2 = -1 ∧ fN (nm 2) (F 0 3 0) (tok B n (nx B n p)).2.2.2.2 = -1 := of_decide_eq_true f
    rw [hm] at e1
    have f0 := m_find hφ hB.1 hB.2 S1.1 hm (b := 64) (N := F 0 0 0) (by omega) n0.1 dw.2.1.1 (nb_r S1.2.2.1)
    have f1 := m_find hφ hB.1 hB.2 S1.1 hm (b := 72) (N := F 0 1 0) (by omega) n1.1 dw.2.1.2.1 (nb_h S1.2.2.1)
    have f3 := m_find hφ hB.1 hB.2 S1.1 hm (b := 78) (N := F 0 3 0) (by omega) n3.1 dw.2.1.2.2 (nb_f S1.2.2.1)
    rw [f.1] at f0
    rw [f.2.1] at f1
    rw [f.2.2] at f3
    have e4 := m_nameHere hφ hB.1 hB.2 S1.1 hm
    obtain ⟨M2, s1, s2, s3⟩ := m_goOn hφ hB.1 hB.2 (S1.1.stN (64 + b + F 0 w 0).toNat (lI (w8 (tok B n (nx B n p)).2.2.2.2)))
    refine ⟨M2, ?_, s2, (A1.stL _ _).trans s3⟩
    unfold fX11_newOne
    simp (disch := omega) only [iI_add, iI_sub, iI_mul, iI_neg, iI_nat, addm1, ixkI, ↓sbind, sbind, ↓bdS, bdS, ↓nm_eq, ↓jn_eq, iI_lt, iI_le, iI_eq, k_0, k_1, k_2, k_3, k_4, k_5, k_6, k_7, k_8, k_9, k_10, k_11, k_12, k_13, k_14, k_15, k_16, k_17, k_18, k_19, k_20, k_21, k_22, k_23, k_24, k_27, k_30, k_32, k_48, k_57, k_59, k_60, k_61, k_62, k_63, k_64, k_72, k_78, k_80, k_82, k_97, k_99, k_100, k_122, k_244, k_255, k_268, k_280, k_300, k_432, k_650, k_900, k_901, k_999, k_1700, k_2600, k_2601, k_2602, k_2603, k_2604, k_2610, k_2618, k_2682, k_2777, k_2844, k_2868, k_2880, k_3245, k_3250, k_9551, k_9999, k_65536, k_100000, k_999999, k_1000000, k_2147483647, lt_T, lt_F, le_T, le_F, eq_T, eq_F, ↓reduceIte, not_true_eq_false, not_false_eq_true, or_true, or_false, true_or, false_or, and_true, true_and, and_false, false_and, e0, r1, e1, bI_t, c0, c1, c3, cw, zm, f0, f1, f3, e4, s1]
end DS2
