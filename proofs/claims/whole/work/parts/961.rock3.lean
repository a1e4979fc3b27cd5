/-! a rock's row of a field: the whole -/
theorem i0e : iI 0 = (0 : Int32) := rfl
section RQ
variable {t m ft gs g : Nat} {F F' : Fld} {nm nm' : NMs} {M : Mem} {B : Int → Int} {n p s : Int}
theorem Part.fin {fc : Nat → Mem → Option (Int32 × Mem)} {fm0 : Nat → Mem → Option (Int32 × Mem)} {φ : Nat} (hφ : 2000 < φ) (hB : HB B n) {q : Int} (hq : 0 ≤ q ∧ q ≤ n) (hpq : p < q) (dw : DW F' nm') (hc : ∀ t ft gs M, ENV t ft gs → CSt t ft gs B n p F nm M → ∃ M5, fc ft M = csm t M5 ∧ CSt t ft gs B n q F' nm' M5 ∧ RCw t ft gs 13 M M5) (hm : ∀ m M, MSt m B n p F nm M → ∃ M1, fm0 m M = some (iI 1, M1) ∧ MSt m B n q F' nm' M1 ∧ RW m M M1) : Part fc (fun m M => sem φ m (fm0 m M)) B n p F nm := by
  have nb := nx_b hB hq
  cases hs : isSg (tok B n q) 59 with
  | false =>
    refine Or.inl ⟨fkT (tok B n q) 2, (tok B n q).2.1, fkT_1 _ (by omega), fun t ft gs M e S => ?_, fun m M S => ?_⟩
    · obtain ⟨M5, h1, h2, h3⟩ := hc t ft gs M e S
      rw [h1]
      exact ((csm_ok hB hq e h2).2 hs).le h3
    · obtain ⟨M1, h1, h2, h3⟩ := hm m M S
      show MFail m _ _ M (sem φ m (fm0 m M))
      rw [h1]
      exact ((sem_ok hφ hB h2).2 hs).le h3
  | true =>
    refine Or.inr ⟨F', nm', nx B n q, dw, by omega, nb.1.2, fun t ft gs M e S => ?_, fun m M S => ?_⟩
    · obtain ⟨M5, h1, h2, h3⟩ := hc t ft gs M e S
      obtain ⟨M6, g1, g2, g3⟩ := (csm_ok hB hq e h2).1 hs
      exact ⟨M6, h1.trans g1, g2, h3.trans g3⟩
    · obtain ⟨M1, h1, h2, h3⟩ := hm m M S
      obtain ⟨M6, g1, g2, g3⟩ := (sem_ok hφ hB h2).1 hs
      exact ⟨M6, by
        show sem φ m (fm0 m M) = _
        rw [h1]; exact g1, g2, h3.trans g3⟩
theorem Part.no {fc : Nat → Mem → Option (Int32 × Mem)} {fm0 : Nat → Mem → Option (Int32 × Mem)} {φ : Nat} {fk fp : Int} (h : 1 ≤ fk ∧ fk ≤ 99) (hc : ∀ t ft gs M, ENV t ft gs → CSt t ft gs B n p F nm M → CFail t ft gs 13 fk fp M (fc ft M)) (hm : ∀ m M, MSt m B n p F nm M → MFail m fk fp M (fm0 m M)) : Part fc (fun m M => sem φ m (fm0 m M)) B n p F nm := Or.inl ⟨fk, fp, h, hc, fun m M S => sem_fail (hm m M S)⟩
theorem mr_fail {fk fp : Int} {φ : Nat} (S : MSt m B n p F nm M) (h : MFail m fk fp M (fX11_newOne φ m (iI 0) (iI 8) (iI 0) M)) : MFail m fk fp M (fX11_aRock φ m M) := by
  obtain ⟨M1, h1, h2⟩ := h
  refine ⟨M1, ?_, h2⟩
  have s0 : M.1 (m + 1) (Int.toNat 2600) = iI (F 0 0 0) := S.cnt (w := 0) (by omega)
  have h1' : fX11_newOne φ m (0 : Int32) (8 : Int32) (0 : Int32) M = some (iI 0, M1) := h1
  have z1 : (2600 : Int32) = iI 2600 := rfl
  unfold fX11_aRock
  rw [z1, ixkI (by omega), iI_nat (by omega), s0, nm_eq, h1', bdP, if_pos i0e]
  rfl
theorem CSt.add {M1 : Mem} {w : Nat} (e : ENV t ft gs) (S : CSt t ft gs B n p F nm M) (G : GR gs F' M1) (N : NCn gs F' nm' M1) (h2 : M1.2.2 = M.2.2) (hF : Fr (Rg gs (gs + w)) M M1) : CSt t ft gs B n p F' nm' M1 := by
  obtain ⟨e1, e2, e3, e4⟩ := e
  exact ⟨S.1.fr hF (fun z hz q => by have := q.1; omega), G, N, by rw [h2]; exact S.2.2.2.1, by rw [h2]; exact S.2.2.2.2⟩
theorem RCw.add {M1 : Mem} {w : Nat} (e : ENV t ft gs) (hw : w ≤ 13) (h2 : M1.2.2 = M.2.2) (hF : Fr (Rg gs (gs + w)) M M1) : RCw t ft gs 13 M M1 := by
  obtain ⟨e1, e2, e3, e4⟩ := e
  exact ⟨fun i _ _ _ => by rw [(hF t (fun q => by have := q.1; omega)).1], h2, hF.mono (fun z q => Or.inr (Or.inr ⟨q.1, by have := q.2; omega⟩))⟩
theorem p_rock {φ : Nat} (hφ : 2000 < φ) (hB : HB B n) (hp : 0 ≤ p ∧ p ≤ n) (dw : DW F nm) (hk : wv (tok B n p) = 0) : Part (fX1_passRock φ) (fun m M => sem φ m (fX11_aRock φ m M)) B n p F nm := by
  have n0 := dw.1.n0
  have b1 := nx_b hB hp
  have w0 := hB.w hp
  have lt1 := b1.2.2 (wv_k hk (by omega))
  have b2 := nx_b hB b1.1
  have w1 := hB.w b1.1
  have b3 := nx_b hB b2.1
  have w2 := hB.w b2.1
  have b4 := nx_b hB b3.1
  have w3 := hB.w b3.1
  obtain ⟨p1, hp1⟩ : ∃ p1, p1 = nx B n p := ⟨_, rfl⟩
  rw [← hp1] at b1 b2 b3 b4 w1 w2 w3 lt1
  obtain ⟨p2, hp2⟩ : ∃ p2, p2 = nx B n p1 := ⟨_, rfl⟩
  rw [← hp2] at b2 b3 b4 w2 w3
  obtain ⟨p3, hp3⟩ : ∃ p3, p3 = nx B n p2 := ⟨_, rfl⟩
  rw [← hp3] at b3 b4 w3
  obtain ⟨p4, hp4⟩ : ∃ p4, p4 = nx B n p3 := ⟨_, rfl⟩
  rw [← hp4] at b4
  by_cases h8 : F 0 0 0 = 8
  · refine Part.no (fkT_1 (tok B n p) (k := 6) (by omega)) (fun t ft gs M e S => ?_) (fun m M S => mr_fail S ((m_new hφ hB hp dw S (w := 0) (most := 8) (b := 0) (by omega) n0).1 h8))
    have g0 := S.2.1.n0
    rw [h8] at g0
    refine CFail.of M ?_
    unfold fX1_passRock
    simp (disch := omega) only [iI_add, iI_sub, iI_mul, iI_neg, iI_nat, addm1, ixkI, ↓sbind, sbind, ↓bdS, bdS, ↓nm_eq, ↓jn_eq, iI_lt, iI_le, iI_eq, k_0, k_1, k_2, k_3, k_4, k_5, k_6, k_7, k_8, k_9, k_10, k_11, k_12, k_13, k_14, k_15, k_16, k_17, k_18, k_19, k_20, k_21, k_22, k_23, k_24, k_27, k_30, k_32, k_48, k_57, k_59, k_60, k_61, k_62, k_63, k_64, k_72, k_78, k_80, k_82, k_97, k_99, k_100, k_122, k_244, k_255, k_268, k_280, k_300, k_432, k_650, k_900, k_901, k_999, k_1700, k_2600, k_2601, k_2602, k_2603, k_2604, k_2610, k_2618, k_2682, k_2777, k_2844, k_2868, k_2880, k_3245, k_3250, k_9551, k_9999, k_65536, k_100000, k_999999, k_1000000, k_2147483647, lt_T, lt_F, le_T, le_F, eq_T, eq_F, ↓reduceIte, not_true_eq_false, not_false_eq_true, or_true, or_false, true_or, false_or, and_true, true_and, and_false, false_and, S.2.2.2.1, S.2.2.2.2, ldr_ok e.2.2.1, ldr_ok e.2.2.2, g0, c_refuse w0 S.1, i01_a, if_true]
  cases hw : nwN F nm (tok B n p1) with
  | false =>
    refine Part.no (fkT_1 (tok B n p1) (nf_1 (isNm (tok B n p1)))) (fun t ft gs M e S => ?_) (fun m M S => mr_fail S (by
      have := (m_new hφ hB hp dw S (w := 0) (most := 8) (b := 0) (by omega) n0).2.1 h8
      rw [← hp1] at this
      exact this hw))
    have g0 := S.2.1.n0
    obtain ⟨M1, r1, S1, A1⟩ := c_next e S
    rw [← hp1] at S1
    have e1 := c_newName hφ hB b1.1 e dw S1
    rw [hw] at e1
    refine CFail.le A1.rw (CFail.of M1 ?_)
    unfold fX1_passRock
    simp (disch := omega) only [iI_add, iI_sub, iI_mul, iI_neg, iI_nat, addm1, ixkI, ↓sbind, sbind, ↓bdS, bdS, ↓nm_eq, ↓jn_eq, iI_lt, iI_le, iI_eq, k_0, k_1, k_2, k_3, k_4, k_5, k_6, k_7, k_8, k_9, k_10, k_11, k_12, k_13, k_14, k_15, k_16, k_17, k_18, k_19, k_20, k_21, k_22, k_23, k_24, k_27, k_30, k_32, k_48, k_57, k_59, k_60, k_61, k_62, k_63, k_64, k_72, k_78, k_80, k_82, k_97, k_99, k_100, k_122, k_244, k_255, k_268, k_280, k_300, k_432, k_650, k_900, k_901, k_999, k_1700, k_2600, k_2601, k_2602, k_2603, k_2604, k_2610, k_2618, k_2682, k_2777, k_2844, k_2868, k_2880, k_3245, k_3250, k_9551, k_9999, k_65536, k_100000, k_999999, k_1000000, k_2147483647, lt_T, lt_F, le_T, le_F, eq_T, eq_F, ↓reduceIte, not_true_eq_false, not_false_eq_true, or_true, or_false, true_or, false_or, and_true, true_and, and_false, false_and, S.2.2.2.1, S.2.2.2.2, S1.2.2.2.1, ldr_ok e.2.2.1, ldr_ok e.2.2.2, g0, r1, e1, bI_f, c_nameFault w1 S1.1, c_refuse w1 S1.1, i01_a, if_true]
  | true =>
    have okc : okN (tok B n p1).2.2.2.2 := by
      have hm : isNm (tok B n p1) = true := by
        unfold nwN at hw
        cases hm : isNm (tok B n p1) with
        | true => rfl
        | false => rw [hm] at hw; cases hw
      exact (isNm_t w1 hm).2.2
    have mm := fun m M (S : MSt m B n p F nm M) => by
      have := m_aRock hφ hB hp dw (by omega) S
      rw [← hp1, ← hp2, ← hp3, ← hp4] at this
      exact this hw
    by_cases hsk : wv (tok B n p2) = 1
    · cases hnu : isNu (tok B n p3) 0 99 with
      | false =>
        refine Part.no (fkT_1 (tok B n p3) (nu_1 (tok B n p3).1)) (fun t ft gs M e S => ?_) (fun m M S => (mm m M S).2.1 hsk hnu)
        have g0 := S.2.1.n0
        obtain ⟨M1, r1, S1, A1⟩ := c_next e S
        rw [← hp1] at S1
        have e1 := c_newName hφ hB b1.1 e dw S1
        rw [hw] at e1
        obtain ⟨M2, r2, S2, A2⟩ := c_next e S1
        rw [← hp2] at S2
        have e2 := c_word w2 S2.1
        rw [hsk] at e2
        obtain ⟨M3, r3, S3, A3⟩ := c_next e S2
        rw [← hp3] at S3
        obtain ⟨v, e3, _⟩ := c_value S3.1
        have e4 := (c_passNum w3 S3.1 (a := 0) (b := 99) (by omega) (by omega)).2 hnu
        refine CFail.le ((A1.rw.trans A2.rw).trans A3.rw) (CFail.of M3 ?_)
        unfold fX1_passRock
        simp (disch := omega) only [iI_add, iI_sub, iI_mul, iI_neg, iI_nat, addm1, ixkI, ↓sbind, sbind, ↓bdS, bdS, ↓nm_eq, ↓jn_eq, iI_lt, iI_le, iI_eq, k_0, k_1, k_2, k_3, k_4, k_5, k_6, k_7, k_8, k_9, k_10, k_11, k_12, k_13, k_14, k_15, k_16, k_17, k_18, k_19, k_20, k_21, k_22, k_23, k_24, k_27, k_30, k_32, k_48, k_57, k_59, k_60, k_61, k_62, k_63, k_64, k_72, k_78, k_80, k_82, k_97, k_99, k_100, k_122, k_244, k_255, k_268, k_280, k_300, k_432, k_650, k_900, k_901, k_999, k_1700, k_2600, k_2601, k_2602, k_2603, k_2604, k_2610, k_2618, k_2682, k_2777, k_2844, k_2868, k_2880, k_3245, k_3250, k_9551, k_9999, k_65536, k_100000, k_999999, k_1000000, k_2147483647, lt_T, lt_F, le_T, le_F, eq_T, eq_F, ↓reduceIte, not_true_eq_false, not_false_eq_true, or_true, or_false, true_or, false_or, and_true, true_and, and_false, false_and, S.2.2.2.1, S.2.2.2.2, S1.2.2.2.1, S2.2.2.2.1, S3.2.2.2.1, ldr_ok e.2.2.1, ldr_ok e.2.2.2, g0, r1, e1, bI_t, c_name S1.1, r2, e2, r3, e3, e4]
      | true =>
        have hv := of_decide_eq_true (p := (tok B n p3).1 = 2 ∧ 0 ≤ (tok B n p3).2.2.1 ∧ (tok B n p3).2.2.1 ≤ 99) hnu
        refine Part.fin hφ hB b4.1 (by omega) (dw.rock (by omega) hv.2 okc) (fun t ft gs M e S => ?_) (fun m M S => (mm m M S).2.2 hsk hnu)
        have g0 := S.2.1.n0
        obtain ⟨M1, r1, S1, A1⟩ := c_next e S
        rw [← hp1] at S1
        have e1 := c_newName hφ hB b1.1 e dw S1
        rw [hw] at e1
        obtain ⟨M2, r2, S2, A2⟩ := c_next e S1
        rw [← hp2] at S2
        have e2 := c_word w2 S2.1
        rw [hsk] at e2
        obtain ⟨M3, r3, S3, A3⟩ := c_next e S2
        rw [← hp3] at S3
        obtain ⟨v, e3, e3'⟩ := c_value S3.1
        have e3' := e3' (by omega)
        rw [e3'] at e3
        obtain ⟨M4, e4, q4, A4⟩ := (c_passNum w3 S3.1 (a := 0) (b := 99) (by omega) (by omega)).1 hnu
        have S4 := S3.go e q4 A4
        rw [← hp4] at S4
        obtain ⟨M5, a1, a2, a3, a4, a5⟩ := c_addRock (s := (tok B n p3).2.2.1) (c := (tok B n p1).2.2.2.2) hφ dw (by omega) S4.2.1 S4.2.2.1
        have S5 := S4.add e a2 a3 a4 a5
        refine ⟨M5, ?_, S5, ((((A1.rw.trans A2.rw).trans A3.rw).trans A4.rw).trans (RCw.add e (by omega) a4 a5))⟩
        unfold fX1_passRock csm
        simp (disch := omega) only [iI_add, iI_sub, iI_mul, iI_neg, iI_nat, addm1, ixkI, ↓sbind, sbind, ↓bdS, bdS, ↓nm_eq, ↓jn_eq, iI_lt, iI_le, iI_eq, k_0, k_1, k_2, k_3, k_4, k_5, k_6, k_7, k_8, k_9, k_10, k_11, k_12, k_13, k_14, k_15, k_16, k_17, k_18, k_19, k_20, k_21, k_22, k_23, k_24, k_27, k_30, k_32, k_48, k_57, k_59, k_60, k_61, k_62, k_63, k_64, k_72, k_78, k_80, k_82, k_97, k_99, k_100, k_122, k_244, k_255, k_268, k_280, k_300, k_432, k_650, k_900, k_901, k_999, k_1700, k_2600, k_2601, k_2602, k_2603, k_2604, k_2610, k_2618, k_2682, k_2777, k_2844, k_2868, k_2880, k_3245, k_3250, k_9551, k_9999, k_65536, k_100000, k_999999, k_1000000, k_2147483647, lt_T, lt_F, le_T, le_F, eq_T, eq_F, ↓reduceIte, not_true_eq_false, not_false_eq_true, or_true, or_false, true_or, false_or, and_true, true_and, and_false, false_and, S.2.2.2.1, S.2.2.2.2, S1.2.2.2.1, S2.2.2.2.1, S3.2.2.2.1, S4.2.2.2.2, S5.2.2.2.1, ldr_ok e.2.2.1, ldr_ok e.2.2.2, g0, r1, e1, bI_t, c_name S1.1, r2, e2, r3, e3, e4, a1]
    · refine Part.fin hφ hB b2.1 (by omega) (dw.rock (s := 5) (by omega) (by omega) okc) (fun t ft gs M e S => ?_) (fun m M S => (mm m M S).1 hsk)
      have g0 := S.2.1.n0
      obtain ⟨M1, r1, S1, A1⟩ := c_next e S
      rw [← hp1] at S1
      have e1 := c_newName hφ hB b1.1 e dw S1
      rw [hw] at e1
      obtain ⟨M2, r2, S2, A2⟩ := c_next e S1
      rw [← hp2] at S2
      have e2 := c_word w2 S2.1
      have wb := wv_bd w2
      obtain ⟨M5, a1, a2, a3, a4, a5⟩ := c_addRock (s := 5) (c := (tok B n p1).2.2.2.2) hφ dw (by omega) S2.2.1 S2.2.2.1
      have S5 := S2.add e a2 a3 a4 a5
      refine ⟨M5, ?_, S5, ((A1.rw.trans A2.rw).trans (RCw.add e (by omega) a4 a5))⟩
      unfold fX1_passRock csm
      simp (disch := omega) only [iI_add, iI_sub, iI_mul, iI_neg, iI_nat, addm1, ixkI, ↓sbind, sbind, ↓bdS, bdS, ↓nm_eq, ↓jn_eq, iI_lt, iI_le, iI_eq, k_0, k_1, k_2, k_3, k_4, k_5, k_6, k_7, k_8, k_9, k_10, k_11, k_12, k_13, k_14, k_15, k_16, k_17, k_18, k_19, k_20, k_21, k_22, k_23, k_24, k_27, k_30, k_32, k_48, k_57, k_59, k_60, k_61, k_62, k_63, k_64, k_72, k_78, k_80, k_82, k_97, k_99, k_100, k_122, k_244, k_255, k_268, k_280, k_300, k_432, k_650, k_900, k_901, k_999, k_1700, k_2600, k_2601, k_2602, k_2603, k_2604, k_2610, k_2618, k_2682, k_2777, k_2844, k_2868, k_2880, k_3245, k_3250, k_9551, k_9999, k_65536, k_100000, k_999999, k_1000000, k_2147483647, lt_T, lt_F, le_T, le_F, eq_T, eq_F, ↓reduceIte, not_true_eq_false, not_false_eq_true, or_true, or_false, true_or, false_or, and_true, true_and, and_false, false_and, S.2.2.2.1, S.2.2.2.2, S1.2.2.2.1, S2.2.2.2.1, S2.2.2.2.2, S5.2.2.2.1, ldr_ok e.2.2.1, ldr_ok e.2.2.2, g0, r1, e1, bI_t, c_name S1.1, r2, e2, a1]
end RQ
