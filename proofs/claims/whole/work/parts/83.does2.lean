/-! wearing, storms, moves in a year -/
section D2
variable {m g y t : Nat} {F : Fld} {M : Mem} {Y : Yr} {N : Int}
theorem d_wear (w : WF F) {x ch rf la wo : Int} (hx : 0 ≤ x ∧ x < N) (hN : N ≤ 60) (hk : Y x 0 = 14) (hw : WS F Y x) {φ : Nat} (hφ : 100 < φ) : ∃ F' wo', WF F' ∧ (∀ a, F' 0 a 0 = F 0 a 0) ∧ (∀ t g y, (t < g ∨ g + 13 < t) → DC φ t g y F F' Y N x ch rf la wo ch rf la wo') ∧ ∀ m, DM φ m F F' Y N x ch rf la wo ch rf la wo' := by
  have w1 := w.n1
  have hh : 0 ≤ Y x 1 ∧ Y x 1 < F 0 1 0 := by unfold WS at hw; omega
  have hn : 0 ≤ Y x 2 ∧ Y x 2 ≤ 9999 := by unfold WS at hw; omega
  have lk := s_wear_lk w (h := Y x 1) (k := Y x 2) hh hn.1
  refine ⟨(s_wear F (Y x 1) (Y x 2)).1, wo + (Y x 2 - (s_wear F (Y x 1) (Y x 2)).2), w.wear hh hn.1, fun a => by rw [lk.1 0 (by omega) (by omega) (by omega)], fun t g y hg M G hY hL => ?_, fun m M G hY hL => ?_⟩
  · obtain ⟨e1, e2, e3, e4, e5⟩ := hY.2 x hx.1 hx.2
    have e2 := e2 (by omega) (by omega) (by omega) (by omega)
    have e4 := e4 (by omega) (by omega) (by omega)
    rw [show y_k (Y x 0) = 14 from by rw [hk]; rfl] at e1
    rw [show y_n Y x = Y x 2 from by unfold y_n; rw [if_neg (by omega), if_neg (by omega)]] at e4
    obtain ⟨M1, r1, r2, r3⟩ := c_wearOff w G (k := Y x 2) hh hn (φ := φ) hφ
    have t1 : M1.1 t = M.1 t := (r3 t (fun q => by have := q.1; have := q.2; omega)).1
    have l5 := hL.2.2.2
    refine ⟨stI M1 t 5 (iI (wo + (Y x 2 - (s_wear F (Y x 1) (Y x 2)).2))), ?_, r2.fr (S := fun z => z = t) (Fr.stI rfl (Fr.refl M1)) (fun z a b q => by omega), ⟨?_, ?_, ?_, rI_at rfl rfl⟩, fun j j3 j4 j5 j7 => ?_, Fr.stI (Or.inl rfl) (r3.mono (fun z q => Or.inr (Or.inl ⟨q.1, by have := q.2; omega⟩)))⟩
    · unfold fX3_behindStep
      simp (disch := omega) only [iI_add, iI_sub, iI_mul, iI_neg, iI_nat, addm1, ixkI, ↓sbind, sbind, ↓bdS, bdS, ↓nm_eq, ↓jn_eq, iI_lt, iI_le, iI_eq, k_0, k_1, k_2, k_3, k_4, k_5, k_6, k_7, k_8, k_9, k_10, k_11, k_12, k_13, k_14, k_15, k_16, k_17, k_18, k_19, k_20, k_21, k_22, k_23, k_24, k_27, k_30, k_32, k_48, k_57, k_59, k_60, k_61, k_62, k_63, k_64, k_72, k_78, k_80, k_82, k_97, k_99, k_100, k_122, k_244, k_255, k_268, k_280, k_300, k_432, k_650, k_900, k_901, k_999, k_1700, k_2600, k_2601, k_2602, k_2603, k_2604, k_2610, k_2618, k_2682, k_2777, k_2844, k_2868, k_2880, k_3245, k_3250, k_9551, k_9999, k_65536, k_100000, k_999999, k_1000000, k_2147483647, lt_T, lt_F, le_T, le_F, eq_T, eq_F, ↓reduceIte, not_true_eq_false, not_false_eq_true, or_true, or_false, true_or, false_or, and_true, true_and, and_false, false_and, e1, e2, e4, r1, l5]
    · rw [rI_nk (by omega), t1]; exact hL.1
    · rw [rI_nk (by omega), t1]; exact hL.2.1
    · rw [rI_nk (by omega), t1]; exact hL.2.2.1
    · rw [rI_nk j5, t1]
  · have e0 := hY.at0 hx
    have e1 := hY.at (c := 1) hx (by omega)
    have e2 := hY.at (c := 2) hx (by omega)
    obtain ⟨M1, r1, r2, r3, r4⟩ := m_wears w G (k := Y x 2) hh hn (φ := φ) hφ
    have t1 : M1.1 m = M.1 m := (r3 m (fun q => by have := q.1; omega)).1
    have t2 : M1.1 (m + 22) = M.1 (m + 22) := (r3 (m + 22) (fun q => by have := q.2; omega)).1
    have l5 := hL.2.2.2
    refine ⟨stI M1 (m + 22) (Int.toNat 2) (iI (wo + (Y x 2 - (s_wear F (Y x 1) (Y x 2)).2))), ?_, r2.fr (S := fun z => z = m + 22) (Fr.stI rfl (Fr.refl M1)) (fun q => by omega), ⟨?_, ?_, ?_, rI_at rfl rfl⟩, fun j hj => ?_, fun j hj => ?_, (r3 m (fun q => by have := q.1; omega)).2.1, Fr.stI (Or.inr (Or.inr rfl)) (r3.mono (fun z q => Or.inr (Or.inl (by have := q.1; have := q.2; omega)))), fun e he => ?_⟩
    · unfold fX11_does
      simp (disch := omega) only [iI_add, iI_sub, iI_mul, iI_neg, iI_nat, addm1, ixkI, ↓sbind, sbind, ↓bdS, bdS, ↓nm_eq, ↓jn_eq, iI_lt, iI_le, iI_eq, k_0, k_1, k_2, k_3, k_4, k_5, k_6, k_7, k_8, k_9, k_10, k_11, k_12, k_13, k_14, k_15, k_16, k_17, k_18, k_19, k_20, k_21, k_22, k_23, k_24, k_27, k_30, k_32, k_48, k_57, k_59, k_60, k_61, k_62, k_63, k_64, k_72, k_78, k_80, k_82, k_97, k_99, k_100, k_122, k_244, k_255, k_268, k_280, k_300, k_432, k_650, k_900, k_901, k_999, k_1700, k_2600, k_2601, k_2602, k_2603, k_2604, k_2610, k_2618, k_2682, k_2777, k_2844, k_2868, k_2880, k_3245, k_3250, k_9551, k_9999, k_65536, k_100000, k_999999, k_1000000, k_2147483647, lt_T, lt_F, le_T, le_F, eq_T, eq_F, ↓reduceIte, not_true_eq_false, not_false_eq_true, or_true, or_false, true_or, false_or, and_true, true_and, and_false, false_and, e0, e1, e2, r1, l5]
    · rw [rI_ng (by omega), t1]; exact hL.1
    · rw [rI_nk (by decide), t2]; exact hL.2.1
    · rw [rI_nk (by decide), t2]; exact hL.2.2.1
    · rw [rI_ng (by omega), t1]
    · rw [rI_nk (by omega), t2]
    · rw [rI_ng (by omega), r4 e he]
theorem d_storm (w : WF F) {x ch rf la wo : Int} (hc : 0 ≤ ch ∧ ch < 65536) (hx : 0 ≤ x ∧ x < N) (hN : N ≤ 60) (hk : Y x 0 = 15) (hw : WS F Y x) {φ : Nat} (hφ : 100 < φ) : ∃ F' ch' wo', WF F' ∧ (∀ a, F' 0 a 0 = F 0 a 0) ∧ (0 ≤ ch' ∧ ch' < 65536) ∧ (∀ t g y, (t < g ∨ g + 13 < t) → DC φ t g y F F' Y N x ch rf la wo ch' rf la wo') ∧ ∀ m, DM φ m F F' Y N x ch rf la wo ch' rf la wo' := by
  have w1 := w.n1
  have hb : 1 ≤ Y x 1 ∧ Y x 1 ≤ 9999 := by unfold WS at hw; omega
  obtain ⟨F', ch', wo', g1, g2, g3, i1, i2⟩ := storm_l hb hφ (F 0 1 0).toNat 0 F ch wo (by omega) (by omega) w hc
  refine ⟨F', ch', wo', g1, g2, g3, fun t g y hg M G hY hL => ?_, fun m M G hY hL => ?_⟩
  · obtain ⟨e1, e2, e3, e4, e5⟩ := hY.2 x hx.1 hx.2
    have e4 := e4 (by omega) (by omega) (by omega)
    rw [show y_k (Y x 0) = 15 from by rw [hk]; rfl] at e1
    rw [show y_n Y x = Y x 1 from by unfold y_n; rw [if_neg (by omega), if_pos (by omega)]] at e4
    obtain ⟨M1, r1, r2, r3, r4, r5, r6⟩ := i1 M t g hg G hL.1 hL.2.2.2 φ (by omega)
    refine ⟨M1, ?_, r2, ⟨r3, ?_, ?_, r4⟩, fun j j3 j4 j5 j7 => r5 j j5 j7, r6.mono (fun z q => by rcases q with q | q; exact Or.inl q; exact Or.inr (Or.inl ⟨q.1, by have := q.2; omega⟩))⟩
    · unfold fX3_behindStep fX3_storm
      simp (disch := omega) only [iI_add, iI_sub, iI_mul, iI_neg, iI_nat, addm1, ixkI, ↓sbind, sbind, ↓bdS, bdS, ↓nm_eq, ↓jn_eq, iI_lt, iI_le, iI_eq, k_0, k_1, k_2, k_3, k_4, k_5, k_6, k_7, k_8, k_9, k_10, k_11, k_12, k_13, k_14, k_15, k_16, k_17, k_18, k_19, k_20, k_21, k_22, k_23, k_24, k_27, k_30, k_32, k_48, k_57, k_59, k_60, k_61, k_62, k_63, k_64, k_72, k_78, k_80, k_82, k_97, k_99, k_100, k_122, k_244, k_255, k_268, k_280, k_300, k_432, k_650, k_900, k_901, k_999, k_1700, k_2600, k_2601, k_2602, k_2603, k_2604, k_2610, k_2618, k_2682, k_2777, k_2844, k_2868, k_2880, k_3245, k_3250, k_9551, k_9999, k_65536, k_100000, k_999999, k_1000000, k_2147483647, lt_T, lt_F, le_T, le_F, eq_T, eq_F, ↓reduceIte, not_true_eq_false, not_false_eq_true, or_true, or_false, true_or, false_or, and_true, true_and, and_false, false_and, e1, e4, r1]
    · rw [r5 3 (by omega) (by omega)]; exact hL.2.1
    · rw [r5 4 (by omega) (by omega)]; exact hL.2.2.1
  · have e0 := hY.at0 hx
    have e1 := hY.at (c := 1) hx (by omega)
    have e2 := hY.at (c := 2) hx (by omega)
    obtain ⟨M1, r1, r2, r3, r4, r5, r6, r9, r7, r8⟩ := i2 m M G hL.1 hL.2.2.2 φ (by omega)
    refine ⟨M1, ?_, r2, ⟨r3, ?_, ?_, r4⟩, r5, fun j hj => r6 j (by omega), r9, r7, r8⟩
    · unfold fX11_does
      simp (disch := omega) only [iI_add, iI_sub, iI_mul, iI_neg, iI_nat, addm1, ixkI, ↓sbind, sbind, ↓bdS, bdS, ↓nm_eq, ↓jn_eq, iI_lt, iI_le, iI_eq, k_0, k_1, k_2, k_3, k_4, k_5, k_6, k_7, k_8, k_9, k_10, k_11, k_12, k_13, k_14, k_15, k_16, k_17, k_18, k_19, k_20, k_21, k_22, k_23, k_24, k_27, k_30, k_32, k_48, k_57, k_59, k_60, k_61, k_62, k_63, k_64, k_72, k_78, k_80, k_82, k_97, k_99, k_100, k_122, k_244, k_255, k_268, k_280, k_300, k_432, k_650, k_900, k_901, k_999, k_1700, k_2600, k_2601, k_2602, k_2603, k_2604, k_2610, k_2618, k_2682, k_2777, k_2844, k_2868, k_2880, k_3245, k_3250, k_9551, k_9999, k_65536, k_100000, k_999999, k_1000000, k_2147483647, lt_T, lt_F, le_T, le_F, eq_T, eq_F, ↓reduceIte, not_true_eq_false, not_false_eq_true, or_true, or_false, true_or, false_or, and_true, true_and, and_false, false_and, e0, e1, e2, r1]
    · rw [r6 (Int.toNat 0) (by decide)]; exact hL.2.1
    · rw [r6 (Int.toNat 1) (by decide)]; exact hL.2.2.1
theorem d_move (w : WF F) {x ch rf la wo : Int} (hx : 0 ≤ x ∧ x < N) (hN : N ≤ 60) (hk : Y x 0 = 16) (hw : WS F Y x) {φ : Nat} (hφ : 100 < φ) : ∃ F' rf', WF F' ∧ (∀ a, F' 0 a 0 = F 0 a 0) ∧ (∀ t g y, (t < g ∨ g + 13 < t) → DC φ t g y F F' Y N x ch rf la wo ch rf' la wo) ∧ ∀ m, DM φ m F F' Y N x ch rf la wo ch rf' la wo := by
  have w3 := w.n3
  have hh : 0 ≤ Y x 1 ∧ Y x 1 < F 0 3 0 := by unfold WS at hw; omega
  have hn : 0 ≤ Y x 2 ∧ Y x 2 ≤ 999 := by unfold WS at hw; omega
  have hf := w.fl (f := Y x 1) (k := 4) hh (by omega)
  by_cases hs : F 7 (Y x 1) 4 + Y x 2 ≤ 999
  · refine ⟨u_thr F (Y x 1) (F 7 (Y x 1) 4 + Y x 2), rf, w.thr (by omega), fun a => by rw [u_thr_k F _ _ 0 (by omega)], fun t g y hg M G hY hL => ?_, fun m M G hY hL => ?_⟩
    · obtain ⟨e1, e2, e3, e4, e5⟩ := hY.2 x hx.1 hx.2
      have e2 := e2 (by omega) (by omega) (by omega) (by omega)
      have e4 := e4 (by omega) (by omega) (by omega)
      rw [show y_k (Y x 0) = 16 from by rw [hk]; rfl] at e1
      rw [show y_n Y x = Y x 2 from by unfold y_n; rw [if_neg (by omega), if_neg (by omega)]] at e4
      have e6 := G.ft hh
      refine ⟨stI M (g + 13) (Y x 1).toNat (iI (F 7 (Y x 1) 4 + Y x 2)), ?_, G.thr w3.2 hh, ⟨?_, ?_, ?_, ?_⟩, fun j j3 j4 j5 j7 => rI_ng (by omega), Fr.stI (Or.inr (Or.inr rfl)) (Fr.refl M)⟩
      · unfold fX3_behindStep fX3_move
        simp (disch := omega) only [iI_add, iI_sub, iI_mul, iI_neg, iI_nat, addm1, ixkI, ↓sbind, sbind, ↓bdS, bdS, ↓nm_eq, ↓jn_eq, iI_lt, iI_le, iI_eq, k_0, k_1, k_2, k_3, k_4, k_5, k_6, k_7, k_8, k_9, k_10, k_11, k_12, k_13, k_14, k_15, k_16, k_17, k_18, k_19, k_20, k_21, k_22, k_23, k_24, k_27, k_30, k_32, k_48, k_57, k_59, k_60, k_61, k_62, k_63, k_64, k_72, k_78, k_80, k_82, k_97, k_99, k_100, k_122, k_244, k_255, k_268, k_280, k_300, k_432, k_650, k_900, k_901, k_999, k_1700, k_2600, k_2601, k_2602, k_2603, k_2604, k_2610, k_2618, k_2682, k_2777, k_2844, k_2868, k_2880, k_3245, k_3250, k_9551, k_9999, k_65536, k_100000, k_999999, k_1000000, k_2147483647, lt_T, lt_F, le_T, le_F, eq_T, eq_F, ↓reduceIte, not_true_eq_false, not_false_eq_true, or_true, or_false, true_or, false_or, and_true, true_and, and_false, false_and, e1, e2, e4, e6]
      · rw [rI_ng (by omega)]; exact hL.1
      · rw [rI_ng (by omega)]; exact hL.2.1
      · rw [rI_ng (by omega)]; exact hL.2.2.1
      · rw [rI_ng (by omega)]; exact hL.2.2.2
    · have e0 := hY.at0 hx
      have e1 := hY.at (c := 1) hx (by omega)
      have e2 := hY.at (c := 2) hx (by omega)
      have e6 := G.fl (f := Y x 1) (k := 4) ⟨by omega, by omega⟩
      refine ⟨stI M (m + 1) (268 + 5 * Y x 1 + 4).toNat (iI (F 7 (Y x 1) 4 + Y x 2)), ?_, G.thr (by omega), ⟨?_, ?_, ?_, ?_⟩, fun j hj => rI_ng (by omega), fun j hj => rI_ng (by omega), rfl, Fr.stI (Or.inr (Or.inl rfl)) (Fr.refl M), fun e he => rI_nk (by omega)⟩
      · unfold fX11_does
        simp (disch := omega) only [iI_add, iI_sub, iI_mul, iI_neg, iI_nat, addm1, ixkI, ↓sbind, sbind, ↓bdS, bdS, ↓nm_eq, ↓jn_eq, iI_lt, iI_le, iI_eq, k_0, k_1, k_2, k_3, k_4, k_5, k_6, k_7, k_8, k_9, k_10, k_11, k_12, k_13, k_14, k_15, k_16, k_17, k_18, k_19, k_20, k_21, k_22, k_23, k_24, k_27, k_30, k_32, k_48, k_57, k_59, k_60, k_61, k_62, k_63, k_64, k_72, k_78, k_80, k_82, k_97, k_99, k_100, k_122, k_244, k_255, k_268, k_280, k_300, k_432, k_650, k_900, k_901, k_999, k_1700, k_2600, k_2601, k_2602, k_2603, k_2604, k_2610, k_2618, k_2682, k_2777, k_2844, k_2868, k_2880, k_3245, k_3250, k_9551, k_9999, k_65536, k_100000, k_999999, k_1000000, k_2147483647, lt_T, lt_F, le_T, le_F, eq_T, eq_F, ↓reduceIte, not_true_eq_false, not_false_eq_true, or_true, or_false, true_or, false_or, and_true, true_and, and_false, false_and, e0, e1, e2, e6]
      · rw [rI_ng (by omega)]; exact hL.1
      · rw [rI_ng (by omega)]; exact hL.2.1
      · rw [rI_ng (by omega)]; exact hL.2.2.1
      · rw [rI_ng (by omega)]; exact hL.2.2.2
  · refine ⟨F, rf + 1, w, fun _ => rfl, fun t g y hg M G hY hL => ?_, fun m M G hY hL => ?_⟩
    · obtain ⟨e1, e2, e3, e4, e5⟩ := hY.2 x hx.1 hx.2
      have e2 := e2 (by omega) (by omega) (by omega) (by omega)
      have e4 := e4 (by omega) (by omega) (by omega)
      rw [show y_k (Y x 0) = 16 from by rw [hk]; rfl] at e1
      rw [show y_n Y x = Y x 2 from by unfold y_n; rw [if_neg (by omega), if_neg (by omega)]] at e4
      have e6 := G.ft hh
      have l3 := hL.2.1
      refine ⟨stI M t 3 (iI (rf + 1)), ?_, G.fr (S := fun z => z = t) (Fr.stI rfl (Fr.refl M)) (fun z a b q => by omega), ⟨?_, rI_at rfl rfl, ?_, ?_⟩, fun j j3 j4 j5 j7 => rI_nk j3, Fr.stI (Or.inl rfl) (Fr.refl M)⟩
      · unfold fX3_behindStep fX3_move
        simp (disch := omega) only [iI_add, iI_sub, iI_mul, iI_neg, iI_nat, addm1, ixkI, ↓sbind, sbind, ↓bdS, bdS, ↓nm_eq, ↓jn_eq, iI_lt, iI_le, iI_eq, k_0, k_1, k_2, k_3, k_4, k_5, k_6, k_7, k_8, k_9, k_10, k_11, k_12, k_13, k_14, k_15, k_16, k_17, k_18, k_19, k_20, k_21, k_22, k_23, k_24, k_27, k_30, k_32, k_48, k_57, k_59, k_60, k_61, k_62, k_63, k_64, k_72, k_78, k_80, k_82, k_97, k_99, k_100, k_122, k_244, k_255, k_268, k_280, k_300, k_432, k_650, k_900, k_901, k_999, k_1700, k_2600, k_2601, k_2602, k_2603, k_2604, k_2610, k_2618, k_2682, k_2777, k_2844, k_2868, k_2880, k_3245, k_3250, k_9551, k_9999, k_65536, k_100000, k_999999, k_1000000, k_2147483647, lt_T, lt_F, le_T, le_F, eq_T, eq_F, ↓reduceIte, not_true_eq_false, not_false_eq_true, or_true, or_false, true_or, false_or, and_true, true_and, and_false, false_and, e1, e2, e4, e6, l3]
      · rw [rI_nk (by omega)]; exact hL.1
      · rw [rI_nk (by omega)]; exact hL.2.2.1
      · rw [rI_nk (by omega)]; exact hL.2.2.2
    · have e0 := hY.at0 hx
      have e1 := hY.at (c := 1) hx (by omega)
      have e2 := hY.at (c := 2) hx (by omega)
      have e6 := G.fl (f := Y x 1) (k := 4) ⟨by omega, by omega⟩
      have l3 := hL.2.1
      refine ⟨stI M (m + 22) (Int.toNat 0) (iI (rf + 1)), ?_, G.fr (S := fun z => z = m + 22) (Fr.stI rfl (Fr.refl M)) (fun q => by omega), ⟨?_, rI_at rfl rfl, ?_, ?_⟩, fun j hj => rI_ng (by omega), fun j hj => rI_nk (by omega), rfl, Fr.stI (Or.inr (Or.inr rfl)) (Fr.refl M), fun e he => rI_ng (by omega)⟩
      · unfold fX11_does
        simp (disch := omega) only [iI_add, iI_sub, iI_mul, iI_neg, iI_nat, addm1, ixkI, ↓sbind, sbind, ↓bdS, bdS, ↓nm_eq, ↓jn_eq, iI_lt, iI_le, iI_eq, k_0, k_1, k_2, k_3, k_4, k_5, k_6, k_7, k_8, k_9, k_10, k_11, k_12, k_13, k_14, k_15, k_16, k_17, k_18, k_19, k_20, k_21, k_22, k_23, k_24, k_27, k_30, k_32, k_48, k_57, k_59, k_60, k_61, k_62, k_63, k_64, k_72, k_78, k_80, k_82, k_97, k_99, k_100, k_122, k_244, k_255, k_268, k_280, k_300, k_432, k_650, k_900, k_901, k_999, k_1700, k_2600, k_2601, k_2602, k_2603, k_2604, k_2610, k_2618, k_2682, k_2777, k_2844, k_2868, k_2880, k_3245, k_3250, k_9551, k_9999, k_65536, k_100000, k_999999, k_1000000, k_2147483647, lt_T, lt_F, le_T, le_F, eq_T, eq_F, ↓reduceIte, not_true_eq_false, not_false_eq_true, or_true, or_false, true_or, false_or, and_true, true_and, and_false, false_and, e0, e1, e2, e6, l3]
      · rw [rI_ng (by omega)]; exact hL.1
      · rw [rI_nk (by decide)]; exact hL.2.2.1
      · rw [rI_nk (by decide)]; exact hL.2.2.2
end D2
