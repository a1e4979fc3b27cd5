/-! one doing of the years on both sides -/
section DO
variable {m g y t : Nat} {F : Fld} {M : Mem} {Y : Yr} {N : Int}
def LC (t : Nat) (ch rf la wo : Int) (M : Mem) : Prop := M.1 t 7 = iI ch ∧ M.1 t 3 = iI rf ∧ M.1 t 4 = iI la ∧ M.1 t 5 = iI wo
def LR (m : Nat) (ch rf la wo : Int) (M : Mem) : Prop := M.1 m 39 = iI ch ∧ M.1 (m + 22) (Int.toNat 0) = iI rf ∧ M.1 (m + 22) (Int.toNat 1) = iI la ∧ M.1 (m + 22) (Int.toNat 2) = iI wo
abbrev cD (t g : Nat) : Nat → Prop := fun z => z = t ∨ (g + 7 ≤ z ∧ z ≤ g + 9) ∨ z = g + 13
def DC (φ t g y : Nat) (F F' : Fld) (Y : Yr) (N x ch rf la wo ch' rf' la' wo' : Int) : Prop := ∀ M, GR g F M → YC y N Y M → LC t ch rf la wo M → ∃ M1, fX3_behindStep φ t y (iI x) g M = some (iI (x + 1), M1) ∧ GR g F' M1 ∧ LC t ch' rf' la' wo' M1 ∧ (∀ j, j ≠ 3 → j ≠ 4 → j ≠ 5 → j ≠ 7 → M1.1 t j = M.1 t j) ∧ Fr (cD t g) M M1
def DM (φ m : Nat) (F F' : Fld) (Y : Yr) (N x ch rf la wo ch' rf' la' wo' : Int) : Prop := ∀ M, MR m 0 F M → YM m N Y M → LR m ch rf la wo M → ∃ M1, fX11_does φ m (iI (280 + 6 * x)) M = some ((), M1) ∧ MR m 0 F' M1 ∧ LR m ch' rf' la' wo' M1 ∧ (∀ j, j ≠ 39 → M1.1 m j = M.1 m j) ∧ (∀ j, 3 ≤ j → M1.1 (m + 22) j = M.1 (m + 22) j) ∧ M1.2.1 m = M.2.1 m ∧ Fr (mS3 m) M M1 ∧ ∀ e : Int, e = 4 ∨ 280 ≤ e → M1.1 (m + 1) e.toNat = M.1 (m + 1) e.toNat
theorem d_lay (w : WF F) {x ch rf la wo : Int} (hx : 0 ≤ x ∧ x < N) (hN : N ≤ 60) (hk : Y x 0 = 13) (hw : WS F Y x) {φ : Nat} (hφ : 100 < φ) : ∃ F' rf' la', WF F' ∧ (∀ a, F' 0 a 0 = F 0 a 0) ∧ (∀ t g y, (t < g ∨ g + 13 < t) → DC φ t g y F F' Y N x ch rf la wo ch rf' la' wo) ∧ ∀ m, DM φ m F F' Y N x ch rf la wo ch rf' la' wo := by
  have w0 := w.n0
  have w1 := w.n1
  have hh : 0 ≤ Y x 1 ∧ Y x 1 < F 0 1 0 := by unfold WS at hw; omega
  have hr : 0 ≤ Y x 2 ∧ Y x 2 < F 0 0 0 := by unfold WS at hw; omega
  have hn : 1 ≤ Y x 3 ∧ Y x 3 ≤ 999 := by unfold WS at hw; omega
  by_cases hs : s_wl F (Y x 1) (Y x 2) (Y x 3) = 0
  · have lk := Lk.lay2 F (Y x 1) (Y x 2) (Y x 3)
    refine ⟨s_lay2 F (Y x 1) (Y x 2) (Y x 3), rf, la + Y x 3, w.lay2 hh hr hn hs, fun a => by rw [lk.1 0 (by omega) (by omega) (by omega)], fun t g y hg M G hY hL => ?_, fun m M G hY hL => ?_⟩
    · obtain ⟨e1, e2, e3, e4, e5⟩ := hY.2 x hx.1 hx.2
      have e2 := e2 (by omega) (by omega) (by omega) (by omega)
      have e3 := e3 (by omega)
      have e4 := e4 (by omega) (by omega) (by omega)
      rw [show y_k (Y x 0) = 13 from by rw [hk]; rfl] at e1
      rw [show y_o Y x = Y x 2 from if_neg (by omega)] at e3
      rw [show y_n Y x = Y x 3 from if_pos hk] at e4
      obtain ⟨M1, r1, r2, r3⟩ := (c_layOn w G hh hr hn).2 hs
      have t1 : M1.1 t = M.1 t := (r3 t (fun q => by have := q.1; have := q.2; omega)).1
      refine ⟨stI M1 t 4 (iI (la + Y x 3)), ?_, r2.fr (S := fun z => z = t) (Fr.stI rfl (Fr.refl M1)) (fun z a b q => by omega), ⟨?_, ?_, rI_at rfl rfl, ?_⟩, fun j j3 j4 j5 j7 => ?_, Fr.stI (Or.inl rfl) (r3.mono (fun z q => Or.inr (Or.inl ⟨q.1, by have := q.2; omega⟩)))⟩
      · have l4 : M1.1 t 4 = iI la := by rw [t1]; exact hL.2.2.1
        unfold fX3_behindStep fX3_layDown
        simp (disch := omega) only [iI_add, iI_sub, iI_mul, iI_neg, iI_nat, addm1, ixkI, ↓sbind, sbind, ↓bdS, bdS, ↓nm_eq, ↓jn_eq, iI_lt, iI_le, iI_eq, k_0, k_1, k_2, k_3, k_4, k_5, k_6, k_7, k_8, k_9, k_10, k_11, k_12, k_13, k_14, k_15, k_16, k_17, k_18, k_19, k_20, k_21, k_22, k_23, k_24, k_27, k_30, k_32, k_48, k_57, k_59, k_60, k_61, k_62, k_63, k_64, k_72, k_78, k_80, k_82, k_97, k_99, k_100, k_122, k_244, k_255, k_268, k_280, k_300, k_432, k_650, k_900, k_901, k_999, k_1700, k_2600, k_2601, k_2602, k_2603, k_2604, k_2610, k_2618, k_2682, k_2777, k_2844, k_2868, k_2880, k_3245, k_3250, k_9551, k_9999, k_65536, k_100000, k_999999, k_1000000, k_2147483647, lt_T, lt_F, le_T, le_F, eq_T, eq_F, ↓reduceIte, not_true_eq_false, not_false_eq_true, or_true, or_false, true_or, false_or, and_true, true_and, and_false, false_and, e1, e2, e3, e4, r1, l4]
      · rw [rI_nk (by omega), t1]; exact hL.1
      · rw [rI_nk (by omega), t1]; exact hL.2.1
      · rw [rI_nk (by omega), t1]; exact hL.2.2.2
      · rw [rI_nk j4, t1]
    · have e0 := hY.at0 hx
      have e1 := hY.at (c := 1) hx (by omega)
      have e2 := hY.at (c := 2) hx (by omega)
      have e3 := hY.at (c := 3) hx (by omega)
      have e4 : fX11_wrongLay m (iI (Y x 1)) (iI (Y x 2)) (iI (Y x 3)) M = some (iI (s_wl F (Y x 1) (Y x 2) (Y x 3))) := m_wrongLay w G hh hr (by omega)
      rw [hs] at e4
      obtain ⟨M1, r1, r2, r3, r4⟩ := m_lays w G hh hr hn hs (φ := φ) hφ
      have e5 : M1.1 (m + 1) (280 + 6 * x + 3).toNat = iI (Y x 3) := by rw [r4 _ (by omega)]; exact e3
      have t1 : M1.1 m = M.1 m := (r3 m (fun q => by have := q.1; omega)).1
      have t2 : M1.1 (m + 22) = M.1 (m + 22) := (r3 (m + 22) (fun q => by have := q.2; omega)).1
      have l4 : M1.1 (m + 22) (Int.toNat 1) = iI la := by rw [t2]; exact hL.2.2.1
      refine ⟨stI M1 (m + 22) (Int.toNat 1) (iI (la + Y x 3)), ?_, r2.fr (S := fun z => z = m + 22) (Fr.stI rfl (Fr.refl M1)) (fun q => by omega), ⟨?_, ?_, rI_at rfl rfl, ?_⟩, fun j hj => ?_, fun j hj => ?_, (r3 m (fun q => by have := q.1; omega)).2.1, Fr.stI (Or.inr (Or.inr rfl)) (r3.mono (fun z q => Or.inr (Or.inl (by have := q.1; have := q.2; omega)))), fun e he => ?_⟩
      · unfold fX11_does
        simp (disch := omega) only [iI_add, iI_sub, iI_mul, iI_neg, iI_nat, addm1, ixkI, ↓sbind, sbind, ↓bdS, bdS, ↓nm_eq, ↓jn_eq, iI_lt, iI_le, iI_eq, k_0, k_1, k_2, k_3, k_4, k_5, k_6, k_7, k_8, k_9, k_10, k_11, k_12, k_13, k_14, k_15, k_16, k_17, k_18, k_19, k_20, k_21, k_22, k_23, k_24, k_27, k_30, k_32, k_48, k_57, k_59, k_60, k_61, k_62, k_63, k_64, k_72, k_78, k_80, k_82, k_97, k_99, k_100, k_122, k_244, k_255, k_268, k_280, k_300, k_432, k_650, k_900, k_901, k_999, k_1700, k_2600, k_2601, k_2602, k_2603, k_2604, k_2610, k_2618, k_2682, k_2777, k_2844, k_2868, k_2880, k_3245, k_3250, k_9551, k_9999, k_65536, k_100000, k_999999, k_1000000, k_2147483647, lt_T, lt_F, le_T, le_F, eq_T, eq_F, ↓reduceIte, not_true_eq_false, not_false_eq_true, or_true, or_false, true_or, false_or, and_true, true_and, and_false, false_and, e0, e1, e2, e3, e4, e5, r1, l4]
      · rw [rI_ng (by omega), t1]; exact hL.1
      · rw [rI_nk (by decide), t2]; exact hL.2.1
      · rw [rI_nk (by decide), t2]; exact hL.2.2.2
      · rw [rI_ng (by omega), t1]
      · rw [rI_nk (by omega), t2]
      · rw [rI_ng (by omega), r4 e he]
  · have sv : s_wl F (Y x 1) (Y x 2) (Y x 3) = 4 ∨ s_wl F (Y x 1) (Y x 2) (Y x 3) = 7 := by
      unfold s_wl at hs ⊢
      split
      · split
        · rename_i a b; rw [if_pos a, if_pos b] at hs; omega
        · omega
      · split
        · omega
        · rename_i a b; rw [if_neg a, if_neg b] at hs; omega
    refine ⟨F, rf + 1, la, w, fun _ => rfl, fun t g y hg M G hY hL => ?_, fun m M G hY hL => ?_⟩
    · obtain ⟨e1, e2, e3, e4, e5⟩ := hY.2 x hx.1 hx.2
      have e2 := e2 (by omega) (by omega) (by omega) (by omega)
      have e3 := e3 (by omega)
      have e4 := e4 (by omega) (by omega) (by omega)
      rw [show y_k (Y x 0) = 13 from by rw [hk]; rfl] at e1
      rw [show y_o Y x = Y x 2 from if_neg (by omega)] at e3
      rw [show y_n Y x = Y x 3 from if_pos hk] at e4
      have r1 := (c_layOn w G hh hr hn).1 hs
      refine ⟨stI M t 3 (iI (rf + 1)), ?_, G.fr (S := fun z => z = t) (Fr.stI rfl (Fr.refl M)) (fun z a b q => by omega), ⟨?_, rI_at rfl rfl, ?_, ?_⟩, fun j j3 j4 j5 j7 => rI_nk j3, Fr.stI (Or.inl rfl) (Fr.refl M)⟩
      · have l3 := hL.2.1
        unfold fX3_behindStep fX3_layDown
        simp (disch := omega) only [iI_add, iI_sub, iI_mul, iI_neg, iI_nat, addm1, ixkI, ↓sbind, sbind, ↓bdS, bdS, ↓nm_eq, ↓jn_eq, iI_lt, iI_le, iI_eq, k_0, k_1, k_2, k_3, k_4, k_5, k_6, k_7, k_8, k_9, k_10, k_11, k_12, k_13, k_14, k_15, k_16, k_17, k_18, k_19, k_20, k_21, k_22, k_23, k_24, k_27, k_30, k_32, k_48, k_57, k_59, k_60, k_61, k_62, k_63, k_64, k_72, k_78, k_80, k_82, k_97, k_99, k_100, k_122, k_244, k_255, k_268, k_280, k_300, k_432, k_650, k_900, k_901, k_999, k_1700, k_2600, k_2601, k_2602, k_2603, k_2604, k_2610, k_2618, k_2682, k_2777, k_2844, k_2868, k_2880, k_3245, k_3250, k_9551, k_9999, k_65536, k_100000, k_999999, k_1000000, k_2147483647, lt_T, lt_F, le_T, le_F, eq_T, eq_F, ↓reduceIte, not_true_eq_false, not_false_eq_true, or_true, or_false, true_or, false_or, and_true, true_and, and_false, false_and, e1, e2, e3, e4, r1, l3]
      · rw [rI_nk (by omega)]; exact hL.1
      · rw [rI_nk (by omega)]; exact hL.2.2.1
      · rw [rI_nk (by omega)]; exact hL.2.2.2
    · have e0 := hY.at0 hx
      have e1 := hY.at (c := 1) hx (by omega)
      have e2 := hY.at (c := 2) hx (by omega)
      have e3 := hY.at (c := 3) hx (by omega)
      have e4 : fX11_wrongLay m (iI (Y x 1)) (iI (Y x 2)) (iI (Y x 3)) M = some (iI (s_wl F (Y x 1) (Y x 2) (Y x 3))) := m_wrongLay w G hh hr (by omega)
      have l3 := hL.2.1
      refine ⟨stI M (m + 22) (Int.toNat 0) (iI (rf + 1)), ?_, G.fr (S := fun z => z = m + 22) (Fr.stI rfl (Fr.refl M)) (fun q => by omega), ⟨?_, rI_at rfl rfl, ?_, ?_⟩, fun j hj => rI_ng (by omega), fun j hj => rI_nk (by omega), rfl, Fr.stI (Or.inr (Or.inr rfl)) (Fr.refl M), fun e he => rI_ng (by omega)⟩
      · unfold fX11_does
        simp (disch := omega) only [iI_add, iI_sub, iI_mul, iI_neg, iI_nat, addm1, ixkI, ↓sbind, sbind, ↓bdS, bdS, ↓nm_eq, ↓jn_eq, iI_lt, iI_le, iI_eq, k_0, k_1, k_2, k_3, k_4, k_5, k_6, k_7, k_8, k_9, k_10, k_11, k_12, k_13, k_14, k_15, k_16, k_17, k_18, k_19, k_20, k_21, k_22, k_23, k_24, k_27, k_30, k_32, k_48, k_57, k_59, k_60, k_61, k_62, k_63, k_64, k_72, k_78, k_80, k_82, k_97, k_99, k_100, k_122, k_244, k_255, k_268, k_280, k_300, k_432, k_650, k_900, k_901, k_999, k_1700, k_2600, k_2601, k_2602, k_2603, k_2604, k_2610, k_2618, k_2682, k_2777, k_2844, k_2868, k_2880, k_3245, k_3250, k_9551, k_9999, k_65536, k_100000, k_999999, k_1000000, k_2147483647, lt_T, lt_F, le_T, le_F, eq_T, eq_F, ↓reduceIte, not_true_eq_false, not_false_eq_true, or_true, or_false, true_or, false_or, and_true, true_and, and_false, false_and, e0, e1, e2, e3, e4, l3]
      · rw [rI_ng (by omega)]; exact hL.1
      · rw [rI_nk (by decide)]; exact hL.2.2.1
      · rw [rI_nk (by decide)]; exact hL.2.2.2
end DO
