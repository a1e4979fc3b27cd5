/-! chance, storms -/
section ST
variable {m g t : Nat} {F : Fld} {M : Mem}
theorem iI_div {a b : Int} (ha : 0 ≤ a ∧ a < 2147483648) (hb : 0 < b ∧ b < 2147483648) : iI a / iI b = iI (a / b) := by
  have h1 : 0 ≤ a / b := Int.ediv_nonneg ha.1 (by omega)
  have h2 : a / b ≤ a := Int.ediv_le_self b ha.1
  rw [← Int32.toInt_inj, Int32.toInt_div, iI_int (by omega), iI_int (by omega), iI_int (by omega), Int.tdiv_eq_ediv_of_nonneg ha.1, Int.bmod_eq_of_le (by omega) (by omega)]
theorem iI_rem {a b : Int} (ha : 0 ≤ a ∧ a < 2147483648) (hb : 0 < b ∧ b < 2147483648) : iI a - iI a / iI b * iI b = iI (a % b) := by
  rw [iI_div ha hb, iI_mul, iI_sub, Int.emod_def, Int.mul_comm]
def d_next (ch : Int) : Int := (ch * 2777 + 9551) % 65536
def d_val (ch b_y : Int) : Int := d_next ch / 8 % b_y
theorem d_next_bd (ch : Int) : 0 ≤ d_next ch ∧ d_next ch < 65536 := by
  unfold d_next
  omega
theorem d_val_bd (ch : Int) {b_y : Int} (hb : 1 ≤ b_y) : 0 ≤ d_val ch b_y ∧ d_val ch b_y < b_y := ⟨Int.emod_nonneg _ (by omega), Int.emod_lt_of_pos _ (by omega)⟩
theorem c_nextDraw {ch b_y : Int} (hc : 0 ≤ ch ∧ ch < 65536) (hb : 1 ≤ b_y ∧ b_y ≤ 9999) (h : M.1 t 7 = iI ch) : fX3_nextDraw t (iI b_y) M = some (iI (d_val ch b_y), stI M t 7 (iI (d_next ch))) := by
  have h1 := d_next_bd ch
  have e1 : iI (ch * 2777 + 9551) - iI (ch * 2777 + 9551) / iI 65536 * iI 65536 = iI (d_next ch) := iI_rem (by omega) (by omega)
  have e2 : iI (d_next ch) / iI 8 = iI (d_next ch / 8) := iI_div (by omega) (by omega)
  have e3 : iI (d_next ch / 8) - iI (d_next ch / 8) / iI b_y * iI b_y = iI (d_val ch b_y) := iI_rem (by omega) (by omega)
  unfold fX3_nextDraw
  rw [h, k_2777, k_9551, k_65536, iI_mul, iI_add, e1, nm_eq, rI_at rfl rfl, k_8, e2, e3]
  simp (disch := omega) only [iI_add, iI_sub, iI_mul, iI_neg, iI_nat, addm1, ixkI, ↓sbind, sbind, ↓bdS, bdS, ↓nm_eq, ↓jn_eq, iI_lt, iI_le, iI_eq, k_0, k_1, k_2, k_3, k_4, k_5, k_6, k_7, k_8, k_9, k_10, k_11, k_12, k_13, k_14, k_15, k_16, k_17, k_18, k_19, k_20, k_21, k_22, k_23, k_24, k_27, k_30, k_32, k_48, k_57, k_59, k_60, k_61, k_62, k_63, k_64, k_72, k_78, k_80, k_82, k_97, k_99, k_100, k_122, k_244, k_255, k_268, k_280, k_300, k_432, k_650, k_900, k_901, k_999, k_1700, k_2600, k_2601, k_2602, k_2603, k_2604, k_2610, k_2618, k_2682, k_2777, k_2844, k_2868, k_2880, k_3245, k_3250, k_9551, k_9999, k_65536, k_100000, k_999999, k_1000000, k_2147483647, lt_T, lt_F, le_T, le_F, eq_T, eq_F, ↓reduceIte, not_true_eq_false, not_false_eq_true, or_true, or_false, true_or, false_or, and_true, true_and, and_false, false_and]
theorem m_draw {ch b_y : Int} (hc : 0 ≤ ch ∧ ch < 65536) (hb : 1 ≤ b_y ∧ b_y ≤ 9999) (h : M.1 m 39 = iI ch) : fX11_draw m (iI b_y) M = some (iI (d_val ch b_y), stI M m 39 (iI (d_next ch))) := by
  have h1 := d_next_bd ch
  have e1 : iI (ch * 2777 + 9551) - iI (ch * 2777 + 9551) / iI 65536 * iI 65536 = iI (d_next ch) := iI_rem (by omega) (by omega)
  have e2 : iI (d_next ch) / iI 8 = iI (d_next ch / 8) := iI_div (by omega) (by omega)
  have e3 : iI (d_next ch / 8) - iI (d_next ch / 8) / iI b_y * iI b_y = iI (d_val ch b_y) := iI_rem (by omega) (by omega)
  unfold fX11_draw
  rw [h, k_2777, k_9551, k_65536, iI_mul, iI_add, e1, nm_eq, rI_at rfl rfl, k_8, e2, e3]
  simp (disch := omega) only [iI_add, iI_sub, iI_mul, iI_neg, iI_nat, addm1, ixkI, ↓sbind, sbind, ↓bdS, bdS, ↓nm_eq, ↓jn_eq, iI_lt, iI_le, iI_eq, k_0, k_1, k_2, k_3, k_4, k_5, k_6, k_7, k_8, k_9, k_10, k_11, k_12, k_13, k_14, k_15, k_16, k_17, k_18, k_19, k_20, k_21, k_22, k_23, k_24, k_27, k_30, k_32, k_48, k_57, k_59, k_60, k_61, k_62, k_63, k_64, k_72, k_78, k_80, k_82, k_97, k_99, k_100, k_122, k_244, k_255, k_268, k_280, k_300, k_432, k_650, k_900, k_901, k_999, k_1700, k_2600, k_2601, k_2602, k_2603, k_2604, k_2610, k_2618, k_2682, k_2777, k_2844, k_2868, k_2880, k_3245, k_3250, k_9551, k_9999, k_65536, k_100000, k_999999, k_1000000, k_2147483647, lt_T, lt_F, le_T, le_F, eq_T, eq_F, ↓reduceIte, not_true_eq_false, not_false_eq_true, or_true, or_false, true_or, false_or, and_true, true_and, and_false, false_and]
theorem s_wear_lk (w : WF F) {h k : Int} (hh : 0 ≤ h ∧ h < F 0 1 0) (hk : 0 ≤ k) : Lk F (s_wear F h k).1 := (wearN_inv 13 F h k (F 0 0 0) (w.hw hh) hk).1
abbrev mS3 (m : Nat) : Nat → Prop := fun x => x = m ∨ x = m + 1 ∨ x = m + 22
theorem storm_l {b_y : Int} (hb : 1 ≤ b_y ∧ b_y ≤ 9999) {φ : Nat} (hφ : 100 < φ) : ∀ (d : Nat) (i : Int) (F : Fld) (ch wo : Int), F 0 1 0 - i = d → 0 ≤ i → WF F → (0 ≤ ch ∧ ch < 65536) → ∃ F' ch' wo', WF F' ∧ (∀ a, F' 0 a 0 = F 0 a 0) ∧ (0 ≤ ch' ∧ ch' < 65536) ∧ (∀ M t g, (t < g ∨ g + 13 < t) → GR g F M → M.1 t 7 = iI ch → M.1 t 5 = iI wo → ∀ k, d < k → ∃ M1, lX3_storm_2 φ t g (iI b_y) k (iI i) M = some ((), M1) ∧ GR g F' M1 ∧ M1.1 t 7 = iI ch' ∧ M1.1 t 5 = iI wo' ∧ (∀ j, j ≠ 5 → j ≠ 7 → M1.1 t j = M.1 t j) ∧ Fr (fun x => x = t ∨ (g + 7 ≤ x ∧ x ≤ g + 9)) M M1) ∧ ∀ m M, MR m 0 F M → M.1 m 39 = iI ch → M.1 (m + 22) 2 = iI wo → ∀ k, d < k → ∃ M1, lX11_does_141 φ m (iI b_y) k (iI i) M = some ((), M1) ∧ MR m 0 F' M1 ∧ M1.1 m 39 = iI ch' ∧ M1.1 (m + 22) 2 = iI wo' ∧ (∀ j, j ≠ 39 → M1.1 m j = M.1 m j) ∧ (∀ j, j ≠ 2 → M1.1 (m + 22) j = M.1 (m + 22) j) ∧ M1.2.1 m = M.2.1 m ∧ Fr (mS3 m) M M1 ∧ ∀ e : Int, e = 4 ∨ 280 ≤ e → M1.1 (m + 1) e.toNat = M.1 (m + 1) e.toNat := by
  intro d
  induction d with
  | zero =>
    intro i F ch wo hd hi w hc
    have n1 := w.n1
    refine ⟨F, ch, wo, w, fun _ => rfl, hc, fun M t g hg G e7 e5 k hk => ⟨M, ?_, G, e7, e5, fun _ _ _ => rfl, Fr.refl M⟩, fun m M G e7 e5 k hk => ⟨M, ?_, G, e7, e5, fun _ _ => rfl, fun _ _ => rfl, rfl, Fr.refl M, fun _ _ => rfl⟩⟩
    · obtain ⟨k, rfl⟩ : ∃ q, k = q + 1 := ⟨k - 1, by omega⟩
      have e1 := G.n1
      rw [lX3_storm_2]
      simp (disch := omega) only [iI_add, iI_sub, iI_mul, iI_neg, iI_nat, addm1, ixkI, ↓sbind, sbind, ↓bdS, bdS, ↓nm_eq, ↓jn_eq, iI_lt, iI_le, iI_eq, k_0, k_1, k_2, k_3, k_4, k_5, k_6, k_7, k_8, k_9, k_10, k_11, k_12, k_13, k_14, k_15, k_16, k_17, k_18, k_19, k_20, k_21, k_22, k_23, k_24, k_27, k_30, k_32, k_48, k_57, k_59, k_60, k_61, k_62, k_63, k_64, k_72, k_78, k_80, k_82, k_97, k_99, k_100, k_122, k_244, k_255, k_268, k_280, k_300, k_432, k_650, k_900, k_901, k_999, k_1700, k_2600, k_2601, k_2602, k_2603, k_2604, k_2610, k_2618, k_2682, k_2777, k_2844, k_2868, k_2880, k_3245, k_3250, k_9551, k_9999, k_65536, k_100000, k_999999, k_1000000, k_2147483647, lt_T, lt_F, le_T, le_F, eq_T, eq_F, ↓reduceIte, not_true_eq_false, not_false_eq_true, or_true, or_false, true_or, false_or, and_true, true_and, and_false, false_and, e1]
    · obtain ⟨k, rfl⟩ : ∃ q, k = q + 1 := ⟨k - 1, by omega⟩
      have e1 := G.c1
      rw [lX11_does_141]
      simp (disch := omega) only [iI_add, iI_sub, iI_mul, iI_neg, iI_nat, addm1, ixkI, ↓sbind, sbind, ↓bdS, bdS, ↓nm_eq, ↓jn_eq, iI_lt, iI_le, iI_eq, k_0, k_1, k_2, k_3, k_4, k_5, k_6, k_7, k_8, k_9, k_10, k_11, k_12, k_13, k_14, k_15, k_16, k_17, k_18, k_19, k_20, k_21, k_22, k_23, k_24, k_27, k_30, k_32, k_48, k_57, k_59, k_60, k_61, k_62, k_63, k_64, k_72, k_78, k_80, k_82, k_97, k_99, k_100, k_122, k_244, k_255, k_268, k_280, k_300, k_432, k_650, k_900, k_901, k_999, k_1700, k_2600, k_2601, k_2602, k_2603, k_2604, k_2610, k_2618, k_2682, k_2777, k_2844, k_2868, k_2880, k_3245, k_3250, k_9551, k_9999, k_65536, k_100000, k_999999, k_1000000, k_2147483647, lt_T, lt_F, le_T, le_F, eq_T, eq_F, ↓reduceIte, not_true_eq_false, not_false_eq_true, or_true, or_false, true_or, false_or, and_true, true_and, and_false, false_and, e1]
  | succ d ih =>
    intro i F ch wo hd hi w hc
    have n1 := w.n1
    have hh : 0 ≤ i ∧ i < F 0 1 0 := by omega
    have v1 := d_val_bd ch (b_y := b_y) hb.1
    have v2 := d_next_bd ch
    have lk := s_wear_lk w (h := i) (k := d_val ch b_y) hh v1.1
    have f0 : ∀ a, (s_wear F i (d_val ch b_y)).1 0 a 0 = F 0 a 0 := fun a => by rw [lk.1 0 (by omega) (by omega) (by omega)]
    have f1 := f0 1
    obtain ⟨F', ch', wo', w', g1, g2, i1, i2⟩ := ih (i + 1) (s_wear F i (d_val ch b_y)).1 (d_next ch) (wo + (d_val ch b_y - (s_wear F i (d_val ch b_y)).2)) (by omega) (by omega) (w.wear hh v1.1) v2
    refine ⟨F', ch', wo', w', fun a => (g1 a).trans (f0 a), g2, fun M t g hg G e7 e5 k hk => ?_, fun m M G e7 e5 k hk => ?_⟩
    · obtain ⟨k, rfl⟩ : ∃ q, k = q + 1 := ⟨k - 1, by omega⟩
      have e1 := G.n1
      have e2 := c_nextDraw hc hb e7
      have fr0 : Fr (fun x => x = t) M (stI M t 7 (iI (d_next ch))) := Fr.stI rfl (Fr.refl M)
      have G0 : GR g F (stI M t 7 (iI (d_next ch))) := G.fr fr0 (fun x a b q => by omega)
      rw [lX3_storm_2]
      by_cases hv : d_val ch b_y ≤ 0
      · have hw : s_wear F i (d_val ch b_y) = (F, d_val ch b_y) := wearN_0 (Or.inl hv)
        rw [hw] at i1
        obtain ⟨M1, r1, r2, r3, r4, r5, r6⟩ := i1 (stI M t 7 (iI (d_next ch))) t g hg G0 (rI_at rfl rfl) (by rw [rI_nk (by omega), e5]; show iI wo = iI (wo + (d_val ch b_y - d_val ch b_y)); rw [show wo + (d_val ch b_y - d_val ch b_y) = wo from by omega]) k (by omega)
        refine ⟨M1, ?_, r2, r3, r4, fun j j5 j7 => ?_, (fr0.mono (fun x q => Or.inl q)).trans r6⟩
        · simp (disch := omega) only [iI_add, iI_sub, iI_mul, iI_neg, iI_nat, addm1, ixkI, ↓sbind, sbind, ↓bdS, bdS, ↓nm_eq, ↓jn_eq, iI_lt, iI_le, iI_eq, k_0, k_1, k_2, k_3, k_4, k_5, k_6, k_7, k_8, k_9, k_10, k_11, k_12, k_13, k_14, k_15, k_16, k_17, k_18, k_19, k_20, k_21, k_22, k_23, k_24, k_27, k_30, k_32, k_48, k_57, k_59, k_60, k_61, k_62, k_63, k_64, k_72, k_78, k_80, k_82, k_97, k_99, k_100, k_122, k_244, k_255, k_268, k_280, k_300, k_432, k_650, k_900, k_901, k_999, k_1700, k_2600, k_2601, k_2602, k_2603, k_2604, k_2610, k_2618, k_2682, k_2777, k_2844, k_2868, k_2880, k_3245, k_3250, k_9551, k_9999, k_65536, k_100000, k_999999, k_1000000, k_2147483647, lt_T, lt_F, le_T, le_F, eq_T, eq_F, ↓reduceIte, not_true_eq_false, not_false_eq_true, or_true, or_false, true_or, false_or, and_true, true_and, and_false, false_and, e1, e2, r1]
        · rw [r5 j j5 j7, rI_nk j7]
      · obtain ⟨M2, s1, s2, s3⟩ := c_wearOff w G0 (k := d_val ch b_y) hh (by omega) (φ := φ) hφ
        have t7 : M2.1 t = (stI M t 7 (iI (d_next ch))).1 t := (s3 t (fun q => by have := q.1; have := q.2; omega)).1
        have fr1 : Fr (fun x => x = t ∨ (g + 7 ≤ x ∧ x ≤ g + 9)) M (stI M2 t 5 (iI (wo + (d_val ch b_y - (s_wear F i (d_val ch b_y)).2)))) := Fr.stI (Or.inl rfl) ((fr0.mono (fun x q => Or.inl q)).trans (s3.mono (fun x q => Or.inr q)))
        obtain ⟨M1, r1, r2, r3, r4, r5, r6⟩ := i1 (stI M2 t 5 (iI (wo + (d_val ch b_y - (s_wear F i (d_val ch b_y)).2)))) t g hg (s2.fr (S := fun x => x = t) (Fr.stI rfl (Fr.refl M2)) (fun x a b q => by omega)) (by rw [rI_nk (by omega), t7]; exact rI_at rfl rfl) (rI_at rfl rfl) k (by omega)
        refine ⟨M1, ?_, r2, r3, r4, fun j j5 j7 => ?_, fr1.trans r6⟩
        · have e6 : (stI M t 7 (iI (d_next ch))).1 t 5 = iI wo := by rw [rI_nk (by omega)]; exact e5
          simp (disch := omega) only [iI_add, iI_sub, iI_mul, iI_neg, iI_nat, addm1, ixkI, ↓sbind, sbind, ↓bdS, bdS, ↓nm_eq, ↓jn_eq, iI_lt, iI_le, iI_eq, k_0, k_1, k_2, k_3, k_4, k_5, k_6, k_7, k_8, k_9, k_10, k_11, k_12, k_13, k_14, k_15, k_16, k_17, k_18, k_19, k_20, k_21, k_22, k_23, k_24, k_27, k_30, k_32, k_48, k_57, k_59, k_60, k_61, k_62, k_63, k_64, k_72, k_78, k_80, k_82, k_97, k_99, k_100, k_122, k_244, k_255, k_268, k_280, k_300, k_432, k_650, k_900, k_901, k_999, k_1700, k_2600, k_2601, k_2602, k_2603, k_2604, k_2610, k_2618, k_2682, k_2777, k_2844, k_2868, k_2880, k_3245, k_3250, k_9551, k_9999, k_65536, k_100000, k_999999, k_1000000, k_2147483647, lt_T, lt_F, le_T, le_F, eq_T, eq_F, ↓reduceIte, not_true_eq_false, not_false_eq_true, or_true, or_false, true_or, false_or, and_true, true_and, and_false, false_and, e1, e2, e6, s1, r1]
        · rw [r5 j j5 j7, rI_nk j5, t7, rI_nk j7]
    · obtain ⟨k, rfl⟩ : ∃ q, k = q + 1 := ⟨k - 1, by omega⟩
      have e1 := G.c1
      have e2 := m_draw hc hb e7
      have fr0 : Fr (fun x => x = m) M (stI M m 39 (iI (d_next ch))) := Fr.stI rfl (Fr.refl M)
      have G0 : MR m 0 F (stI M m 39 (iI (d_next ch))) := G.fr fr0 (fun q => by omega)
      obtain ⟨M2, s1, s2, s3, s4⟩ := m_wears w G0 (k := d_val ch b_y) hh (by omega) (φ := φ) hφ
      have t7 : M2.1 m = (stI M m 39 (iI (d_next ch))).1 m := (s3 m (fun q => by have := q.1; omega)).1
      have t8 : M2.1 (m + 22) = M.1 (m + 22) := by rw [(s3 (m + 22) (fun q => by have := q.2; omega)).1, (fr0 (m + 22) (fun q => by omega)).1]
      have fr1 : Fr (mS3 m) M (stI M2 (m + 22) 2 (iI (wo + (d_val ch b_y - (s_wear F i (d_val ch b_y)).2)))) := Fr.stI (Or.inr (Or.inr rfl)) ((fr0.mono (fun x q => Or.inl q)).trans (s3.mono (fun x q => Or.inr (Or.inl (by have := q.1; have := q.2; omega)))))
      obtain ⟨M1, r1, r2, r3, r4, r5, r6, r9, r7, r8⟩ := i2 m (stI M2 (m + 22) 2 (iI (wo + (d_val ch b_y - (s_wear F i (d_val ch b_y)).2)))) (s2.fr (S := fun x => x = m + 22) (Fr.stI rfl (Fr.refl M2)) (fun q => by omega)) (by rw [rI_ng (by omega), t7]; exact rI_at rfl rfl) (rI_at rfl rfl) k (by omega)
      refine ⟨M1, ?_, r2, r3, r4, fun j hj => ?_, fun j hj => ?_, r9.trans (s3 m (fun q => by have := q.1; omega)).2.1, fr1.trans r7, fun e he => ?_⟩
      · have e6 : M.1 (m + 22) (Int.toNat 2) = iI wo := e5
        have r1' : lX11_does_141 φ m (iI b_y) k (iI (i + 1)) (stI M2 (m + 22) (Int.toNat 2) (iI (wo + (d_val ch b_y - (s_wear F i (d_val ch b_y)).2)))) = some ((), M1) := r1
        rw [lX11_does_141]
        simp (disch := omega) only [iI_add, iI_sub, iI_mul, iI_neg, iI_nat, addm1, ixkI, ↓sbind, sbind, ↓bdS, bdS, ↓nm_eq, ↓jn_eq, iI_lt, iI_le, iI_eq, k_0, k_1, k_2, k_3, k_4, k_5, k_6, k_7, k_8, k_9, k_10, k_11, k_12, k_13, k_14, k_15, k_16, k_17, k_18, k_19, k_20, k_21, k_22, k_23, k_24, k_27, k_30, k_32, k_48, k_57, k_59, k_60, k_61, k_62, k_63, k_64, k_72, k_78, k_80, k_82, k_97, k_99, k_100, k_122, k_244, k_255, k_268, k_280, k_300, k_432, k_650, k_900, k_901, k_999, k_1700, k_2600, k_2601, k_2602, k_2603, k_2604, k_2610, k_2618, k_2682, k_2777, k_2844, k_2868, k_2880, k_3245, k_3250, k_9551, k_9999, k_65536, k_100000, k_999999, k_1000000, k_2147483647, lt_T, lt_F, le_T, le_F, eq_T, eq_F, ↓reduceIte, not_true_eq_false, not_false_eq_true, or_true, or_false, true_or, false_or, and_true, true_and, and_false, false_and, e1, e2, e6, s1, r1']
      · rw [r5 j hj, rI_ng (by omega), t7, rI_nk hj]
      · rw [r6 j hj, rI_nk hj, t8]
      · rw [r8 e he, rI_ng (by omega), s4 e he, rI_ng (by omega)]
end ST
