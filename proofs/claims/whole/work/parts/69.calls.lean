/-! the beds don't look at the faults -/
def u_thr (F : Fld) (f v : Int) : Fld := fun k a b => if k = 7 ∧ a = f ∧ b = 4 then v else F k a b
section G7
variable {F F' : Fld}
theorem g7_left (h : ∀ k, k ≠ 7 → F' k = F k) (a i : Int) : s_left F' a i = s_left F a i := by
  unfold s_left
  rw [h 1 (by decide), h 4 (by decide), h 5 (by decide)]
theorem g7_pair (h : ∀ k, k ≠ 7 → F' k = F k) (a i b k : Int) : s_pair F' a i b k = s_pair F a i b k := by
  unfold s_pair s_un
  rw [h 2 (by decide), h 4 (by decide), h 5 (by decide)]
theorem g7_cT (h : ∀ k, k ≠ 7 → F' k = F k) (a b : Int) (d : Nat) : ∀ i k, (F 3 a 2 - i).toNat + (F 3 b 2 - k).toNat ≤ d → cT F' a b i k = cT F a b i k := by
  have h3 := h 3 (by decide)
  induction d with
  | zero =>
    intro i k hd
    rw [cT_z (by rw [h3]; omega) (by rw [h3]; omega), cT_z (by omega) (by omega)]
  | succ d ih =>
    intro i k hd
    by_cases hi : i < F 3 a 2
    · by_cases hk : k < F 3 b 2
      · rw [cT_nm (F := F') (by rw [h3]; exact hi) (by rw [h3]; exact hk), cT_nm hi hk, ih i (k + 1) (by omega), ih (i + 1) k (by omega), ih (i + 1) (k + 1) (by omega), g7_left h, g7_left h, g7_pair h]
      · rw [cT_n (F := F') (by rw [h3]; exact hi) (by rw [h3]; exact hk), cT_n hi hk, ih (i + 1) k (by omega), g7_left h]
    · by_cases hk : k < F 3 b 2
      · rw [cT_m (F := F') (by rw [h3]; exact hi) (by rw [h3]; exact hk), cT_m hi hk, ih i (k + 1) (by omega), g7_left h]
      · rw [cT_z (F := F') (by rw [h3]; exact hi) (by rw [h3]; exact hk), cT_z hi hk]
theorem g7_c (h : ∀ k, k ≠ 7 → F' k = F k) (a b i k : Int) : cT F' a b i k = cT F a b i k := g7_cT h a b _ i k (Nat.le_refl _)
theorem g7_mt (h : ∀ k, k ≠ 7 → F' k = F k) (a b x : Int) (d : Nat) : ∀ i k, (F 3 a 2 - i).toNat + (F 3 b 2 - k).toNat ≤ d → mt F' a b i k x = mt F a b i k x := by
  have h3 := h 3 (by decide)
  induction d with
  | zero =>
    intro i k hd
    rw [mt_e (by rw [h3]; omega), mt_e (by omega)]
  | succ d ih =>
    intro i k hd
    have eP : (k < F' 3 b 2 ∧ cT F' a b i k = s_pair F' a i b k + cT F' a b (i + 1) (k + 1)) = (k < F 3 b 2 ∧ cT F a b i k = s_pair F a i b k + cT F a b (i + 1) (k + 1)) := by rw [h3, g7_c h, g7_c h, g7_pair h]
    have eL : (F' 3 b 2 ≤ k ∨ cT F' a b i k = s_left F' a i + cT F' a b (i + 1) k) = (F 3 b 2 ≤ k ∨ cT F a b i k = s_left F a i + cT F a b (i + 1) k) := by rw [h3, g7_c h, g7_c h, g7_left h]
    by_cases hi : i < F 3 a 2
    · have hi' : i < F' 3 a 2 := by rw [h3]; exact hi
      by_cases hp : k < F 3 b 2 ∧ cT F a b i k = s_pair F a i b k + cT F a b (i + 1) (k + 1)
      · rw [mt_p hi' (eP ▸ hp), mt_p hi hp, ih (i + 1) (k + 1) (by omega)]
      · by_cases hl : F 3 b 2 ≤ k ∨ cT F a b i k = s_left F a i + cT F a b (i + 1) k
        · rw [mt_l hi' (by rw [eP]; exact hp) (by rw [eL]; exact hl), mt_l hi hp hl, ih (i + 1) k (by omega)]
        · rw [mt_r hi' (by rw [eP]; exact hp) (by rw [eL]; exact hl), mt_r hi hp hl, ih i (k + 1) (by omega)]
    · rw [mt_e (by rw [h3]; exact hi), mt_e hi]
theorem g7_smt (h : ∀ k, k ≠ 7 → F' k = F k) (a b : Int) : s_mt F' a b = s_mt F a b := by
  funext x
  exact g7_mt h a b x _ 0 0 (Nat.le_refl _)
theorem g7_sq (h : ∀ k, k ≠ 7 → F' k = F k) (a b : Int) : s_sq F' a b = s_sq F a b := by
  unfold s_sq
  rw [h 3 (by decide)]
theorem g7_scan (h : ∀ k, k ≠ 7 → F' k = F k) (p : Int → Int) : s_scan F' p = s_scan F p := by
  have e : ∀ a b q, s_st F' p a b q = s_st F p a b q := fun a b q => by
    unfold s_st
    rw [g7_sq h, g7_sq h]
  have e2 : ∀ a q, s_row F' p a q = s_row F p a q := fun a q => by
    unfold s_row
    rw [h 0 (by decide)]
    simp only [e]
  unfold s_scan
  rw [h 0 (by decide)]
  simp only [e2]
theorem g7_tP (h : ∀ k, k ≠ 7 → F' k = F k) (k : Nat) : tP F' k = tP F k := by
  induction k with
  | zero => rfl
  | succ k ih =>
    rw [tP_s, tP_s]
    unfold tQ
    rw [ih, g7_scan h]
theorem g7_tQ (h : ∀ k, k ≠ 7 → F' k = F k) (k : Nat) : tQ F' k = tQ F k := by
  unfold tQ
  rw [g7_tP h, g7_scan h]
theorem g7_bL (h : ∀ k, k ≠ 7 → F' k = F k) (k : Nat) : bL F' k = bL F k := by
  induction k with
  | zero => rfl
  | succ k ih =>
    have e : ∀ a b l L, bJ F' a b l L = bJ F a b l L := fun a b l L => by
      funext s
      unfold bJ
      rw [g7_smt h]
    rw [bL_s, bL_s, ih, g7_tQ h]
    unfold bC
    rw [h 3 (by decide)]
    simp only [e]
theorem g7_cn (h : ∀ k, k ≠ 7 → F' k = F k) : s_cn F' = s_cn F := by
  unfold s_cn
  rw [h 0 (by decide)]
theorem g7_nA (h : ∀ k, k ≠ 7 → F' k = F k) : nA F' (s_lab F') = nA F (s_lab F) := by
  have e : s_lab F' = s_lab F := by
    unfold s_lab
    rw [g7_cn h, g7_bL h]
  have e2 : ∀ L a q, nR F' L a q = nR F L a q := fun L a q => by
    unfold nR
    rw [h 3 (by decide)]
  rw [e]
  unfold nA
  rw [h 0 (by decide)]
  simp only [e2]
theorem g7_bN (h : ∀ k, k ≠ 7 → F' k = F k) : bN F' = bN F := by
  unfold bN
  rw [g7_nA h]
theorem g7_bA (h : ∀ k, k ≠ 7 → F' k = F k) (a l : Int) : bA F' a l = bA F a l := by
  have e : s_lab F' = s_lab F := by
    unfold s_lab
    rw [g7_cn h, g7_bL h]
  have e2 := g7_nA h
  unfold bA
  rw [e2, e]
theorem g7_fst (h : ∀ k, k ≠ 7 → F' k = F k) (x a : Int) : s_fst F' x a = s_fst F x a := by
  unfold s_fst
  rw [h 3 (by decide)]
  simp only [g7_bA h]
theorem g7_cost (h : ∀ k, k ≠ 7 → F' k = F k) : s_cost F' = s_cost F := by
  unfold s_cost
  rw [g7_cn h]
  simp only [g7_tQ h, g7_c h]
theorem g7_hig (h : ∀ k, k ≠ 7 → F' k = F k) (a b : Int) : s_hig F' a b = s_hig F a b := by
  unfold s_hig
  rw [h 0 (by decide)]
  simp only [g7_fst h]
theorem g7_ff (h : ∀ k, k ≠ 7 → F' k = F k) (out : Int → Bool) : s_ff F' out = s_ff F out := by
  have e : ∀ b, s_free F' out b = s_free F out b := fun b => by
    unfold s_free
    rw [g7_bN h]
    simp only [g7_hig h]
  unfold s_ff
  rw [g7_bN h]
  simp only [e]
theorem g7_oO (h : ∀ k, k ≠ 7 → F' k = F k) (k : Nat) : oO F' k = oO F k := by
  induction k with
  | zero => rfl
  | succ k ih =>
    funext x
    rw [oO_s, oO_s]
    unfold oP
    rw [ih, g7_ff h]
theorem g7_oP (h : ∀ k, k ≠ 7 → F' k = F k) (k : Nat) : oP F' k = oP F k := by
  unfold oP
  rw [g7_oO h, g7_ff h]
theorem g7_ho (h : ∀ k, k ≠ 7 → F' k = F k) : s_ho F' = s_ho F := by
  unfold s_ho
  rw [g7_bN h]
  simp only [g7_oP h]
theorem g7_BC (h : ∀ k, k ≠ 7 → F' k = F k) {t : Nat} {M : Mem} (B : BC t F M) : BC t F' M := by
  unfold BC vl at B ⊢
  rw [g7_cn h, g7_cost h, g7_bN h, h 0 (by decide), h 3 (by decide)]
  simp only [g7_tQ h, g7_sq h, g7_bA h, g7_fst h]
  exact B
theorem g7_OC (h : ∀ k, k ≠ 7 → F' k = F k) {t : Nat} {M : Mem} (O : OC t F M) : OC t F' M := by
  unfold OC at O ⊢
  rw [g7_ho h, g7_bN h]
  simp only [g7_oP h]
  exact O
end G7
/-! lay, wear, throwing -/
def s_layok (F : Fld) (h r k : Int) : Prop := (0 ≤ h ∧ h < F 0 1 0) ∧ (0 ≤ r ∧ r < F 0 0 0) ∧ 1 ≤ k ∧ k ≤ 99
theorem u_thr_k (F : Fld) (f v : Int) : ∀ k, k ≠ 7 → u_thr F f v k = F k := fun k hk => by
  funext a b
  exact if_neg (fun q => hk q.1)
section CC
variable {c g m : Nat} {F : Fld} {M : Mem}
theorem wl_vals (F : Fld) (h r k : Int) : s_wl F h r k = 0 ∨ s_wl F h r k = 7 ∨ s_wl F h r k = 4 := by
  unfold s_wl
  by_cases hc : 0 < F 3 h 2 ∧ F 4 h 0 = r
  · rw [if_pos hc]
    by_cases h9 : F 5 h 0 + k ≤ 999
    · rw [if_pos h9]; exact Or.inl rfl
    · rw [if_neg h9]; exact Or.inr (Or.inl rfl)
  · rw [if_neg hc]
    by_cases h9 : F 3 h 2 = 12
    · rw [if_pos h9]; exact Or.inr (Or.inr rfl)
    · rw [if_neg h9]; exact Or.inl rfl
theorem cc_lay (I : CI c g F M) {h r k : Int} (hh : -2147483648 ≤ h ∧ h < 2147483648) (hr : -2147483648 ≤ r ∧ r < 2147483648) (hk : -2147483648 ≤ k ∧ k < 2147483648) : ∃ v st F', (∃ M1, fX10_lay c (iI h) (iI r) (iI k) M = some (iI v, stI M1 c 0 (iI st)) ∧ CI c g F' M1 ∧ Fr (fun x => (g + 7 ≤ x ∧ x ≤ g + 9) ∨ x = c + 57) M M1) ∧ Lk F F' ∧ ∀ m φ M, 100 < φ → MR m 0 F M → ∃ M2, fX11_lay φ m (iI h) (iI r) (iI k) M = some (iI v, stI M2 m 2 (iI st)) ∧ MR m 0 F' M2 ∧ Fr (Rg (m + 1) (m + 1)) M M2 ∧ ∀ e : Int, e = 4 ∨ 280 ≤ e → M2.1 (m + 1) e.toNat = M.1 (m + 1) e.toNat := by
  have I0 := I
  obtain ⟨hg, ho, hd, w, G, hB⟩ := I
  have n1 := w.n1
  have n0 := w.n0
  by_cases ok : (0 ≤ h ∧ h < F 0 1 0) ∧ (0 ≤ r ∧ r < F 0 0 0) ∧ 1 ≤ k ∧ k ≤ 99
  · obtain ⟨h1, h2, h3⟩ := ok
    have nl := w.nl h1
    obtain ⟨a1, a2⟩ := c_layOn w G h1 h2 (k := k) (by omega)
    have ew := c_isWithin (M := M) (b := 1) (d := 99) hk (by omega) (by omega)
    rw [decide_eq_true h3] at ew
    have eh := c_isHole w G hh
    have er := c_isRock w G hr
    rw [s_in_t h1] at eh
    rw [s_in_t h2] at er
    by_cases hw : s_wl F h r k = 0
    · obtain ⟨M', b1, b2, b3⟩ := a2 hw
      have w' := w.lay2 h1 h2 (by omega) hw
      have hF : Fr (fun x => (g + 7 ≤ x ∧ x ≤ g + 9) ∨ x = c + 57) M (stI M' (c + 57) 1 (iI 1)) := Fr.stI (Or.inr rfl) (b3.mono fun x q => Or.inl q)
      have G' : GR g (s_lay2 F h r k) (stI M' (c + 57) 1 (iI 1)) := b2.fr (Fr.stI (S := Rg (c + 57) (c + 57)) ⟨Nat.le_refl _, Nat.le_refl _⟩ (Fr.refl M')) (fun x a b q => by have := q.1; have := q.2; omega)
      have hgM : M'.2.2 c 7 = some g := by rw [(b3 c (fun q => by have := q.1; have := q.2; omega)).2.2]; exact hg
      have e0 := (Lk.lay2 F h r k).1 0 (by decide) (by decide) (by decide)
      refine ⟨(s_lay2 F h r k) 3 h 2, 0, s_lay2 F h r k, ⟨stI M' (c + 57) 1 (iI 1), ?_, ⟨hgM, ho, hd, w', G', Or.inl (rI_eq _ _ _ _)⟩, hF⟩, Lk.lay2 F h r k, fun m φ M hφ R => ?_⟩
      · have e7 := G'.nl (h := h) (by rw [e0]; exact h1)
        unfold fX10_lay fX10_answer fX0_turnStale
        simp (disch := omega) only [iI_add, iI_sub, iI_mul, iI_neg, iI_nat, addm1, ixkI, ↓sbind, sbind, ↓bdS, bdS, ↓nm_eq, ↓jn_eq, iI_lt, iI_le, iI_eq, k_0, k_1, k_2, k_3, k_4, k_5, k_6, k_7, k_8, k_9, k_10, k_11, k_12, k_13, k_14, k_15, k_16, k_17, k_18, k_19, k_20, k_21, k_22, k_23, k_24, k_27, k_30, k_32, k_48, k_57, k_59, k_60, k_61, k_62, k_63, k_64, k_72, k_78, k_80, k_82, k_97, k_99, k_100, k_122, k_244, k_255, k_268, k_280, k_300, k_432, k_650, k_900, k_901, k_999, k_1700, k_2600, k_2601, k_2602, k_2603, k_2604, k_2610, k_2618, k_2682, k_2777, k_2844, k_2868, k_2880, k_3245, k_3250, k_9551, k_9999, k_65536, k_100000, k_999999, k_1000000, k_2147483647, lt_T, lt_F, le_T, le_F, eq_T, eq_F, ↓reduceIte, not_true_eq_false, not_false_eq_true, or_true, or_false, true_or, false_or, and_true, true_and, and_false, false_and, bI_t, hg, ldr_ok ho, eh, er, ew, b1, rI_3, hgM, e7]
      · obtain ⟨M2, c1, c2, c3, c4⟩ := m_lays w R h1 h2 (k := k) (by omega) hw hφ
        refine ⟨M2, ?_, c2, c3, c4⟩
        have fh := m_isHole w R hh
        have fr' := m_isRock w R hr
        have ff1 := m_isFrom (M := M) (a := k) (b := 1) (c := 99) (by omega) (by omega) (by omega)
        have fw := m_wrongLay w R h1 h2 (k := k) (by omega)
        have el := m_layersOf c2 (h := h) (by omega)
        rw [s_in_t h1] at fh
        rw [s_in_t h2] at fr'
        rw [decide_eq_true h3] at ff1
        rw [show (if 0 < F 3 h 2 ∧ F 4 h 0 = r then (if F 5 h 0 + k ≤ 999 then 0 else 7) else if F 3 h 2 = 12 then 4 else 0) = s_wl F h r k from rfl, hw] at fw
        unfold fX11_lay fX11_gives
        rw [fh, fr', iI_l hk, kl_1, kl_99, ff1, fw]
        simp (disch := omega) only [iI_add, iI_sub, iI_mul, iI_neg, iI_nat, addm1, ixkI, ↓sbind, sbind, ↓bdS, bdS, ↓nm_eq, ↓jn_eq, iI_lt, iI_le, iI_eq, k_0, k_1, k_2, k_3, k_4, k_5, k_6, k_7, k_8, k_9, k_10, k_11, k_12, k_13, k_14, k_15, k_16, k_17, k_18, k_19, k_20, k_21, k_22, k_23, k_24, k_27, k_30, k_32, k_48, k_57, k_59, k_60, k_61, k_62, k_63, k_64, k_72, k_78, k_80, k_82, k_97, k_99, k_100, k_122, k_244, k_255, k_268, k_280, k_300, k_432, k_650, k_900, k_901, k_999, k_1700, k_2600, k_2601, k_2602, k_2603, k_2604, k_2610, k_2618, k_2682, k_2777, k_2844, k_2868, k_2880, k_3245, k_3250, k_9551, k_9999, k_65536, k_100000, k_999999, k_1000000, k_2147483647, lt_T, lt_F, le_T, le_F, eq_T, eq_F, ↓reduceIte, not_true_eq_false, not_false_eq_true, or_true, or_false, true_or, false_or, and_true, true_and, and_false, false_and, bI_t, c1, el]
    · have b1 := a1 hw
      have wv := wl_vals F h r k
      refine ⟨-1, s_wl F h r k, F, ⟨M, ?_, I0, Fr.refl M⟩, Lk.refl F, fun m φ M hφ R => ⟨M, ?_, R, Fr.refl M, fun _ _ => rfl⟩⟩
      · unfold fX10_lay fX10_refuse
        simp (disch := omega) only [iI_add, iI_sub, iI_mul, iI_neg, iI_nat, addm1, ixkI, ↓sbind, sbind, ↓bdS, bdS, ↓nm_eq, ↓jn_eq, iI_lt, iI_le, iI_eq, k_0, k_1, k_2, k_3, k_4, k_5, k_6, k_7, k_8, k_9, k_10, k_11, k_12, k_13, k_14, k_15, k_16, k_17, k_18, k_19, k_20, k_21, k_22, k_23, k_24, k_27, k_30, k_32, k_48, k_57, k_59, k_60, k_61, k_62, k_63, k_64, k_72, k_78, k_80, k_82, k_97, k_99, k_100, k_122, k_244, k_255, k_268, k_280, k_300, k_432, k_650, k_900, k_901, k_999, k_1700, k_2600, k_2601, k_2602, k_2603, k_2604, k_2610, k_2618, k_2682, k_2777, k_2844, k_2868, k_2880, k_3245, k_3250, k_9551, k_9999, k_65536, k_100000, k_999999, k_1000000, k_2147483647, lt_T, lt_F, le_T, le_F, eq_T, eq_F, ↓reduceIte, not_true_eq_false, not_false_eq_true, or_true, or_false, true_or, false_or, and_true, true_and, and_false, false_and, bI_t, hg, ldr_ok ho, eh, er, ew, b1]
      · have fh := m_isHole w R hh
        have fr' := m_isRock w R hr
        have ff1 := m_isFrom (M := M) (a := k) (b := 1) (c := 99) (by omega) (by omega) (by omega)
        have fw := m_wrongLay w R h1 h2 (k := k) (by omega)
        rw [s_in_t h1] at fh
        rw [s_in_t h2] at fr'
        rw [decide_eq_true h3] at ff1
        rw [show (if 0 < F 3 h 2 ∧ F 4 h 0 = r then (if F 5 h 0 + k ≤ 999 then 0 else 7) else if F 3 h 2 = 12 then 4 else 0) = s_wl F h r k from rfl] at fw
        unfold fX11_lay fX11_refuse
        rw [fh, fr', iI_l hk, kl_1, kl_99, ff1, fw]
        simp (disch := omega) only [iI_add, iI_sub, iI_mul, iI_neg, iI_nat, addm1, ixkI, ↓sbind, sbind, ↓bdS, bdS, ↓nm_eq, ↓jn_eq, iI_lt, iI_le, iI_eq, k_0, k_1, k_2, k_3, k_4, k_5, k_6, k_7, k_8, k_9, k_10, k_11, k_12, k_13, k_14, k_15, k_16, k_17, k_18, k_19, k_20, k_21, k_22, k_23, k_24, k_27, k_30, k_32, k_48, k_57, k_59, k_60, k_61, k_62, k_63, k_64, k_72, k_78, k_80, k_82, k_97, k_99, k_100, k_122, k_244, k_255, k_268, k_280, k_300, k_432, k_650, k_900, k_901, k_999, k_1700, k_2600, k_2601, k_2602, k_2603, k_2604, k_2610, k_2618, k_2682, k_2777, k_2844, k_2868, k_2880, k_3245, k_3250, k_9551, k_9999, k_65536, k_100000, k_999999, k_1000000, k_2147483647, lt_T, lt_F, le_T, le_F, eq_T, eq_F, ↓reduceIte, not_true_eq_false, not_false_eq_true, or_true, or_false, true_or, false_or, and_true, true_and, and_false, false_and, bI_t]
  · refine ⟨-1, 1, F, ⟨M, ?_, I0, Fr.refl M⟩, Lk.refl F, fun m φ M hφ R => ⟨M, ?_, R, Fr.refl M, fun _ _ => rfl⟩⟩
    · have ew := c_isWithin (M := M) (b := 1) (d := 99) hk (by omega) (by omega)
      unfold fX10_lay fX10_refuse
      simp only [hg, ldr_ok ho, sbind]
      rw [c_isHole w G hh, c_isRock w G hr, k_1, k_99, ew]
      by_cases h1 : 0 ≤ h ∧ h < F 0 1 0
      · by_cases h2 : 0 ≤ r ∧ r < F 0 0 0
        · have h3 : ¬ (1 ≤ k ∧ k ≤ 99) := fun q => ok ⟨h1, h2, q⟩
          rw [s_in_t h1, s_in_t h2, decide_eq_false h3]
          simp (disch := omega) only [iI_add, iI_sub, iI_mul, iI_neg, iI_nat, addm1, ixkI, ↓sbind, sbind, ↓bdS, bdS, ↓nm_eq, ↓jn_eq, iI_lt, iI_le, iI_eq, k_0, k_1, k_2, k_3, k_4, k_5, k_6, k_7, k_8, k_9, k_10, k_11, k_12, k_13, k_14, k_15, k_16, k_17, k_18, k_19, k_20, k_21, k_22, k_23, k_24, k_27, k_30, k_32, k_48, k_57, k_59, k_60, k_61, k_62, k_63, k_64, k_72, k_78, k_80, k_82, k_97, k_99, k_100, k_122, k_244, k_255, k_268, k_280, k_300, k_432, k_650, k_900, k_901, k_999, k_1700, k_2600, k_2601, k_2602, k_2603, k_2604, k_2610, k_2618, k_2682, k_2777, k_2844, k_2868, k_2880, k_3245, k_3250, k_9551, k_9999, k_65536, k_100000, k_999999, k_1000000, k_2147483647, lt_T, lt_F, le_T, le_F, eq_T, eq_F, ↓reduceIte, not_true_eq_false, not_false_eq_true, or_true, or_false, true_or, false_or, and_true, true_and, and_false, false_and, bI_t, bI_f]
        · rw [s_in_t h1, s_in_f h2]
          simp (disch := omega) only [iI_add, iI_sub, iI_mul, iI_neg, iI_nat, addm1, ixkI, ↓sbind, sbind, ↓bdS, bdS, ↓nm_eq, ↓jn_eq, iI_lt, iI_le, iI_eq, k_0, k_1, k_2, k_3, k_4, k_5, k_6, k_7, k_8, k_9, k_10, k_11, k_12, k_13, k_14, k_15, k_16, k_17, k_18, k_19, k_20, k_21, k_22, k_23, k_24, k_27, k_30, k_32, k_48, k_57, k_59, k_60, k_61, k_62, k_63, k_64, k_72, k_78, k_80, k_82, k_97, k_99, k_100, k_122, k_244, k_255, k_268, k_280, k_300, k_432, k_650, k_900, k_901, k_999, k_1700, k_2600, k_2601, k_2602, k_2603, k_2604, k_2610, k_2618, k_2682, k_2777, k_2844, k_2868, k_2880, k_3245, k_3250, k_9551, k_9999, k_65536, k_100000, k_999999, k_1000000, k_2147483647, lt_T, lt_F, le_T, le_F, eq_T, eq_F, ↓reduceIte, not_true_eq_false, not_false_eq_true, or_true, or_false, true_or, false_or, and_true, true_and, and_false, false_and, bI_t, bI_f]
      · rw [s_in_f h1]
        simp (disch := omega) only [iI_add, iI_sub, iI_mul, iI_neg, iI_nat, addm1, ixkI, ↓sbind, sbind, ↓bdS, bdS, ↓nm_eq, ↓jn_eq, iI_lt, iI_le, iI_eq, k_0, k_1, k_2, k_3, k_4, k_5, k_6, k_7, k_8, k_9, k_10, k_11, k_12, k_13, k_14, k_15, k_16, k_17, k_18, k_19, k_20, k_21, k_22, k_23, k_24, k_27, k_30, k_32, k_48, k_57, k_59, k_60, k_61, k_62, k_63, k_64, k_72, k_78, k_80, k_82, k_97, k_99, k_100, k_122, k_244, k_255, k_268, k_280, k_300, k_432, k_650, k_900, k_901, k_999, k_1700, k_2600, k_2601, k_2602, k_2603, k_2604, k_2610, k_2618, k_2682, k_2777, k_2844, k_2868, k_2880, k_3245, k_3250, k_9551, k_9999, k_65536, k_100000, k_999999, k_1000000, k_2147483647, lt_T, lt_F, le_T, le_F, eq_T, eq_F, ↓reduceIte, not_true_eq_false, not_false_eq_true, or_true, or_false, true_or, false_or, and_true, true_and, and_false, false_and, bI_f]
    · have ff1 := m_isFrom (M := M) (a := k) (b := 1) (c := 99) (by omega) (by omega) (by omega)
      unfold fX11_lay fX11_refuse
      rw [m_isHole w R hh, m_isRock w R hr, iI_l hk, kl_1, kl_99, ff1]
      by_cases h1 : 0 ≤ h ∧ h < F 0 1 0
      · by_cases h2 : 0 ≤ r ∧ r < F 0 0 0
        · have h3 : ¬ (1 ≤ k ∧ k ≤ 99) := fun q => ok ⟨h1, h2, q⟩
          rw [s_in_t h1, s_in_t h2, decide_eq_false h3]
          simp (disch := omega) only [iI_add, iI_sub, iI_mul, iI_neg, iI_nat, addm1, ixkI, ↓sbind, sbind, ↓bdS, bdS, ↓nm_eq, ↓jn_eq, iI_lt, iI_le, iI_eq, k_0, k_1, k_2, k_3, k_4, k_5, k_6, k_7, k_8, k_9, k_10, k_11, k_12, k_13, k_14, k_15, k_16, k_17, k_18, k_19, k_20, k_21, k_22, k_23, k_24, k_27, k_30, k_32, k_48, k_57, k_59, k_60, k_61, k_62, k_63, k_64, k_72, k_78, k_80, k_82, k_97, k_99, k_100, k_122, k_244, k_255, k_268, k_280, k_300, k_432, k_650, k_900, k_901, k_999, k_1700, k_2600, k_2601, k_2602, k_2603, k_2604, k_2610, k_2618, k_2682, k_2777, k_2844, k_2868, k_2880, k_3245, k_3250, k_9551, k_9999, k_65536, k_100000, k_999999, k_1000000, k_2147483647, lt_T, lt_F, le_T, le_F, eq_T, eq_F, ↓reduceIte, not_true_eq_false, not_false_eq_true, or_true, or_false, true_or, false_or, and_true, true_and, and_false, false_and, bI_t, bI_f]
        · rw [s_in_t h1, s_in_f h2]
          simp (disch := omega) only [iI_add, iI_sub, iI_mul, iI_neg, iI_nat, addm1, ixkI, ↓sbind, sbind, ↓bdS, bdS, ↓nm_eq, ↓jn_eq, iI_lt, iI_le, iI_eq, k_0, k_1, k_2, k_3, k_4, k_5, k_6, k_7, k_8, k_9, k_10, k_11, k_12, k_13, k_14, k_15, k_16, k_17, k_18, k_19, k_20, k_21, k_22, k_23, k_24, k_27, k_30, k_32, k_48, k_57, k_59, k_60, k_61, k_62, k_63, k_64, k_72, k_78, k_80, k_82, k_97, k_99, k_100, k_122, k_244, k_255, k_268, k_280, k_300, k_432, k_650, k_900, k_901, k_999, k_1700, k_2600, k_2601, k_2602, k_2603, k_2604, k_2610, k_2618, k_2682, k_2777, k_2844, k_2868, k_2880, k_3245, k_3250, k_9551, k_9999, k_65536, k_100000, k_999999, k_1000000, k_2147483647, lt_T, lt_F, le_T, le_F, eq_T, eq_F, ↓reduceIte, not_true_eq_false, not_false_eq_true, or_true, or_false, true_or, false_or, and_true, true_and, and_false, false_and, bI_t, bI_f]
      · rw [s_in_f h1]
        simp (disch := omega) only [iI_add, iI_sub, iI_mul, iI_neg, iI_nat, addm1, ixkI, ↓sbind, sbind, ↓bdS, bdS, ↓nm_eq, ↓jn_eq, iI_lt, iI_le, iI_eq, k_0, k_1, k_2, k_3, k_4, k_5, k_6, k_7, k_8, k_9, k_10, k_11, k_12, k_13, k_14, k_15, k_16, k_17, k_18, k_19, k_20, k_21, k_22, k_23, k_24, k_27, k_30, k_32, k_48, k_57, k_59, k_60, k_61, k_62, k_63, k_64, k_72, k_78, k_80, k_82, k_97, k_99, k_100, k_122, k_244, k_255, k_268, k_280, k_300, k_432, k_650, k_900, k_901, k_999, k_1700, k_2600, k_2601, k_2602, k_2603, k_2604, k_2610, k_2618, k_2682, k_2777, k_2844, k_2868, k_2880, k_3245, k_3250, k_9551, k_9999, k_65536, k_100000, k_999999, k_1000000, k_2147483647, lt_T, lt_F, le_T, le_F, eq_T, eq_F, ↓reduceIte, not_true_eq_false, not_false_eq_true, or_true, or_false, true_or, false_or, and_true, true_and, and_false, false_and, bI_f]
theorem cc_wear (I : CI c g F M) {h k : Int} (hh : -2147483648 ≤ h ∧ h < 2147483648) (hk : -2147483648 ≤ k ∧ k < 2147483648) {φ : Nat} (hφ : 100 < φ) : ∃ v st F', (∃ M1, fX10_wear φ c (iI h) (iI k) M = some (iI v, stI M1 c 0 (iI st)) ∧ CI c g F' M1 ∧ Fr (fun x => (g + 7 ≤ x ∧ x ≤ g + 9) ∨ x = c + 57) M M1) ∧ Lk F F' ∧ ∀ m M, MR m 0 F M → ∃ M2, fX11_wear φ m (iI h) (iI k) M = some (iI v, stI M2 m 2 (iI st)) ∧ MR m 0 F' M2 ∧ Fr (Rg (m + 1) (m + 1)) M M2 ∧ ∀ e : Int, e = 4 ∨ 280 ≤ e → M2.1 (m + 1) e.toNat = M.1 (m + 1) e.toNat := by
  have I0 := I
  obtain ⟨hg, ho, hd, w, G, hB⟩ := I
  have n1 := w.n1
  have ew := c_isWithin (M := M) (b := 1) (d := 99) hk (by omega) (by omega)
  have eh := c_isHole w G hh
  by_cases h1 : 0 ≤ h ∧ h < F 0 1 0
  · rw [s_in_t h1] at eh
    by_cases h3 : 1 ≤ k ∧ k ≤ 99
    · rw [decide_eq_true h3] at ew
      have hF0 : Fr (Rg (c + 57) (c + 57)) M (stI M (c + 57) 1 (iI 1)) := Fr.stI ⟨Nat.le_refl _, Nat.le_refl _⟩ (Fr.refl M)
      obtain ⟨M', b1, b2, b3⟩ := c_wearOff (M := stI M (c + 57) 1 (iI 1)) w (G.fr hF0 (fun x a b q => by have := q.1; have := q.2; omega)) h1 (k := k) (by omega) hφ
      have w' := w.wear (k := k) h1 (by omega)
      obtain ⟨d1, d2, d3, d4, d5⟩ := wearN_inv 13 F h k (F 0 0 0) (w.hw h1) (by omega)
      refine ⟨k - (s_wear F h k).2, 0, (s_wear F h k).1, ⟨M', ?_, ⟨by rw [(b3 c (fun q => by have := q.1; have := q.2; omega)).2.2]; exact hg, ho, hd, w', b2, Or.inl (by rw [(b3 (c + 57) (fun q => by have := q.1; have := q.2; omega)).1]; exact rI_eq _ _ _ _)⟩, (hF0.mono fun x q => Or.inr (by have := q.1; have := q.2; omega)).trans (b3.mono fun x q => Or.inl q)⟩, d1, fun m M R => ?_⟩
      · unfold fX10_wear fX10_answer fX0_turnStale
        simp (disch := omega) only [iI_add, iI_sub, iI_mul, iI_neg, iI_nat, addm1, ixkI, ↓sbind, sbind, ↓bdS, bdS, ↓nm_eq, ↓jn_eq, iI_lt, iI_le, iI_eq, k_0, k_1, k_2, k_3, k_4, k_5, k_6, k_7, k_8, k_9, k_10, k_11, k_12, k_13, k_14, k_15, k_16, k_17, k_18, k_19, k_20, k_21, k_22, k_23, k_24, k_27, k_30, k_32, k_48, k_57, k_59, k_60, k_61, k_62, k_63, k_64, k_72, k_78, k_80, k_82, k_97, k_99, k_100, k_122, k_244, k_255, k_268, k_280, k_300, k_432, k_650, k_900, k_901, k_999, k_1700, k_2600, k_2601, k_2602, k_2603, k_2604, k_2610, k_2618, k_2682, k_2777, k_2844, k_2868, k_2880, k_3245, k_3250, k_9551, k_9999, k_65536, k_100000, k_999999, k_1000000, k_2147483647, lt_T, lt_F, le_T, le_F, eq_T, eq_F, ↓reduceIte, not_true_eq_false, not_false_eq_true, or_true, or_false, true_or, false_or, and_true, true_and, and_false, false_and, bI_t, hg, ldr_ok ho, eh, ew, b1, rI_3]
      · obtain ⟨M2, c1, c2, c3, c4⟩ := m_wears w R h1 (k := k) (by omega) hφ
        refine ⟨M2, ?_, c2, c3, c4⟩
        have fh := m_isHole w R hh
        have ff1 := m_isFrom (M := M) (a := k) (b := 1) (c := 99) (by omega) (by omega) (by omega)
        rw [s_in_t h1] at fh
        rw [decide_eq_true h3] at ff1
        unfold fX11_wear fX11_gives
        rw [fh, iI_l hk, kl_1, kl_99, ff1]
        simp (disch := omega) only [iI_add, iI_sub, iI_mul, iI_neg, iI_nat, addm1, ixkI, ↓sbind, sbind, ↓bdS, bdS, ↓nm_eq, ↓jn_eq, iI_lt, iI_le, iI_eq, k_0, k_1, k_2, k_3, k_4, k_5, k_6, k_7, k_8, k_9, k_10, k_11, k_12, k_13, k_14, k_15, k_16, k_17, k_18, k_19, k_20, k_21, k_22, k_23, k_24, k_27, k_30, k_32, k_48, k_57, k_59, k_60, k_61, k_62, k_63, k_64, k_72, k_78, k_80, k_82, k_97, k_99, k_100, k_122, k_244, k_255, k_268, k_280, k_300, k_432, k_650, k_900, k_901, k_999, k_1700, k_2600, k_2601, k_2602, k_2603, k_2604, k_2610, k_2618, k_2682, k_2777, k_2844, k_2868, k_2880, k_3245, k_3250, k_9551, k_9999, k_65536, k_100000, k_999999, k_1000000, k_2147483647, lt_T, lt_F, le_T, le_F, eq_T, eq_F, ↓reduceIte, not_true_eq_false, not_false_eq_true, or_true, or_false, true_or, false_or, and_true, true_and, and_false, false_and, bI_t, c1]
    · rw [decide_eq_false h3] at ew
      refine ⟨-1, 1, F, ⟨M, ?_, I0, Fr.refl M⟩, Lk.refl F, fun m M R => ⟨M, ?_, R, Fr.refl M, fun _ _ => rfl⟩⟩
      · unfold fX10_wear fX10_refuse
        simp (disch := omega) only [iI_add, iI_sub, iI_mul, iI_neg, iI_nat, addm1, ixkI, ↓sbind, sbind, ↓bdS, bdS, ↓nm_eq, ↓jn_eq, iI_lt, iI_le, iI_eq, k_0, k_1, k_2, k_3, k_4, k_5, k_6, k_7, k_8, k_9, k_10, k_11, k_12, k_13, k_14, k_15, k_16, k_17, k_18, k_19, k_20, k_21, k_22, k_23, k_24, k_27, k_30, k_32, k_48, k_57, k_59, k_60, k_61, k_62, k_63, k_64, k_72, k_78, k_80, k_82, k_97, k_99, k_100, k_122, k_244, k_255, k_268, k_280, k_300, k_432, k_650, k_900, k_901, k_999, k_1700, k_2600, k_2601, k_2602, k_2603, k_2604, k_2610, k_2618, k_2682, k_2777, k_2844, k_2868, k_2880, k_3245, k_3250, k_9551, k_9999, k_65536, k_100000, k_999999, k_1000000, k_2147483647, lt_T, lt_F, le_T, le_F, eq_T, eq_F, ↓reduceIte, not_true_eq_false, not_false_eq_true, or_true, or_false, true_or, false_or, and_true, true_and, and_false, false_and, bI_t, bI_f, hg, ldr_ok ho, eh, ew]
      · have fh := m_isHole w R hh
        have ff1 := m_isFrom (M := M) (a := k) (b := 1) (c := 99) (by omega) (by omega) (by omega)
        rw [s_in_t h1] at fh
        rw [decide_eq_false h3] at ff1
        unfold fX11_wear fX11_refuse
        rw [fh, iI_l hk, kl_1, kl_99, ff1]
        simp (disch := omega) only [iI_add, iI_sub, iI_mul, iI_neg, iI_nat, addm1, ixkI, ↓sbind, sbind, ↓bdS, bdS, ↓nm_eq, ↓jn_eq, iI_lt, iI_le, iI_eq, k_0, k_1, k_2, k_3, k_4, k_5, k_6, k_7, k_8, k_9, k_10, k_11, k_12, k_13, k_14, k_15, k_16, k_17, k_18, k_19, k_20, k_21, k_22, k_23, k_24, k_27, k_30, k_32, k_48, k_57, k_59, k_60, k_61, k_62, k_63, k_64, k_72, k_78, k_80, k_82, k_97, k_99, k_100, k_122, k_244, k_255, k_268, k_280, k_300, k_432, k_650, k_900, k_901, k_999, k_1700, k_2600, k_2601, k_2602, k_2603, k_2604, k_2610, k_2618, k_2682, k_2777, k_2844, k_2868, k_2880, k_3245, k_3250, k_9551, k_9999, k_65536, k_100000, k_999999, k_1000000, k_2147483647, lt_T, lt_F, le_T, le_F, eq_T, eq_F, ↓reduceIte, not_true_eq_false, not_false_eq_true, or_true, or_false, true_or, false_or, and_true, true_and, and_false, false_and, bI_t, bI_f]
  · rw [s_in_f h1] at eh
    refine ⟨-1, 1, F, ⟨M, ?_, I0, Fr.refl M⟩, Lk.refl F, fun m M R => ⟨M, ?_, R, Fr.refl M, fun _ _ => rfl⟩⟩
    · unfold fX10_wear fX10_refuse
      simp (disch := omega) only [iI_add, iI_sub, iI_mul, iI_neg, iI_nat, addm1, ixkI, ↓sbind, sbind, ↓bdS, bdS, ↓nm_eq, ↓jn_eq, iI_lt, iI_le, iI_eq, k_0, k_1, k_2, k_3, k_4, k_5, k_6, k_7, k_8, k_9, k_10, k_11, k_12, k_13, k_14, k_15, k_16, k_17, k_18, k_19, k_20, k_21, k_22, k_23, k_24, k_27, k_30, k_32, k_48, k_57, k_59, k_60, k_61, k_62, k_63, k_64, k_72, k_78, k_80, k_82, k_97, k_99, k_100, k_122, k_244, k_255, k_268, k_280, k_300, k_432, k_650, k_900, k_901, k_999, k_1700, k_2600, k_2601, k_2602, k_2603, k_2604, k_2610, k_2618, k_2682, k_2777, k_2844, k_2868, k_2880, k_3245, k_3250, k_9551, k_9999, k_65536, k_100000, k_999999, k_1000000, k_2147483647, lt_T, lt_F, le_T, le_F, eq_T, eq_F, ↓reduceIte, not_true_eq_false, not_false_eq_true, or_true, or_false, true_or, false_or, and_true, true_and, and_false, false_and, bI_f, hg, ldr_ok ho, eh]
    · have fh := m_isHole w R hh
      rw [s_in_f h1] at fh
      unfold fX11_wear fX11_refuse
      rw [fh]
      simp (disch := omega) only [iI_add, iI_sub, iI_mul, iI_neg, iI_nat, addm1, ixkI, ↓sbind, sbind, ↓bdS, bdS, ↓nm_eq, ↓jn_eq, iI_lt, iI_le, iI_eq, k_0, k_1, k_2, k_3, k_4, k_5, k_6, k_7, k_8, k_9, k_10, k_11, k_12, k_13, k_14, k_15, k_16, k_17, k_18, k_19, k_20, k_21, k_22, k_23, k_24, k_27, k_30, k_32, k_48, k_57, k_59, k_60, k_61, k_62, k_63, k_64, k_72, k_78, k_80, k_82, k_97, k_99, k_100, k_122, k_244, k_255, k_268, k_280, k_300, k_432, k_650, k_900, k_901, k_999, k_1700, k_2600, k_2601, k_2602, k_2603, k_2604, k_2610, k_2618, k_2682, k_2777, k_2844, k_2868, k_2880, k_3245, k_3250, k_9551, k_9999, k_65536, k_100000, k_999999, k_1000000, k_2147483647, lt_T, lt_F, le_T, le_F, eq_T, eq_F, ↓reduceIte, not_true_eq_false, not_false_eq_true, or_true, or_false, true_or, false_or, and_true, true_and, and_false, false_and, bI_f]
theorem WF.thr (w : WF F) {f v : Int} (hv : 0 ≤ v ∧ v ≤ 999) : WF (u_thr F f v) := by
  have e := u_thr_k F f v
  have et : ∀ t, s_turn (u_thr F f v) t = s_turn F t := fun t => by
    unfold s_turn s_turn3
    rw [e 6 (by decide), e 3 (by decide)]
  unfold WF
  rw [e 0 (by decide), e 1 (by decide), e 2 (by decide), e 3 (by decide), e 4 (by decide), e 5 (by decide), e 6 (by decide)]
  refine ⟨w.1, w.2.1, w.2.2.1, w.2.2.2.1, w.2.2.2.2.1, w.2.2.2.2.2.1, fun t a b => by rw [et t]; exact w.tn ⟨a, b⟩, fun x k a b p q => ?_⟩
  unfold u_thr
  by_cases hc : 7 = 7 ∧ x = f ∧ k = 4
  · rw [if_pos hc]; exact hv
  · rw [if_neg hc]; exact w.fl ⟨a, b⟩ ⟨p, q⟩
theorem GR.thr (G : GR g F M) (n3 : F 0 3 0 ≤ 2) {f v : Int} (hf : 0 ≤ f ∧ f < F 0 3 0) : GR g (u_thr F f v) (stI M (g + 13) f.toNat (iI v)) := by
  have e := u_thr_k F f v
  obtain ⟨g0, g1, g2, g3, g4, g5, g6, g7⟩ := G
  have hc : ∀ x, x ≠ g + 13 → (stI M (g + 13) f.toNat (iI v)).1 x = M.1 x := fun x hx => by funext z; exact rI_ng hx
  unfold GR
  rw [e 0 (by decide), e 1 (by decide), e 2 (by decide), e 3 (by decide), e 4 (by decide), e 5 (by decide), e 6 (by decide), hc g (by omega), hc (g + 2) (by omega), hc (g + 3) (by omega), hc (g + 5) (by omega), hc (g + 6) (by omega), hc (g + 7) (by omega), hc (g + 8) (by omega), hc (g + 9) (by omega), hc (g + 10) (by omega), hc (g + 12) (by omega)]
  refine ⟨g0, g1, g2, g3, g4, g5, fun x k a b p q => ?_, fun x a b => ?_⟩
  · rw [g6 x k a b p q]
    unfold u_thr
    rw [if_neg (fun z => by have := z.2.2; omega)]
  · unfold u_thr
    by_cases hx : x = f
    · rw [hx, rI_eq, if_pos ⟨rfl, rfl, rfl⟩]
    · rw [rI_nk (by omega), if_neg (fun z => hx z.2.1)]
      exact g7 x a b
theorem MR.thr (R : MR m 0 F M) {f v : Int} (hf : 0 ≤ f ∧ f < 2) : MR m 0 (u_thr F f v) (stI M (m + 1) (268 + 5 * f + 4).toNat (iI v)) := by
  have e := u_thr_k F f v
  obtain ⟨g0, g1, g2, g3, g4, g5, g6⟩ := R
  unfold MR
  rw [e 0 (by decide), e 1 (by decide), e 2 (by decide), e 3 (by decide), e 4 (by decide), e 5 (by decide), e 6 (by decide)]
  refine ⟨fun x a b => ?_, fun x a b => ?_, fun x y a b c d => ?_, fun h x a b c d => ?_, fun h l a b c d => ⟨?_, ?_⟩, fun t x a b c d => ?_, fun x k a b p q => ?_⟩
  · rw [rI_nk (by omega)]; exact g0 x a b
  · rw [rI_nk (by omega)]; exact g1 x a b
  · rw [rI_nk (by omega)]; exact g2 x y a b c d
  · rw [rI_nk (by omega)]; exact g3 h x a b c d
  · rw [rI_nk (by omega)]; exact (g4 h l a b c d).1
  · rw [rI_nk (by omega)]; exact (g4 h l a b c d).2
  · rw [rI_nk (by omega)]; exact g5 t x a b c d
  · unfold u_thr
    by_cases hc : 7 = 7 ∧ x = f ∧ k = 4
    · rw [if_pos hc, hc.2.1, hc.2.2, Int.zero_add, rI_eq]
    · rw [if_neg hc, rI_nk (by omega)]
      exact g6 x k a b p q
theorem cc_throwing (I : CI c g F M) {f v : Int} (hf : -2147483648 ≤ f ∧ f < 2147483648) (hv : -2147483648 ≤ v ∧ v < 2147483648) : ∃ b st F', (∃ M1, fX10_throwing c (iI f) (iI v) M = some (iI b, stI M1 c 0 (iI st)) ∧ CI c g F' M1 ∧ Fr (Rg (g + 13) (g + 13)) M M1) ∧ (F' = F ∨ ∃ v, F' = u_thr F f v) ∧ ∀ m M, MR m 0 F M → ∃ M2, fX11_throwing m (iI f) (iI v) M = some (iI b, stI M2 m 2 (iI st)) ∧ MR m 0 F' M2 ∧ Fr (Rg (m + 1) (m + 1)) M M2 ∧ ∀ e : Int, e = 4 ∨ 280 ≤ e → M2.1 (m + 1) e.toNat = M.1 (m + 1) e.toNat := by
  have I0 := I
  obtain ⟨hg, ho, hd, w, G, hB⟩ := I
  have n3 := w.n3
  have ew := c_isWithin (M := M) (b := 0) (d := 999) hv (by omega) (by omega)
  have ef := c_isFault w G hf
  by_cases h1 : 0 ≤ f ∧ f < F 0 3 0
  · rw [s_in_t h1] at ef
    by_cases h2 : 0 ≤ v ∧ v ≤ 999
    · rw [decide_eq_true h2] at ew
      have hF : Fr (Rg (g + 13) (g + 13)) M (stI M (g + 13) f.toNat (iI v)) := Fr.stI ⟨Nat.le_refl _, Nat.le_refl _⟩ (Fr.refl M)
      refine ⟨1, 0, u_thr F f v, ⟨stI M (g + 13) f.toNat (iI v), ?_, ⟨hg, ho, hd, w.thr h2, G.thr n3.2 h1, ?_⟩, hF⟩, Or.inr ⟨v, rfl⟩, fun m M R => ⟨stI M (m + 1) (268 + 5 * f + 4).toNat (iI v), ?_, R.thr (by omega), Fr.stI ⟨Nat.le_refl _, Nat.le_refl _⟩ (Fr.refl M), fun e he => rI_nk (by omega)⟩⟩
      · unfold fX10_throwing fX10_grant
        simp (disch := omega) only [iI_add, iI_sub, iI_mul, iI_neg, iI_nat, addm1, ixkI, ↓sbind, sbind, ↓bdS, bdS, ↓nm_eq, ↓jn_eq, iI_lt, iI_le, iI_eq, k_0, k_1, k_2, k_3, k_4, k_5, k_6, k_7, k_8, k_9, k_10, k_11, k_12, k_13, k_14, k_15, k_16, k_17, k_18, k_19, k_20, k_21, k_22, k_23, k_24, k_27, k_30, k_32, k_48, k_57, k_59, k_60, k_61, k_62, k_63, k_64, k_72, k_78, k_80, k_82, k_97, k_99, k_100, k_122, k_244, k_255, k_268, k_280, k_300, k_432, k_650, k_900, k_901, k_999, k_1700, k_2600, k_2601, k_2602, k_2603, k_2604, k_2610, k_2618, k_2682, k_2777, k_2844, k_2868, k_2880, k_3245, k_3250, k_9551, k_9999, k_65536, k_100000, k_999999, k_1000000, k_2147483647, lt_T, lt_F, le_T, le_F, eq_T, eq_F, ↓reduceIte, not_true_eq_false, not_false_eq_true, or_true, or_false, true_or, false_or, and_true, true_and, and_false, false_and, bI_t, hg, ldr_ok ho, ef, ew, i01_b, if_true]
      · have hc : (stI M (g + 13) f.toNat (iI v)).1 (c + 57) = M.1 (c + 57) := by funext z; exact rI_ng (by omega)
        have hc12 : (stI M (g + 13) f.toNat (iI v)).1 (c + 57 + 12) = M.1 (c + 57 + 12) := by funext z; exact rI_ng (by omega)
        rcases hB with hB | ⟨b1, b2, b3⟩
        · exact Or.inl (by rw [hc]; exact hB)
        · refine Or.inr ⟨by rw [hc]; exact b1, g7_BC (u_thr_k F f v) (b2.fr hF (fun x a b q => by have := q.1; have := q.2; omega)), g7_OC (u_thr_k F f v) ?_⟩
          unfold OC at b3 ⊢
          rw [hc, hc12]
          exact b3
      · have ff1 := m_isFrom (M := M) (a := v) (b := 0) (c := 999) (by omega) (by omega) (by omega)
        rw [decide_eq_true h2] at ff1
        unfold fX11_throwing fX11_is
        rw [iI_l hv, kl_0, kl_999, ff1]
        simp (disch := omega) only [iI_add, iI_sub, iI_mul, iI_neg, iI_nat, addm1, ixkI, ↓sbind, sbind, ↓bdS, bdS, ↓nm_eq, ↓jn_eq, iI_lt, iI_le, iI_eq, k_0, k_1, k_2, k_3, k_4, k_5, k_6, k_7, k_8, k_9, k_10, k_11, k_12, k_13, k_14, k_15, k_16, k_17, k_18, k_19, k_20, k_21, k_22, k_23, k_24, k_27, k_30, k_32, k_48, k_57, k_59, k_60, k_61, k_62, k_63, k_64, k_72, k_78, k_80, k_82, k_97, k_99, k_100, k_122, k_244, k_255, k_268, k_280, k_300, k_432, k_650, k_900, k_901, k_999, k_1700, k_2600, k_2601, k_2602, k_2603, k_2604, k_2610, k_2618, k_2682, k_2777, k_2844, k_2868, k_2880, k_3245, k_3250, k_9551, k_9999, k_65536, k_100000, k_999999, k_1000000, k_2147483647, lt_T, lt_F, le_T, le_F, eq_T, eq_F, ↓reduceIte, not_true_eq_false, not_false_eq_true, or_true, or_false, true_or, false_or, and_true, true_and, and_false, false_and, bI_t, R.c3, i01_b, if_true]
    · rw [decide_eq_false h2] at ew
      refine ⟨0, 1, F, ⟨M, ?_, I0, Fr.refl M⟩, Or.inl rfl, fun m M R => ⟨M, ?_, R, Fr.refl M, fun _ _ => rfl⟩⟩
      · unfold fX10_throwing fX10_deny
        simp (disch := omega) only [iI_add, iI_sub, iI_mul, iI_neg, iI_nat, addm1, ixkI, ↓sbind, sbind, ↓bdS, bdS, ↓nm_eq, ↓jn_eq, iI_lt, iI_le, iI_eq, k_0, k_1, k_2, k_3, k_4, k_5, k_6, k_7, k_8, k_9, k_10, k_11, k_12, k_13, k_14, k_15, k_16, k_17, k_18, k_19, k_20, k_21, k_22, k_23, k_24, k_27, k_30, k_32, k_48, k_57, k_59, k_60, k_61, k_62, k_63, k_64, k_72, k_78, k_80, k_82, k_97, k_99, k_100, k_122, k_244, k_255, k_268, k_280, k_300, k_432, k_650, k_900, k_901, k_999, k_1700, k_2600, k_2601, k_2602, k_2603, k_2604, k_2610, k_2618, k_2682, k_2777, k_2844, k_2868, k_2880, k_3245, k_3250, k_9551, k_9999, k_65536, k_100000, k_999999, k_1000000, k_2147483647, lt_T, lt_F, le_T, le_F, eq_T, eq_F, ↓reduceIte, not_true_eq_false, not_false_eq_true, or_true, or_false, true_or, false_or, and_true, true_and, and_false, false_and, bI_t, bI_f, hg, ldr_ok ho, ef, ew, i01_a, if_true]
      · have ff1 := m_isFrom (M := M) (a := v) (b := 0) (c := 999) (by omega) (by omega) (by omega)
        rw [decide_eq_false h2] at ff1
        unfold fX11_throwing fX11_is
        rw [iI_l hv, kl_0, kl_999, ff1]
        simp (disch := omega) only [iI_add, iI_sub, iI_mul, iI_neg, iI_nat, addm1, ixkI, ↓sbind, sbind, ↓bdS, bdS, ↓nm_eq, ↓jn_eq, iI_lt, iI_le, iI_eq, k_0, k_1, k_2, k_3, k_4, k_5, k_6, k_7, k_8, k_9, k_10, k_11, k_12, k_13, k_14, k_15, k_16, k_17, k_18, k_19, k_20, k_21, k_22, k_23, k_24, k_27, k_30, k_32, k_48, k_57, k_59, k_60, k_61, k_62, k_63, k_64, k_72, k_78, k_80, k_82, k_97, k_99, k_100, k_122, k_244, k_255, k_268, k_280, k_300, k_432, k_650, k_900, k_901, k_999, k_1700, k_2600, k_2601, k_2602, k_2603, k_2604, k_2610, k_2618, k_2682, k_2777, k_2844, k_2868, k_2880, k_3245, k_3250, k_9551, k_9999, k_65536, k_100000, k_999999, k_1000000, k_2147483647, lt_T, lt_F, le_T, le_F, eq_T, eq_F, ↓reduceIte, not_true_eq_false, not_false_eq_true, or_true, or_false, true_or, false_or, and_true, true_and, and_false, false_and, bI_f, R.c3, i01_a, if_true]
  · rw [s_in_f h1] at ef
    refine ⟨0, 1, F, ⟨M, ?_, I0, Fr.refl M⟩, Or.inl rfl, fun m M R => ⟨M, ?_, R, Fr.refl M, fun _ _ => rfl⟩⟩
    · unfold fX10_throwing fX10_deny
      simp (disch := omega) only [iI_add, iI_sub, iI_mul, iI_neg, iI_nat, addm1, ixkI, ↓sbind, sbind, ↓bdS, bdS, ↓nm_eq, ↓jn_eq, iI_lt, iI_le, iI_eq, k_0, k_1, k_2, k_3, k_4, k_5, k_6, k_7, k_8, k_9, k_10, k_11, k_12, k_13, k_14, k_15, k_16, k_17, k_18, k_19, k_20, k_21, k_22, k_23, k_24, k_27, k_30, k_32, k_48, k_57, k_59, k_60, k_61, k_62, k_63, k_64, k_72, k_78, k_80, k_82, k_97, k_99, k_100, k_122, k_244, k_255, k_268, k_280, k_300, k_432, k_650, k_900, k_901, k_999, k_1700, k_2600, k_2601, k_2602, k_2603, k_2604, k_2610, k_2618, k_2682, k_2777, k_2844, k_2868, k_2880, k_3245, k_3250, k_9551, k_9999, k_65536, k_100000, k_999999, k_1000000, k_2147483647, lt_T, lt_F, le_T, le_F, eq_T, eq_F, ↓reduceIte, not_true_eq_false, not_false_eq_true, or_true, or_false, true_or, false_or, and_true, true_and, and_false, false_and, bI_f, hg, ldr_ok ho, ef, i01_a, if_true]
    · unfold fX11_throwing fX11_is
      by_cases h0 : f < 0
      · simp (disch := omega) only [iI_add, iI_sub, iI_mul, iI_neg, iI_nat, addm1, ixkI, ↓sbind, sbind, ↓bdS, bdS, ↓nm_eq, ↓jn_eq, iI_lt, iI_le, iI_eq, k_0, k_1, k_2, k_3, k_4, k_5, k_6, k_7, k_8, k_9, k_10, k_11, k_12, k_13, k_14, k_15, k_16, k_17, k_18, k_19, k_20, k_21, k_22, k_23, k_24, k_27, k_30, k_32, k_48, k_57, k_59, k_60, k_61, k_62, k_63, k_64, k_72, k_78, k_80, k_82, k_97, k_99, k_100, k_122, k_244, k_255, k_268, k_280, k_300, k_432, k_650, k_900, k_901, k_999, k_1700, k_2600, k_2601, k_2602, k_2603, k_2604, k_2610, k_2618, k_2682, k_2777, k_2844, k_2868, k_2880, k_3245, k_3250, k_9551, k_9999, k_65536, k_100000, k_999999, k_1000000, k_2147483647, lt_T, lt_F, le_T, le_F, eq_T, eq_F, ↓reduceIte, not_true_eq_false, not_false_eq_true, or_true, or_false, true_or, false_or, and_true, true_and, and_false, false_and, i01_a, if_true]
      · simp (disch := omega) only [iI_add, iI_sub, iI_mul, iI_neg, iI_nat, addm1, ixkI, ↓sbind, sbind, ↓bdS, bdS, ↓nm_eq, ↓jn_eq, iI_lt, iI_le, iI_eq, k_0, k_1, k_2, k_3, k_4, k_5, k_6, k_7, k_8, k_9, k_10, k_11, k_12, k_13, k_14, k_15, k_16, k_17, k_18, k_19, k_20, k_21, k_22, k_23, k_24, k_27, k_30, k_32, k_48, k_57, k_59, k_60, k_61, k_62, k_63, k_64, k_72, k_78, k_80, k_82, k_97, k_99, k_100, k_122, k_244, k_255, k_268, k_280, k_300, k_432, k_650, k_900, k_901, k_999, k_1700, k_2600, k_2601, k_2602, k_2603, k_2604, k_2610, k_2618, k_2682, k_2777, k_2844, k_2868, k_2880, k_3245, k_3250, k_9551, k_9999, k_65536, k_100000, k_999999, k_1000000, k_2147483647, lt_T, lt_F, le_T, le_F, eq_T, eq_F, ↓reduceIte, not_true_eq_false, not_false_eq_true, or_true, or_false, true_or, false_or, and_true, true_and, and_false, false_and, R.c3, i01_a, if_true]
end CC
