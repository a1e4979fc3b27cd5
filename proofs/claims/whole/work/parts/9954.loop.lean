/-! the law's loop: every call of a script is a step -/
theorem law_b {α : Type} [DecidableEq α] {fc fm : Mem → Option (α × Mem)} (h : STEP fc fm) {M : Mem} (I : INV M) {J : Mem → Option (Int32 × Mem)} (hJ : ∀ M, INV M → ∃ b, J M = some b) : ∃ b, (bd (fc M) fun v M1 => bd (fm M1) fun w M2 => if v = w then J M2 else none) = some b := by
  obtain ⟨v, M1, M2, h1, h2, I2⟩ := h M I
  obtain ⟨b, hb⟩ := hJ M2 I2
  exact ⟨b, by rw [h1, bdP, h2, bdP, if_pos rfl, hb]⟩
theorem law_p {α : Type} [DecidableEq α] {fc fm : Mem → Option α} (h : STEPp fc fm) {M : Mem} (I : INV M) {J : Mem → Option (Int32 × Mem)} (hJ : ∀ M, INV M → ∃ b, J M = some b) : ∃ b, ((fc M).bind fun v => (fm M).bind fun w => if v = w then J M else none) = some b := by
  obtain ⟨v, h1, h2⟩ := h M I
  obtain ⟨b, hb⟩ := hJ M I
  exact ⟨b, by rw [h1, sbind, h2, sbind, if_pos rfl, hb]⟩
set_option maxHeartbeats 4000000 in
theorem law_step {φ : Nat} (hφ : 30000 < φ) {xn : Nat} (hx : xn ≤ 3072) (xs : Nat → Int32) (n : Nat) {i : Int} (hi : 0 ≤ i ∧ i + 6 ≤ xn) {M : Mem} (I : INV M) (hJ : ∀ M, INV M → ∃ b, lL_law_18 φ xn xs 1000 0 146 n (iI i + 6) M = some b) : ∃ b, lL_law_18 φ xn xs 1000 0 146 (n + 1) (iI i) M = some b := by
  have h6 : ¬ ((Int32.ofNat xn) - (6 : Int32) < iI i) := by
    have e : Int32.ofNat xn = iI xn := Int32.ofInt_eq_ofNat.symm
    rw [e, k_6, iI_sub, iI_lt (by omega) (by omega)]
    omega
  have hx0 : ∀ E : Option (Int32 × Mem), ixk (iI i) xn E = E := fun E => ixkI (by omega)
  have hx1 : ∀ E : Option (Int32 × Mem), ixk (iI i + (1 : Int32)) xn E = E := fun E => by rw [k_1, iI_add]; exact ixkI (by omega)
  have hx2 : ∀ E : Option (Int32 × Mem), ixk (iI i + (2 : Int32)) xn E = E := fun E => by rw [k_2, iI_add]; exact ixkI (by omega)
  have hx3 : ∀ E : Option (Int32 × Mem), ixk (iI i + (3 : Int32)) xn E = E := fun E => by rw [k_3, iI_add]; exact ixkI (by omega)
  have hx4 : ∀ E : Option (Int32 × Mem), ixk (iI i + (4 : Int32)) xn E = E := fun E => by rw [k_4, iI_add]; exact ixkI (by omega)
  have hx5 : ∀ E : Option (Int32 × Mem), ixk (iI i + (5 : Int32)) xn E = E := fun E => by rw [k_5, iI_add]; exact ixkI (by omega)
  rw [lL_law_18_s, if_neg h6, hx0, jn_eq]
  by_cases q0 : ((xs (iI i).toNatClampNeg) &&& (63 : Int32)) = 0
  · rw [if_pos q0]; exact law_p (n_status) I hJ
  rw [if_neg q0]
  by_cases q1 : ((xs (iI i).toNatClampNeg) &&& (63 : Int32)) = 1
  · rw [if_pos q1]; exact law_p (n_top) I hJ
  rw [if_neg q1]
  by_cases q2 : ((xs (iI i).toNatClampNeg) &&& (63 : Int32)) = 2
  · rw [if_pos q2]; exact law_p (n_bottom) I hJ
  rw [if_neg q2]
  by_cases q3 : ((xs (iI i).toNatClampNeg) &&& (63 : Int32)) = 3
  · rw [if_pos q3]; simp only [hx1, hx2, hx3]; exact law_b (n_tray hφ _ _ _) I hJ
  rw [if_neg q3]
  by_cases q4 : ((xs (iI i).toNatClampNeg) &&& (63 : Int32)) = 4
  · rw [if_pos q4]; simp only [hx1, hx2, hx3, hx4]; exact law_b (n_write _ _ _) I hJ
  rw [if_neg q4]
  by_cases q5 : ((xs (iI i).toNatClampNeg) &&& (63 : Int32)) = 5
  · rw [if_pos q5]; simp only [hx1, hx2]; exact law_b (n_read _ _) I hJ
  rw [if_neg q5]
  by_cases q6 : ((xs (iI i).toNatClampNeg) &&& (63 : Int32)) = 6
  · rw [if_pos q6]; simp only [hx1, hx2, hx3, hx4, hx5]; exact law_b (n_pour hφ _ _ _ _ _) I hJ
  rw [if_neg q6]
  by_cases q7 : ((xs (iI i).toNatClampNeg) &&& (63 : Int32)) = 7
  · rw [if_pos q7]; simp only [hx1, hx2, hx3, hx4, hx5]; exact law_b (n_feed hφ _ _ _ _ _) I hJ
  rw [if_neg q7]
  by_cases q8 : ((xs (iI i).toNatClampNeg) &&& (63 : Int32)) = 8
  · rw [if_pos q8]; simp only [hx1]; exact law_b (n_field hφ _) I hJ
  rw [if_neg q8]
  by_cases q9 : ((xs (iI i).toNatClampNeg) &&& (63 : Int32)) = 9
  · rw [if_pos q9]; simp only [hx1]; exact law_b (n_years hφ _) I hJ
  rw [if_neg q9]
  by_cases q10 : ((xs (iI i).toNatClampNeg) &&& (63 : Int32)) = 10
  · rw [if_pos q10]; simp only [hx1]; exact law_p (n_fault _) I hJ
  rw [if_neg q10]
  by_cases q11 : ((xs (iI i).toNatClampNeg) &&& (63 : Int32)) = 11
  · rw [if_pos q11]; simp only [hx1]; exact law_b (n_told _) I hJ
  rw [if_neg q11]
  by_cases q12 : ((xs (iI i).toNatClampNeg) &&& (63 : Int32)) = 12
  · rw [if_pos q12]; simp only [hx1]; exact law_b (n_skip _) I hJ
  rw [if_neg q12]
  by_cases q13 : ((xs (iI i).toNatClampNeg) &&& (63 : Int32)) = 13
  · rw [if_pos q13]; simp only [hx1, hx2]; exact law_b (n_unlike _ _) I hJ
  rw [if_neg q13]
  by_cases q14 : ((xs (iI i).toNatClampNeg) &&& (63 : Int32)) = 14
  · rw [if_pos q14]; simp only [hx1, hx2]; exact law_b (n_hole hφ _ _) I hJ
  rw [if_neg q14]
  by_cases q15 : ((xs (iI i).toNatClampNeg) &&& (63 : Int32)) = 15
  · rw [if_pos q15]; simp only [hx1, hx2, hx3]; exact law_b (n_layer hφ _ _ _) I hJ
  rw [if_neg q15]
  by_cases q16 : ((xs (iI i).toNatClampNeg) &&& (63 : Int32)) = 16
  · rw [if_pos q16]; simp only [hx1, hx2]; exact law_b (n_layerAt hφ _ _) I hJ
  rw [if_neg q16]
  by_cases q17 : ((xs (iI i).toNatClampNeg) &&& (63 : Int32)) = 17
  · rw [if_pos q17]; simp only [hx1, hx2]; exact law_b (n_side _ _) I hJ
  rw [if_neg q17]
  by_cases q18 : ((xs (iI i).toNatClampNeg) &&& (63 : Int32)) = 18
  · rw [if_pos q18]; simp only [hx1, hx2]; exact law_b (n_match hφ _ _) I hJ
  rw [if_neg q18]
  by_cases q19 : ((xs (iI i).toNatClampNeg) &&& (63 : Int32)) = 19
  · rw [if_pos q19]; simp only [hx1]; exact law_b (n_pairOf _) I hJ
  rw [if_neg q19]
  by_cases q20 : ((xs (iI i).toNatClampNeg) &&& (63 : Int32)) = 20
  · rw [if_pos q20]; exact law_b (n_pairs) I hJ
  rw [if_neg q20]
  by_cases q21 : ((xs (iI i).toNatClampNeg) &&& (63 : Int32)) = 21
  · rw [if_pos q21]; simp only [hx1, hx2]; exact law_b (n_tree hφ _ _) I hJ
  rw [if_neg q21]
  by_cases q22 : ((xs (iI i).toNatClampNeg) &&& (63 : Int32)) = 22
  · rw [if_pos q22]; exact law_b (n_treeCost hφ) I hJ
  rw [if_neg q22]
  by_cases q23 : ((xs (iI i).toNatClampNeg) &&& (63 : Int32)) = 23
  · rw [if_pos q23]; exact law_b (n_beds hφ) I hJ
  rw [if_neg q23]
  by_cases q24 : ((xs (iI i).toNatClampNeg) &&& (63 : Int32)) = 24
  · rw [if_pos q24]; simp only [hx1, hx2]; exact law_b (n_bedOf hφ _ _) I hJ
  rw [if_neg q24]
  by_cases q25 : ((xs (iI i).toNatClampNeg) &&& (63 : Int32)) = 25
  · rw [if_pos q25]; simp only [hx1]; exact law_b (n_holesOf hφ _) I hJ
  rw [if_neg q25]
  by_cases q26 : ((xs (iI i).toNatClampNeg) &&& (63 : Int32)) = 26
  · rw [if_pos q26]; simp only [hx1, hx2, hx3]; exact law_b (n_bed hφ _ _ _) I hJ
  rw [if_neg q26]
  by_cases q27 : ((xs (iI i).toNatClampNeg) &&& (63 : Int32)) = 27
  · rw [if_pos q27]; simp only [hx1, hx2]; exact law_b (n_above hφ _ _) I hJ
  rw [if_neg q27]
  by_cases q28 : ((xs (iI i).toNatClampNeg) &&& (63 : Int32)) = 28
  · rw [if_pos q28]; simp only [hx1]; exact law_b (n_order hφ _) I hJ
  rw [if_neg q28]
  by_cases q29 : ((xs (iI i).toNatClampNeg) &&& (63 : Int32)) = 29
  · rw [if_pos q29]; exact law_b (n_widest hφ) I hJ
  rw [if_neg q29]
  by_cases q30 : ((xs (iI i).toNatClampNeg) &&& (63 : Int32)) = 30
  · rw [if_pos q30]; simp only [hx1]; exact law_b (n_area hφ _) I hJ
  rw [if_neg q30]
  by_cases q31 : ((xs (iI i).toNatClampNeg) &&& (63 : Int32)) = 31
  · rw [if_pos q31]; simp only [hx1]; exact law_b (n_across hφ _) I hJ
  rw [if_neg q31]
  by_cases q32 : ((xs (iI i).toNatClampNeg) &&& (63 : Int32)) = 32
  · rw [if_pos q32]; simp only [hx1, hx2]; exact law_b (n_triangleAt hφ _ _) I hJ
  rw [if_neg q32]
  by_cases q33 : ((xs (iI i).toNatClampNeg) &&& (63 : Int32)) = 33
  · rw [if_pos q33]; simp only [hx1, hx2, hx3]; exact law_b (n_topAt hφ _ _ _) I hJ
  rw [if_neg q33]
  by_cases q34 : ((xs (iI i).toNatClampNeg) &&& (63 : Int32)) = 34
  · rw [if_pos q34]; simp only [hx1, hx2, hx3]; exact law_b (n_thickAt hφ _ _ _) I hJ
  rw [if_neg q34]
  by_cases q35 : ((xs (iI i).toNatClampNeg) &&& (63 : Int32)) = 35
  · rw [if_pos q35]; simp only [hx1, hx2]; exact law_b (n_volume hφ _ _) I hJ
  rw [if_neg q35]
  by_cases q36 : ((xs (iI i).toNatClampNeg) &&& (63 : Int32)) = 36
  · rw [if_pos q36]; simp only [hx1]; exact law_b (n_volumeOf hφ _) I hJ
  rw [if_neg q36]
  by_cases q37 : ((xs (iI i).toNatClampNeg) &&& (63 : Int32)) = 37
  · rw [if_pos q37]; simp only [hx1, hx2, hx3]; exact law_b (n_tilt hφ _ _ _) I hJ
  rw [if_neg q37]
  by_cases q38 : ((xs (iI i).toNatClampNeg) &&& (63 : Int32)) = 38
  · rw [if_pos q38]; simp only [hx1]; exact law_b (n_deepest hφ _) I hJ
  rw [if_neg q38]
  by_cases q39 : ((xs (iI i).toNatClampNeg) &&& (63 : Int32)) = 39
  · rw [if_pos q39]; simp only [hx1, hx2]; exact law_b (n_shared hφ _ _) I hJ
  rw [if_neg q39]
  by_cases q40 : ((xs (iI i).toNatClampNeg) &&& (63 : Int32)) = 40
  · rw [if_pos q40]; simp only [hx1]; exact law_b (n_gaps hφ _) I hJ
  rw [if_neg q40]
  by_cases q41 : ((xs (iI i).toNatClampNeg) &&& (63 : Int32)) = 41
  · rw [if_pos q41]; simp only [hx1, hx2]; exact law_b (n_draws hφ _ _) I hJ
  rw [if_neg q41]
  by_cases q42 : ((xs (iI i).toNatClampNeg) &&& (63 : Int32)) = 42
  · rw [if_pos q42]; simp only [hx1, hx2, hx3, hx4]; exact law_b (n_picks hφ _ _ _ _) I hJ
  rw [if_neg q42]
  by_cases q43 : ((xs (iI i).toNatClampNeg) &&& (63 : Int32)) = 43
  · rw [if_pos q43]; simp only [hx1]; exact law_b (n_pickAt _) I hJ
  rw [if_neg q43]
  by_cases q44 : ((xs (iI i).toNatClampNeg) &&& (63 : Int32)) = 44
  · rw [if_pos q44]; simp only [hx1, hx2]; exact law_b (n_fill hφ _ _) I hJ
  rw [if_neg q44]
  by_cases q45 : ((xs (iI i).toNatClampNeg) &&& (63 : Int32)) = 45
  · rw [if_pos q45]; simp only [hx1, hx2]; exact law_b (n_runs hφ _ _) I hJ
  rw [if_neg q45]
  by_cases q46 : ((xs (iI i).toNatClampNeg) &&& (63 : Int32)) = 46
  · rw [if_pos q46]; simp only [hx1, hx2, hx3]; exact law_b (n_agrees hφ _ _ _) I hJ
  rw [if_neg q46]
  by_cases q47 : ((xs (iI i).toNatClampNeg) &&& (63 : Int32)) = 47
  · rw [if_pos q47]; simp only [hx1, hx2, hx3, hx4]; exact law_b (n_shift hφ _ _ _ _) I hJ
  rw [if_neg q47]
  by_cases q48 : ((xs (iI i).toNatClampNeg) &&& (63 : Int32)) = 48
  · rw [if_pos q48]; simp only [hx1, hx2]; exact law_b (n_likest hφ _ _) I hJ
  rw [if_neg q48]
  by_cases q49 : ((xs (iI i).toNatClampNeg) &&& (63 : Int32)) = 49
  · rw [if_pos q49]; simp only [hx1, hx2, hx3]; exact law_b (n_lay hφ _ _ _) I hJ
  rw [if_neg q49]
  by_cases q50 : ((xs (iI i).toNatClampNeg) &&& (63 : Int32)) = 50
  · rw [if_pos q50]; simp only [hx1, hx2]; exact law_b (n_wear hφ _ _) I hJ
  rw [if_neg q50]
  by_cases q51 : ((xs (iI i).toNatClampNeg) &&& (63 : Int32)) = 51
  · rw [if_pos q51]; simp only [hx1, hx2]; exact law_b (n_throwing _ _) I hJ
  rw [if_neg q51]
  by_cases q52 : ((xs (iI i).toNatClampNeg) &&& (63 : Int32)) = 52
  · rw [if_pos q52]; simp only [hx1]; exact law_b (n_live hφ _) I hJ
  rw [if_neg q52]
  by_cases q53 : ((xs (iI i).toNatClampNeg) &&& (63 : Int32)) = 53
  · rw [if_pos q53]; simp only [hx1]; exact law_b (n_lived _) I hJ
  rw [if_neg q53]
  by_cases q54 : ((xs (iI i).toNatClampNeg) &&& (63 : Int32)) = 54
  · rw [if_pos q54]; simp only [hx1, hx2, hx3, hx4]; exact law_b (n_odds hφ _ _ _ _) I hJ
  rw [if_neg q54]
  by_cases q55 : ((xs (iI i).toNatClampNeg) &&& (63 : Int32)) = 55
  · rw [if_pos q55]; exact law_b (n_mark hφ) I hJ
  rw [if_neg q55]
  by_cases q56 : ((xs (iI i).toNatClampNeg) &&& (63 : Int32)) = 56
  · rw [if_pos q56]; exact law_b (n_back hφ) I hJ
  rw [if_neg q56]
  exact hJ M I
theorem law_loop {φ : Nat} (hφ : 30000 < φ) {xn : Nat} (hx : xn ≤ 3072) (xs : Nat → Int32) : ∀ (n : Nat) (i : Int), 0 ≤ i → i ≤ xn → (xn : Int) < i + 6 * n → ∀ M, INV M → ∃ b, lL_law_18 φ xn xs 1000 0 146 n (iI i) M = some b := by
  intro n
  induction n with
  | zero =>
    intro i i0 i1 h M I
    omega
  | succ n ih =>
    intro i i0 i1 h M I
    by_cases q : i + 6 ≤ xn
    · refine law_step hφ hx xs n ⟨i0, q⟩ I (fun M I => ?_)
      rw [k_6, iI_add]
      exact ih (i + 6) (by omega) (by omega) (by omega) M I
    · have h6 : (Int32.ofNat xn) - (6 : Int32) < iI i := by
        have e : Int32.ofNat xn = iI xn := Int32.ofInt_eq_ofNat.symm
        rw [e, k_6, iI_sub, iI_lt (by omega) (by omega)]
        omega
      exact ⟨_, by rw [lL_law_18_s, if_pos h6]⟩
