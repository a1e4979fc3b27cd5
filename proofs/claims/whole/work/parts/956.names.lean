/-! names: looked up on both sides -/
def fN (a : Int → Int) (N c : Int) : Int := ff (fun r => a r == c) N 0
def WN (F : Fld) (nm : NMs) : Prop := (∀ r, 0 ≤ r → r < F 0 0 0 → okN (nm 0 r)) ∧ (∀ r, 0 ≤ r → r < F 0 1 0 → okN (nm 1 r)) ∧ ∀ r, 0 ≤ r → r < F 0 3 0 → okN (nm 2 r)
theorem fN_bd (a : Int → Int) {N c : Int} (hN : 0 ≤ N) : (fN a N c = -1 ∧ ∀ r, 0 ≤ r → r < N → a r ≠ c) ∨ (0 ≤ fN a N c ∧ fN a N c < N ∧ a (fN a N c) = c) := by
  rcases ff_rng (fun r => a r == c) N 0 (by omega) hN with ⟨h, h2⟩ | ⟨h0, h1, h2, h3⟩
  · exact Or.inl ⟨h, fun r r0 r1 q => by
      have := h2 r r0 r1
      rw [q, beq_self_eq_true] at this
      cases this⟩
  · exact Or.inr ⟨h0, h1, eq_of_beq h2⟩
theorem fN_no {a : Int → Int} {N n : Int} {T : Tk} (hN : 0 ≤ N) (ha : ∀ r, 0 ≤ r → r < N → okN (a r)) (w : WTk n T) (h : isNm T = false) : fN a N T.2.2.2.2 = -1 := by
  rcases fN_bd a (c := T.2.2.2.2) hN with ⟨q, _⟩ | ⟨q0, q1, q2⟩
  · exact q
  · exfalso
    have ok := ha _ q0 q1
    rw [q2] at ok
    have hb := ok.1.bd
    have w9 := w.2.2.2.2.2.2.2.2.1 (by omega)
    have : isNm T = true := decide_eq_true ⟨w9.1, by rw [w9.2.2]; exact ok.2, by omega⟩
    rw [h] at this
    cases this
theorem isNm_t {n : Int} {T : Tk} (w : WTk n T) (h : isNm T = true) : T.1 = 1 ∧ T.2.2.2.2 ≠ 0 ∧ okN T.2.2.2.2 := by
  have h : T.1 = 1 ∧ T.2.2.1 = -1 ∧ T.2.2.2.2 ≠ 0 := of_decide_eq_true h
  have w9 := w.2.2.2.2.2.2.2.2.1 h.2.2
  exact ⟨h.1, h.2.2, w9.2.1, by rw [← w9.2.2]; exact h.2.1⟩
section NQ
variable {g m : Nat} {F : Fld} {nm : NMs} {M : Mem} {B : Int → Int} {n p : Int}
theorem c_place {k : Nat} {cell : Nat} {a : Int → Int} {N c : Int} (hk : k < 1000) (hN : N ≤ (k : Int)) (hc : 0 ≤ c ∧ c < 1099511627777) (ha : ∀ r, 0 ≤ r → r < N → okN (a r)) (hM : ∀ r : Int, 0 ≤ r → r < N → M.2.1 cell r.toNat = lI (a r)) : ∀ (d : Nat) (i : Int), N - i = d → 0 ≤ i → ∀ j, d < j → lX2_placeOf_3 k (lI c) cell (iI N) M j (iI i) = some (iI (ff (fun r => a r == c) N i)) := by
  have zm : (-1 : Int32) = iI (-1) := rfl
  intro d
  induction d with
  | zero =>
    intro i hd hi j hj
    obtain ⟨j, rfl⟩ : ∃ q, j = q + 1 := ⟨j - 1, by omega⟩
    rw [ff_e' _ (by omega), lX2_placeOf_3]
    simp (disch := omega) only [iI_add, iI_sub, iI_mul, iI_neg, iI_nat, addm1, ixkI, ↓sbind, sbind, ↓bdS, bdS, ↓nm_eq, ↓jn_eq, iI_lt, iI_le, iI_eq, k_0, k_1, k_2, k_3, k_4, k_5, k_6, k_7, k_8, k_9, k_10, k_11, k_12, k_13, k_14, k_15, k_16, k_17, k_18, k_19, k_20, k_21, k_22, k_23, k_24, k_27, k_30, k_32, k_48, k_57, k_59, k_60, k_61, k_62, k_63, k_64, k_72, k_78, k_80, k_82, k_97, k_99, k_100, k_122, k_244, k_255, k_268, k_280, k_300, k_432, k_650, k_900, k_901, k_999, k_1700, k_2600, k_2601, k_2602, k_2603, k_2604, k_2610, k_2618, k_2682, k_2777, k_2844, k_2868, k_2880, k_3245, k_3250, k_9551, k_9999, k_65536, k_100000, k_999999, k_1000000, k_2147483647, lt_T, lt_F, le_T, le_F, eq_T, eq_F, ↓reduceIte, not_true_eq_false, not_false_eq_true, or_true, or_false, true_or, false_or, and_true, true_and, and_false, false_and, zm]
  | succ d ih =>
    intro i hd hi j hj
    obtain ⟨j, rfl⟩ : ∃ q, j = q + 1 := ⟨j - 1, by omega⟩
    have e1 := hM i hi (by omega)
    have b1 := (ha i hi (by omega)).1.bd
    by_cases h : a i = c
    · rw [ff_t (by omega) (by show (a i == c) = true; rw [h, beq_self_eq_true]), lX2_placeOf_3]
      simp (disch := omega) only [iI_add, iI_sub, iI_mul, iI_neg, iI_nat, addm1, ixkI, ↓sbind, sbind, ↓bdS, bdS, ↓nm_eq, ↓jn_eq, iI_lt, iI_le, iI_eq, k_0, k_1, k_2, k_3, k_4, k_5, k_6, k_7, k_8, k_9, k_10, k_11, k_12, k_13, k_14, k_15, k_16, k_17, k_18, k_19, k_20, k_21, k_22, k_23, k_24, k_27, k_30, k_32, k_48, k_57, k_59, k_60, k_61, k_62, k_63, k_64, k_72, k_78, k_80, k_82, k_97, k_99, k_100, k_122, k_244, k_255, k_268, k_280, k_300, k_432, k_650, k_900, k_901, k_999, k_1700, k_2600, k_2601, k_2602, k_2603, k_2604, k_2610, k_2618, k_2682, k_2777, k_2844, k_2868, k_2880, k_3245, k_3250, k_9551, k_9999, k_65536, k_100000, k_999999, k_1000000, k_2147483647, lI_add, lI_sub, lI_mul, lI_neg, lI_lt, lI_le, lI_eq, iI_l, kl_0, kl_1, kl_2, kl_6, kl_9, kl_10, kl_32, kl_99, kl_999, kl_9999, kl_999999, lt_T, lt_F, le_T, le_F, eq_T, eq_F, ↓reduceIte, not_true_eq_false, not_false_eq_true, or_true, or_false, true_or, false_or, and_true, true_and, and_false, false_and, e1, h]
    · rw [ff_f (by omega) (by show (a i == c) = false; exact beq_eq_false_iff_ne.mpr h), lX2_placeOf_3]
      have r1 := ih (i + 1) (by omega) (by omega) j (by omega)
      simp (disch := omega) only [iI_add, iI_sub, iI_mul, iI_neg, iI_nat, addm1, ixkI, ↓sbind, sbind, ↓bdS, bdS, ↓nm_eq, ↓jn_eq, iI_lt, iI_le, iI_eq, k_0, k_1, k_2, k_3, k_4, k_5, k_6, k_7, k_8, k_9, k_10, k_11, k_12, k_13, k_14, k_15, k_16, k_17, k_18, k_19, k_20, k_21, k_22, k_23, k_24, k_27, k_30, k_32, k_48, k_57, k_59, k_60, k_61, k_62, k_63, k_64, k_72, k_78, k_80, k_82, k_97, k_99, k_100, k_122, k_244, k_255, k_268, k_280, k_300, k_432, k_650, k_900, k_901, k_999, k_1700, k_2600, k_2601, k_2602, k_2603, k_2604, k_2610, k_2618, k_2682, k_2777, k_2844, k_2868, k_2880, k_3245, k_3250, k_9551, k_9999, k_65536, k_100000, k_999999, k_1000000, k_2147483647, lI_add, lI_sub, lI_mul, lI_neg, lI_lt, lI_le, lI_eq, iI_l, kl_0, kl_1, kl_2, kl_6, kl_9, kl_10, kl_32, kl_99, kl_999, kl_9999, kl_999999, lt_T, lt_F, le_T, le_F, eq_T, eq_F, ↓reduceIte, not_true_eq_false, not_false_eq_true, or_true, or_false, true_or, false_or, and_true, true_and, and_false, false_and, e1, r1]
theorem c_rockNamed (w : WF F) (G : GR g F M) (hn : NCn g F nm M) (wn : WN F nm) {c : Int} (hc : 0 ≤ c ∧ c < 1099511627777) {φ : Nat} (hφ : 100 < φ) : fX2_rockNamed φ g (lI c) M = some (iI (fN (nm 0) (F 0 0 0) c)) := by
  have w0 := w.n0
  have r1 := c_place (M := M) (k := 8) (cell := g + 1) (by omega) (by omega) hc wn.1 hn.1 (F 0 0 0).toNat 0 (by omega) (by omega) φ (by omega)
  unfold fX2_rockNamed fX2_placeOf
  rw [G.n0, k_0, r1, sbind]
  rfl
theorem c_holeNamed (w : WF F) (G : GR g F M) (hn : NCn g F nm M) (wn : WN F nm) {c : Int} (hc : 0 ≤ c ∧ c < 1099511627777) {φ : Nat} (hφ : 100 < φ) : fX2_holeNamed φ g (lI c) M = some (iI (fN (nm 1) (F 0 1 0) c)) := by
  have w0 := w.n1
  have r1 := c_place (M := M) (k := 6) (cell := g + 4) (by omega) (by omega) hc wn.2.1 hn.2.1 (F 0 1 0).toNat 0 (by omega) (by omega) φ (by omega)
  unfold fX2_holeNamed fX2_placeOf
  rw [G.n1, k_0, r1, sbind]
  rfl
theorem c_faultNamed (w : WF F) (G : GR g F M) (hn : NCn g F nm M) (wn : WN F nm) {c : Int} (hc : 0 ≤ c ∧ c < 1099511627777) {φ : Nat} (hφ : 100 < φ) : fX2_faultNamed φ g (lI c) M = some (iI (fN (nm 2) (F 0 3 0) c)) := by
  have w0 := w.n3
  have r1 := c_place (M := M) (k := 2) (cell := g + 11) (by omega) (by omega) hc wn.2.2 hn.2.2 (F 0 3 0).toNat 0 (by omega) (by omega) φ (by omega)
  unfold fX2_faultNamed fX2_placeOf
  rw [G.n3, k_0, r1, sbind]
  rfl
/-- a name that nothing bears yet -/
def isFree (F : Fld) (nm : NMs) (c : Int) : Bool := decide (fN (nm 0) (F 0 0 0) c = -1 ∧ fN (nm 1) (F 0 1 0) c = -1 ∧ fN (nm 2) (F 0 3 0) c = -1)
theorem fN_b (a : Int → Int) {N c : Int} (hN : 0 ≤ N ∧ N ≤ 100) : -1 ≤ fN a N c ∧ fN a N c < 100 := by
  rcases fN_bd a (c := c) hN.1 with ⟨q, _⟩ | ⟨q0, q1, q2⟩ <;> omega
theorem c_taken (w : WF F) (G : GR g F M) (hn : NCn g F nm M) (wn : WN F nm) {c : Int} (hc : 0 ≤ c ∧ c < 1099511627777) {φ : Nat} (hφ : 100 < φ) : fX2_isTakenName φ g (lI c) M = some (bI (!isFree F nm c)) := by
  have w0 := w.n0
  have w1 := w.n1
  have w3 := w.n3
  have b0 := fN_b (nm 0) (N := F 0 0 0) (c := c) (by omega)
  have b1 := fN_b (nm 1) (N := F 0 1 0) (c := c) (by omega)
  have b3 := fN_b (nm 2) (N := F 0 3 0) (c := c) (by omega)
  have zm : (-1 : Int32) = iI (-1) := rfl
  unfold fX2_isTakenName isFree
  rw [c_rockNamed w G hn wn hc hφ, c_holeNamed w G hn wn hc hφ, c_faultNamed w G hn wn hc hφ]
  by_cases h0 : fN (nm 0) (F 0 0 0) c = -1
  · by_cases h1 : fN (nm 1) (F 0 1 0) c = -1
    · by_cases h3 : fN (nm 2) (F 0 3 0) c = -1
      · rw [decide_eq_true ⟨h0, h1, h3⟩]
        simp (disch := omega) only [iI_add, iI_sub, iI_mul, iI_neg, iI_nat, addm1, ixkI, ↓sbind, sbind, ↓bdS, bdS, ↓nm_eq, ↓jn_eq, iI_lt, iI_le, iI_eq, k_0, k_1, k_2, k_3, k_4, k_5, k_6, k_7, k_8, k_9, k_10, k_11, k_12, k_13, k_14, k_15, k_16, k_17, k_18, k_19, k_20, k_21, k_22, k_23, k_24, k_27, k_30, k_32, k_48, k_57, k_59, k_60, k_61, k_62, k_63, k_64, k_72, k_78, k_80, k_82, k_97, k_99, k_100, k_122, k_244, k_255, k_268, k_280, k_300, k_432, k_650, k_900, k_901, k_999, k_1700, k_2600, k_2601, k_2602, k_2603, k_2604, k_2610, k_2618, k_2682, k_2777, k_2844, k_2868, k_2880, k_3245, k_3250, k_9551, k_9999, k_65536, k_100000, k_999999, k_1000000, k_2147483647, lt_T, lt_F, le_T, le_F, eq_T, eq_F, ↓reduceIte, not_true_eq_false, not_false_eq_true, or_true, or_false, true_or, false_or, and_true, true_and, and_false, false_and, zm, h0, h1, h3]
        rfl
      · rw [decide_eq_false (fun z => h3 z.2.2)]
        simp (disch := omega) only [iI_add, iI_sub, iI_mul, iI_neg, iI_nat, addm1, ixkI, ↓sbind, sbind, ↓bdS, bdS, ↓nm_eq, ↓jn_eq, iI_lt, iI_le, iI_eq, k_0, k_1, k_2, k_3, k_4, k_5, k_6, k_7, k_8, k_9, k_10, k_11, k_12, k_13, k_14, k_15, k_16, k_17, k_18, k_19, k_20, k_21, k_22, k_23, k_24, k_27, k_30, k_32, k_48, k_57, k_59, k_60, k_61, k_62, k_63, k_64, k_72, k_78, k_80, k_82, k_97, k_99, k_100, k_122, k_244, k_255, k_268, k_280, k_300, k_432, k_650, k_900, k_901, k_999, k_1700, k_2600, k_2601, k_2602, k_2603, k_2604, k_2610, k_2618, k_2682, k_2777, k_2844, k_2868, k_2880, k_3245, k_3250, k_9551, k_9999, k_65536, k_100000, k_999999, k_1000000, k_2147483647, lt_T, lt_F, le_T, le_F, eq_T, eq_F, ↓reduceIte, not_true_eq_false, not_false_eq_true, or_true, or_false, true_or, false_or, and_true, true_and, and_false, false_and, zm, h0, h1]
        rfl
    · rw [decide_eq_false (fun z => h1 z.2.1)]
      simp (disch := omega) only [iI_add, iI_sub, iI_mul, iI_neg, iI_nat, addm1, ixkI, ↓sbind, sbind, ↓bdS, bdS, ↓nm_eq, ↓jn_eq, iI_lt, iI_le, iI_eq, k_0, k_1, k_2, k_3, k_4, k_5, k_6, k_7, k_8, k_9, k_10, k_11, k_12, k_13, k_14, k_15, k_16, k_17, k_18, k_19, k_20, k_21, k_22, k_23, k_24, k_27, k_30, k_32, k_48, k_57, k_59, k_60, k_61, k_62, k_63, k_64, k_72, k_78, k_80, k_82, k_97, k_99, k_100, k_122, k_244, k_255, k_268, k_280, k_300, k_432, k_650, k_900, k_901, k_999, k_1700, k_2600, k_2601, k_2602, k_2603, k_2604, k_2610, k_2618, k_2682, k_2777, k_2844, k_2868, k_2880, k_3245, k_3250, k_9551, k_9999, k_65536, k_100000, k_999999, k_1000000, k_2147483647, lt_T, lt_F, le_T, le_F, eq_T, eq_F, ↓reduceIte, not_true_eq_false, not_false_eq_true, or_true, or_false, true_or, false_or, and_true, true_and, and_false, false_and, zm, h0]
      rfl
  · rw [decide_eq_false (fun z => h0 z.1)]
    simp (disch := omega) only [iI_add, iI_sub, iI_mul, iI_neg, iI_nat, addm1, ixkI, ↓sbind, sbind, ↓bdS, bdS, ↓nm_eq, ↓jn_eq, iI_lt, iI_le, iI_eq, k_0, k_1, k_2, k_3, k_4, k_5, k_6, k_7, k_8, k_9, k_10, k_11, k_12, k_13, k_14, k_15, k_16, k_17, k_18, k_19, k_20, k_21, k_22, k_23, k_24, k_27, k_30, k_32, k_48, k_57, k_59, k_60, k_61, k_62, k_63, k_64, k_72, k_78, k_80, k_82, k_97, k_99, k_100, k_122, k_244, k_255, k_268, k_280, k_300, k_432, k_650, k_900, k_901, k_999, k_1700, k_2600, k_2601, k_2602, k_2603, k_2604, k_2610, k_2618, k_2682, k_2777, k_2844, k_2868, k_2880, k_3245, k_3250, k_9551, k_9999, k_65536, k_100000, k_999999, k_1000000, k_2147483647, lt_T, lt_F, le_T, le_F, eq_T, eq_F, ↓reduceIte, not_true_eq_false, not_false_eq_true, or_true, or_false, true_or, false_or, and_true, true_and, and_false, false_and, zm]
    rfl
theorem m_name_l (hn : 0 ≤ n ∧ n ≤ 900) (h11 : M.1 m 11 = iI n) (hB : ∀ k, -128 ≤ B k ∧ B k ≤ 127) (hT : TX (m + 7) B n M) {s e : Int} (h14 : M.1 m 14 = iI e) (hs : 0 ≤ s) (he : e ≤ n) (h8 : e - s ≤ 8) (hL : LD (fun k => B (s + k)) (e - s).toNat) : ∀ (d : Nat) (i : Int), e - i = d → s ≤ i → ∀ k, d < k → lX11_nameHere_7 m M k (lI (bcN (fun k => B (s + k)) (i - s).toNat)) (iI i) = some (lI (bcN (fun k => B (s + k)) (e - s).toNat)) := by
  intro d
  induction d with
  | zero =>
    intro i hd hi k hk
    obtain ⟨k, rfl⟩ : ∃ q, k = q + 1 := ⟨k - 1, by omega⟩
    rw [show i = e from by omega, lX11_nameHere_7]
    simp (disch := omega) only [iI_add, iI_sub, iI_mul, iI_neg, iI_nat, addm1, ixkI, ↓sbind, sbind, ↓bdS, bdS, ↓nm_eq, ↓jn_eq, iI_lt, iI_le, iI_eq, k_0, k_1, k_2, k_3, k_4, k_5, k_6, k_7, k_8, k_9, k_10, k_11, k_12, k_13, k_14, k_15, k_16, k_17, k_18, k_19, k_20, k_21, k_22, k_23, k_24, k_27, k_30, k_32, k_48, k_57, k_59, k_60, k_61, k_62, k_63, k_64, k_72, k_78, k_80, k_82, k_97, k_99, k_100, k_122, k_244, k_255, k_268, k_280, k_300, k_432, k_650, k_900, k_901, k_999, k_1700, k_2600, k_2601, k_2602, k_2603, k_2604, k_2610, k_2618, k_2682, k_2777, k_2844, k_2868, k_2880, k_3245, k_3250, k_9551, k_9999, k_65536, k_100000, k_999999, k_1000000, k_2147483647, lt_T, lt_F, le_T, le_F, eq_T, eq_F, ↓reduceIte, not_true_eq_false, not_false_eq_true, or_true, or_false, true_or, false_or, and_true, true_and, and_false, false_and, h14]
  | succ d ih =>
    intro i hd hi k hk
    obtain ⟨k, rfl⟩ : ∃ q, k = q + 1 := ⟨k - 1, by omega⟩
    have hLi := hL (i - s).toNat (by omega)
    have hLi : 97 ≤ B (s + (((i - s).toNat : Nat) : Int)) ∧ B (s + (((i - s).toNat : Nat) : Int)) ≤ 122 := hLi
    rw [show s + (((i - s).toNat : Nat) : Int) = i from by omega] at hLi
    have e1 := m_byteAt hn h11 hB hT (k := i) (by omega)
    rw [if_pos (by omega), show b8 (B i) = B i from if_neg (by omega)] at e1
    have l1 : LD (fun k => B (s + k)) (i - s).toNat := fun j hj => hL j (by omega)
    have v0 := bc_nn _ l1
    have v1 := bc_bd _ l1
    have v2 : x8N (i - s).toNat ≤ 36028797018963968 := (by decide +kernel : ∀ k : Fin 8, x8N k.1 ≤ 36028797018963968) ⟨(i - s).toNat, by omega⟩
    have e2 := sh8 (v := bcN (fun k => B (s + k)) (i - s).toNat) (c := B i) (by omega) (by omega)
    have r1 := ih (i + 1) (by omega) (by omega) k (by omega)
    have ec : bcN (fun k => B (s + k)) ((i - s).toNat + 1) = 256 * bcN (fun k => B (s + k)) (i - s).toNat + B (s + (((i - s).toNat : Nat) : Int)) := rfl
    rw [show (i + 1 - s).toNat = (i - s).toNat + 1 from by omega, ec, show s + (((i - s).toNat : Nat) : Int) = i from by omega, ← e2] at r1
    rw [lX11_nameHere_7, h14, if_neg (by rw [iI_le (by omega) (by omega)]; omega), e1, sbind, nm_eq, k_1, iI_add]
    exact r1
theorem m_nameHere {φ : Nat} (hφ : 2000 < φ) (hn : 0 ≤ n ∧ n ≤ 900) (hB : ∀ k, -128 ≤ B k ∧ B k ≤ 127) (h : RKp m B n p M) (hm : isNm (tok B n p) = true) : fX11_nameHere φ m M = some (lI (w8 (tok B n p).2.2.2.2)) := by
  obtain ⟨⟨hp, h17⟩, h11, hT, r1, r2, r3, r4⟩ := h
  have w := wtk (B := B) hp (fun k => (hB k).2)
  obtain ⟨q1, q2, q3⟩ := isNm_t w hm
  obtain ⟨s, e, b0, b1, b2, b3, b4, b5⟩ := tok_word hp.2 q1 hp.1
  have q8 : e - s ≤ 8 := by
    by_cases z : e - s ≤ 8
    · exact z
    · rw [b5, if_neg z] at q2
      exact absurd rfl q2
  rw [if_pos q8] at b5
  rw [b1] at r2
  rw [b2] at r3
  have e1 := m_name_l (m := m) (M := M) hn h11 hB hT r3 b0.1 b0.2.2 q8 b3 (e - s).toNat s (by omega) (by omega) φ (by omega)
  rw [show (s - s).toNat = 0 from by omega] at e1
  rw [b5]
  unfold w8
  rw [w8_cd 8 _ (by omega) b3]
  unfold fX11_nameHere
  rw [r2, nm_eq]
  exact e1
theorem m_find_l {φ : Nat} {b N c : Int} {a : Int → Int} (hb : 0 ≤ b ∧ b + N ≤ 90) (ha : ∀ r, 0 ≤ r → r < N → okN (a r)) (hc : okN c) (hM : ∀ r : Int, 0 ≤ r → r < N → M.2.1 (m + 2) (b + r).toNat = lI (w8 (a r))) (hh : fX11_nameHere φ m M = some (lI (w8 c))) : ∀ (d : Nat) (i : Int), N - i = d → 0 ≤ i → ∀ j, d < j → lX11_findHere_2 φ m (iI b) (iI N) M j (iI i) = some (iI (ff (fun r => a r == c) N i)) := by
  have zm : (-1 : Int32) = iI (-1) := rfl
  have cb := hc.1.bd
  intro d
  induction d with
  | zero =>
    intro i hd hi j hj
    obtain ⟨j, rfl⟩ : ∃ q, j = q + 1 := ⟨j - 1, by omega⟩
    rw [ff_e' _ (by omega), lX11_findHere_2]
    simp (disch := omega) only [iI_add, iI_sub, iI_mul, iI_neg, iI_nat, addm1, ixkI, ↓sbind, sbind, ↓bdS, bdS, ↓nm_eq, ↓jn_eq, iI_lt, iI_le, iI_eq, k_0, k_1, k_2, k_3, k_4, k_5, k_6, k_7, k_8, k_9, k_10, k_11, k_12, k_13, k_14, k_15, k_16, k_17, k_18, k_19, k_20, k_21, k_22, k_23, k_24, k_27, k_30, k_32, k_48, k_57, k_59, k_60, k_61, k_62, k_63, k_64, k_72, k_78, k_80, k_82, k_97, k_99, k_100, k_122, k_244, k_255, k_268, k_280, k_300, k_432, k_650, k_900, k_901, k_999, k_1700, k_2600, k_2601, k_2602, k_2603, k_2604, k_2610, k_2618, k_2682, k_2777, k_2844, k_2868, k_2880, k_3245, k_3250, k_9551, k_9999, k_65536, k_100000, k_999999, k_1000000, k_2147483647, lt_T, lt_F, le_T, le_F, eq_T, eq_F, ↓reduceIte, not_true_eq_false, not_false_eq_true, or_true, or_false, true_or, false_or, and_true, true_and, and_false, false_and, zm]
  | succ d ih =>
    intro i hd hi j hj
    obtain ⟨j, rfl⟩ : ∃ q, j = q + 1 := ⟨j - 1, by omega⟩
    have e1 := hM i hi (by omega)
    have ok := ha i hi (by omega)
    have b1 := ok.1.bd
    by_cases h : a i = c
    · rw [ff_t (by omega) (by show (a i == c) = true; rw [h, beq_self_eq_true]), lX11_findHere_2]
      simp (disch := omega) only [iI_add, iI_sub, iI_mul, iI_neg, iI_nat, addm1, ixkI, ↓sbind, sbind, ↓bdS, bdS, ↓nm_eq, ↓jn_eq, iI_lt, iI_le, iI_eq, k_0, k_1, k_2, k_3, k_4, k_5, k_6, k_7, k_8, k_9, k_10, k_11, k_12, k_13, k_14, k_15, k_16, k_17, k_18, k_19, k_20, k_21, k_22, k_23, k_24, k_27, k_30, k_32, k_48, k_57, k_59, k_60, k_61, k_62, k_63, k_64, k_72, k_78, k_80, k_82, k_97, k_99, k_100, k_122, k_244, k_255, k_268, k_280, k_300, k_432, k_650, k_900, k_901, k_999, k_1700, k_2600, k_2601, k_2602, k_2603, k_2604, k_2610, k_2618, k_2682, k_2777, k_2844, k_2868, k_2880, k_3245, k_3250, k_9551, k_9999, k_65536, k_100000, k_999999, k_1000000, k_2147483647, lI_add, lI_sub, lI_mul, lI_neg, lI_lt, lI_le, lI_eq, iI_l, kl_0, kl_1, kl_2, kl_6, kl_9, kl_10, kl_32, kl_99, kl_999, kl_9999, kl_999999, lt_T, lt_F, le_T, le_F, eq_T, eq_F, ↓reduceIte, not_true_eq_false, not_false_eq_true, or_true, or_false, true_or, false_or, and_true, true_and, and_false, false_and, e1, hh, h]
    · have h2 : w8 (a i) ≠ w8 c := fun q => h (ok.1.w8i hc.1 q)
      rw [ff_f (by omega) (by show (a i == c) = false; exact beq_eq_false_iff_ne.mpr h), lX11_findHere_2]
      have r1 := ih (i + 1) (by omega) (by omega) j (by omega)
      simp (disch := omega) only [iI_add, iI_sub, iI_mul, iI_neg, iI_nat, addm1, ixkI, ↓sbind, sbind, ↓bdS, bdS, ↓nm_eq, ↓jn_eq, iI_lt, iI_le, iI_eq, k_0, k_1, k_2, k_3, k_4, k_5, k_6, k_7, k_8, k_9, k_10, k_11, k_12, k_13, k_14, k_15, k_16, k_17, k_18, k_19, k_20, k_21, k_22, k_23, k_24, k_27, k_30, k_32, k_48, k_57, k_59, k_60, k_61, k_62, k_63, k_64, k_72, k_78, k_80, k_82, k_97, k_99, k_100, k_122, k_244, k_255, k_268, k_280, k_300, k_432, k_650, k_900, k_901, k_999, k_1700, k_2600, k_2601, k_2602, k_2603, k_2604, k_2610, k_2618, k_2682, k_2777, k_2844, k_2868, k_2880, k_3245, k_3250, k_9551, k_9999, k_65536, k_100000, k_999999, k_1000000, k_2147483647, lI_add, lI_sub, lI_mul, lI_neg, lI_lt, lI_le, lI_eq, iI_l, kl_0, kl_1, kl_2, kl_6, kl_9, kl_10, kl_32, kl_99, kl_999, kl_9999, kl_999999, lt_T, lt_F, le_T, le_F, eq_T, eq_F, ↓reduceIte, not_true_eq_false, not_false_eq_true, or_true, or_false, true_or, false_or, and_true, true_and, and_false, false_and, e1, hh, r1]
theorem m_find {φ : Nat} (hφ : 2000 < φ) (hn : 0 ≤ n ∧ n ≤ 900) (hB : ∀ k, -128 ≤ B k ∧ B k ≤ 127) (h : RKp m B n p M) (hm : isNm (tok B n p) = true) {b N : Int} {a : Int → Int} (hb : 0 ≤ b ∧ b + N ≤ 90) (hN : 0 ≤ N) (ha : ∀ r, 0 ≤ r → r < N → okN (a r)) (hM : ∀ r : Int, 0 ≤ r → r < N → M.2.1 (m + 2) (b + r).toNat = lI (w8 (a r))) : fX11_findHere φ m (iI b) (iI N) M = some (iI (fN a N (tok B n p).2.2.2.2)) := by
  have w := wtk (B := B) h.1.1 (fun k => (hB k).2)
  exact m_find_l hb ha (isNm_t w hm).2.2 hM (m_nameHere hφ hn hB h hm) N.toNat 0 (by omega) (by omega) φ (by omega)
end NQ
