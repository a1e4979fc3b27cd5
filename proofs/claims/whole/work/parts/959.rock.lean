/-! a rock's row of a field -/
def u_rock (F : Fld) (s : Int) : Fld := fun k a b => if k = 0 ∧ a = 0 ∧ b = 0 then F 0 0 0 + 1 else if k = 1 ∧ a = F 0 0 0 ∧ b = 0 then s else if k = 2 ∧ ((a = F 0 0 0 ∧ 0 ≤ b ∧ b < F 0 0 0) ∨ (b = F 0 0 0 ∧ 0 ≤ a ∧ a < F 0 0 0)) then 9 else F k a b
def u_nm (nm : NMs) (j : Nat) (r c : Int) : NMs := fun k a => if k = j ∧ a = r then c else nm k a
/-- what becomes of a part of a text, on both sides -/
def Part (fc : Nat → Mem → Option (Int32 × Mem)) (fm : Nat → Mem → Option (Int32 × Mem)) (B : Int → Int) (n p : Int) (F : Fld) (nm : NMs) : Prop := (∃ fk fp, (1 ≤ fk ∧ fk ≤ 99) ∧ (∀ t ft gs M, ENV t ft gs → CSt t ft gs B n p F nm M → CFail t ft gs 13 fk fp M (fc ft M)) ∧ ∀ m M, MSt m B n p F nm M → MFail m fk fp M (fm m M)) ∨ (∃ F' nm' p', DW F' nm' ∧ p < p' ∧ p' ≤ n ∧ (∀ t ft gs M, ENV t ft gs → CSt t ft gs B n p F nm M → ∃ M1, fc ft M = some (iI 1, M1) ∧ CSt t ft gs B n p' F' nm' M1 ∧ RCw t ft gs 13 M M1) ∧ ∀ m M, MSt m B n p F nm M → ∃ M1, fm m M = some (iI 1, M1) ∧ MSt m B n p' F' nm' M1 ∧ RW m M M1)
theorem fkT_1 (T : Tk) {k : Int} (h : 1 ≤ k ∧ k ≤ 99) : 1 ≤ fkT T k ∧ fkT T k ≤ 99 := by
  unfold fkT
  split <;> omega
theorem nf_1 (b : Bool) : 1 ≤ (if b = true then (3 : Int) else 2) ∧ (if b = true then (3 : Int) else 2) ≤ 99 := by cases b <;> decide
theorem nu_1 (k : Int) : 1 ≤ (if k = 2 then (4 : Int) else 2) ∧ (if k = 2 then (4 : Int) else 2) ≤ 99 := by split <;> decide
def sem (φ m : Nat) (f : Option (Int32 × Mem)) : Option (Int32 × Mem) := bd f fun v2 M3 => if v2 = 0 then some ((0 : Int32), M3) else bd (fX11_wantSign φ m (59 : Int32) M3) fun v5 M6 => if v5 = 0 then some ((0 : Int32), M6) else some ((1 : Int32), M6)
def csm (t : Nat) (M : Mem) : Option (Int32 × Mem) := bd (fX6_passSemicolon t M) fun v M => if v = 0 ∨ v = 1 then some (v, M) else none
section RO
variable {t m ft gs g : Nat} {F F' : Fld} {nm nm' : NMs} {M : Mem} {B : Int → Int} {n p s : Int}
theorem sem_fail {fk fp : Int} {φ : Nat} {f : Option (Int32 × Mem)} (h : MFail m fk fp M f) : MFail m fk fp M (sem φ m f) := by
  obtain ⟨M1, h1, h2⟩ := h
  refine ⟨M1, ?_, h2⟩
  rw [h1]
  rfl
theorem sem_ok {φ : Nat} (hφ : 2000 < φ) (hB : HB B n) (S : MSt m B n p F nm M) : (isSg (tok B n p) 59 = true → ∃ M1, sem φ m (some (iI 1, M)) = some (iI 1, M1) ∧ MSt m B n (nx B n p) F nm M1 ∧ RW m M M1) ∧ (isSg (tok B n p) 59 = false → MFail m (fkT (tok B n p) 2) (tok B n p).2.1 M (sem φ m (some (iI 1, M)))) := by
  obtain ⟨a, b⟩ := m_wSign hφ hB.1 hB.2 S.1 S.2.2.2
  refine ⟨fun q => ?_, fun q => ?_⟩
  · obtain ⟨M1, r1, r2, r3⟩ := a q
    refine ⟨M1, ?_, S.ah r2 r3, r3.rw⟩
    unfold sem
    simp (disch := omega) only [iI_add, iI_sub, iI_mul, iI_neg, iI_nat, addm1, ixkI, ↓sbind, sbind, ↓bdS, bdS, ↓nm_eq, ↓jn_eq, iI_lt, iI_le, iI_eq, k_0, k_1, k_2, k_3, k_4, k_5, k_6, k_7, k_8, k_9, k_10, k_11, k_12, k_13, k_14, k_15, k_16, k_17, k_18, k_19, k_20, k_21, k_22, k_23, k_24, k_27, k_30, k_32, k_48, k_57, k_59, k_60, k_61, k_62, k_63, k_64, k_72, k_78, k_80, k_82, k_97, k_99, k_100, k_122, k_244, k_255, k_268, k_280, k_300, k_432, k_650, k_900, k_901, k_999, k_1700, k_2600, k_2601, k_2602, k_2603, k_2604, k_2610, k_2618, k_2682, k_2777, k_2844, k_2868, k_2880, k_3245, k_3250, k_9551, k_9999, k_65536, k_100000, k_999999, k_1000000, k_2147483647, lt_T, lt_F, le_T, le_F, eq_T, eq_F, ↓reduceIte, not_true_eq_false, not_false_eq_true, or_true, or_false, true_or, false_or, and_true, true_and, and_false, false_and, r1]
  · have e := b q
    refine MFail.of M ?_
    unfold sem
    simp (disch := omega) only [iI_add, iI_sub, iI_mul, iI_neg, iI_nat, addm1, ixkI, ↓sbind, sbind, ↓bdS, bdS, ↓nm_eq, ↓jn_eq, iI_lt, iI_le, iI_eq, k_0, k_1, k_2, k_3, k_4, k_5, k_6, k_7, k_8, k_9, k_10, k_11, k_12, k_13, k_14, k_15, k_16, k_17, k_18, k_19, k_20, k_21, k_22, k_23, k_24, k_27, k_30, k_32, k_48, k_57, k_59, k_60, k_61, k_62, k_63, k_64, k_72, k_78, k_80, k_82, k_97, k_99, k_100, k_122, k_244, k_255, k_268, k_280, k_300, k_432, k_650, k_900, k_901, k_999, k_1700, k_2600, k_2601, k_2602, k_2603, k_2604, k_2610, k_2618, k_2682, k_2777, k_2844, k_2868, k_2880, k_3245, k_3250, k_9551, k_9999, k_65536, k_100000, k_999999, k_1000000, k_2147483647, lt_T, lt_F, le_T, le_F, eq_T, eq_F, ↓reduceIte, not_true_eq_false, not_false_eq_true, or_true, or_false, true_or, false_or, and_true, true_and, and_false, false_and, e]
theorem csm_ok (hB : HB B n) (hp : 0 ≤ p ∧ p ≤ n) (e : ENV t ft gs) (S : CSt t ft gs B n p F nm M) : (isSg (tok B n p) 59 = true → ∃ M1, csm t M = some (iI 1, M1) ∧ CSt t ft gs B n (nx B n p) F nm M1 ∧ RCw t ft gs 13 M M1) ∧ (isSg (tok B n p) 59 = false → CFail t ft gs 13 (fkT (tok B n p) 2) (tok B n p).2.1 M (csm t M)) := by
  obtain ⟨a, b⟩ := c_passSemi (hB.w hp) S.1
  refine ⟨fun q => ?_, fun q => ?_⟩
  · obtain ⟨M1, r1, r2, r3⟩ := a q
    refine ⟨M1, ?_, S.go e r2 r3, r3.rw⟩
    unfold csm
    simp (disch := omega) only [iI_add, iI_sub, iI_mul, iI_neg, iI_nat, addm1, ixkI, ↓sbind, sbind, ↓bdS, bdS, ↓nm_eq, ↓jn_eq, iI_lt, iI_le, iI_eq, k_0, k_1, k_2, k_3, k_4, k_5, k_6, k_7, k_8, k_9, k_10, k_11, k_12, k_13, k_14, k_15, k_16, k_17, k_18, k_19, k_20, k_21, k_22, k_23, k_24, k_27, k_30, k_32, k_48, k_57, k_59, k_60, k_61, k_62, k_63, k_64, k_72, k_78, k_80, k_82, k_97, k_99, k_100, k_122, k_244, k_255, k_268, k_280, k_300, k_432, k_650, k_900, k_901, k_999, k_1700, k_2600, k_2601, k_2602, k_2603, k_2604, k_2610, k_2618, k_2682, k_2777, k_2844, k_2868, k_2880, k_3245, k_3250, k_9551, k_9999, k_65536, k_100000, k_999999, k_1000000, k_2147483647, lt_T, lt_F, le_T, le_F, eq_T, eq_F, ↓reduceIte, not_true_eq_false, not_false_eq_true, or_true, or_false, true_or, false_or, and_true, true_and, and_false, false_and, r1, i01_b, if_true]
  · have e := b q
    refine CFail.of M ?_
    unfold csm
    simp (disch := omega) only [iI_add, iI_sub, iI_mul, iI_neg, iI_nat, addm1, ixkI, ↓sbind, sbind, ↓bdS, bdS, ↓nm_eq, ↓jn_eq, iI_lt, iI_le, iI_eq, k_0, k_1, k_2, k_3, k_4, k_5, k_6, k_7, k_8, k_9, k_10, k_11, k_12, k_13, k_14, k_15, k_16, k_17, k_18, k_19, k_20, k_21, k_22, k_23, k_24, k_27, k_30, k_32, k_48, k_57, k_59, k_60, k_61, k_62, k_63, k_64, k_72, k_78, k_80, k_82, k_97, k_99, k_100, k_122, k_244, k_255, k_268, k_280, k_300, k_432, k_650, k_900, k_901, k_999, k_1700, k_2600, k_2601, k_2602, k_2603, k_2604, k_2610, k_2618, k_2682, k_2777, k_2844, k_2868, k_2880, k_3245, k_3250, k_9551, k_9999, k_65536, k_100000, k_999999, k_1000000, k_2147483647, lt_T, lt_F, le_T, le_F, eq_T, eq_F, ↓reduceIte, not_true_eq_false, not_false_eq_true, or_true, or_false, true_or, false_or, and_true, true_and, and_false, false_and, e, i01_a, if_true]
theorem ur_0 (F : Fld) (s : Int) : u_rock F s 0 0 0 = F 0 0 0 + 1 := if_pos ⟨rfl, rfl, rfl⟩
theorem ur_w (F : Fld) (s : Int) {w : Int} (h : w ≠ 0) : u_rock F s 0 w 0 = F 0 w 0 := by
  unfold u_rock
  rw [if_neg (fun q => h q.2.1), if_neg (fun q => by cases q.1), if_neg (fun q => by cases q.1)]
theorem ur_1R (F : Fld) (s : Int) : u_rock F s 1 (F 0 0 0) 0 = s := by
  unfold u_rock
  rw [if_neg (fun q => by cases q.1), if_pos ⟨rfl, rfl, rfl⟩]
theorem ur_1 (F : Fld) (s : Int) {r : Int} (h : r ≠ F 0 0 0) : u_rock F s 1 r 0 = F 1 r 0 := by
  unfold u_rock
  rw [if_neg (fun q => by cases q.1), if_neg (fun q => h q.2.1), if_neg (fun q => by cases q.1)]
theorem ur_2 (F : Fld) (s : Int) (a b : Int) : u_rock F s 2 a b = if (a = F 0 0 0 ∧ 0 ≤ b ∧ b < F 0 0 0) ∨ (b = F 0 0 0 ∧ 0 ≤ a ∧ a < F 0 0 0) then 9 else F 2 a b := by
  unfold u_rock
  rw [if_neg (fun q => by cases q.1), if_neg (fun q => by cases q.1)]
  by_cases h : (a = F 0 0 0 ∧ 0 ≤ b ∧ b < F 0 0 0) ∨ (b = F 0 0 0 ∧ 0 ≤ a ∧ a < F 0 0 0)
  · rw [if_pos ⟨rfl, h⟩, if_pos h]
  · rw [if_neg (fun q => h q.2), if_neg h]
theorem ur_k (F : Fld) (s : Int) {k : Nat} (h : 3 ≤ k) : u_rock F s k = F k := by
  funext a b
  unfold u_rock
  rw [if_neg (fun q => by omega), if_neg (fun q => by omega), if_neg (fun q => by omega)]
theorem WF.rock (w : WF F) (hR : F 0 0 0 < 8) (hs : 0 ≤ s ∧ s ≤ 99) (dg : ∀ a, 0 ≤ a → a < 8 → F 2 a a = 0) : WF (u_rock F s) := by
  have hst : ∀ t, s_turn (u_rock F s) t = s_turn F t := fun t => by
    unfold s_turn s_turn3
    rw [ur_k F s (k := 3) (by omega), ur_k F s (k := 6) (by omega)]
  obtain ⟨⟨n0, n1, n2, n3⟩, sk, cp, hl, ly, co, tn, fl⟩ := w
  unfold WF
  rw [ur_0, ur_w F s (w := 1) (by omega), ur_w F s (w := 2) (by omega), ur_w F s (w := 3) (by omega), ur_k F s (k := 3) (by omega), ur_k F s (k := 4) (by omega), ur_k F s (k := 5) (by omega), ur_k F s (k := 6) (by omega), ur_k F s (k := 7) (by omega)]
  refine ⟨⟨by omega, n1, n2, n3⟩, fun r a b => ?_, fun a b a0 a1 b0 b1 => ?_, hl, fun h l a b c d => ?_, co, fun t a b => by rw [hst]; exact tn t a b, fl⟩
  · by_cases q : r = F 0 0 0
    · rw [q, ur_1R]; exact hs
    · rw [ur_1 F s q]; exact sk r a (by omega)
  · refine ⟨?_, ?_, ?_⟩
    · rw [ur_2]
      split
      · omega
      · by_cases q : a = F 0 0 0
        · rw [show b = a from by omega, dg a a0 (by omega)]; omega
        · exact (cp a b a0 (by omega) b0 (by omega)).1
    · rw [ur_2]
      split
      · omega
      · by_cases q : a = F 0 0 0
        · rw [show b = a from by omega, dg a a0 (by omega)]; omega
        · exact (cp a b a0 (by omega) b0 (by omega)).2.1
    · rw [ur_2, if_neg (by omega)]
      exact dg a a0 (by omega)
  · have := ly h l a b c d
    exact ⟨⟨this.1.1, by omega⟩, this.2⟩
theorem nm_t (nm : NMs) (j : Nat) (r c : Int) : u_nm nm j r c j r = c := if_pos ⟨rfl, rfl⟩
theorem nm_o (nm : NMs) {j k : Nat} {r c a : Int} (h : a ≠ r ∨ k ≠ j) : u_nm nm j r c k a = nm k a := if_neg (fun q => h.elim (fun z => z q.2) (fun z => z q.1))
theorem DW.rock {c : Int} (d : DW F nm) (hR : F 0 0 0 < 8) (hs : 0 ≤ s ∧ s ≤ 99) (hc : okN c) : DW (u_rock F s) (u_nm nm 0 (F 0 0 0) c) := by
  obtain ⟨w, ⟨a1, a2, a3⟩, dg⟩ := d
  refine ⟨w.rock hR hs dg, ⟨fun r x y => ?_, fun r x y => ?_, fun r x y => ?_⟩, fun a a0 a1 => ?_⟩
  · rw [ur_0] at y
    by_cases q : r = F 0 0 0
    · rw [q, nm_t]; exact hc
    · rw [nm_o nm (Or.inl q)]; exact a1 r x (by omega)
  · rw [ur_w F s (by omega)] at y
    rw [nm_o nm (Or.inr (by omega))]; exact a2 r x y
  · rw [ur_w F s (by omega)] at y
    rw [nm_o nm (Or.inr (by omega))]; exact a3 r x y
  · rw [ur_2, if_neg (by omega)]; exact dg a a0 a1
theorem c_setCost {a b v : Int} (ha : 0 ≤ a ∧ a < 8) (hb : 0 ≤ b ∧ b < 8) : fX2_setCostOfTwo g (iI a) (iI b) (iI v) M = some ((), stI (stI M (g + 3) (a * 8 + b).toNat (iI v)) (g + 3) (b * 8 + a).toNat (iI v)) := by
  unfold fX2_setCostOfTwo
  simp (disch := omega) only [iI_add, iI_sub, iI_mul, iI_neg, iI_nat, addm1, ixkI, ↓sbind, sbind, ↓bdS, bdS, ↓nm_eq, ↓jn_eq, iI_lt, iI_le, iI_eq, k_0, k_1, k_2, k_3, k_4, k_5, k_6, k_7, k_8, k_9, k_10, k_11, k_12, k_13, k_14, k_15, k_16, k_17, k_18, k_19, k_20, k_21, k_22, k_23, k_24, k_27, k_30, k_32, k_48, k_57, k_59, k_60, k_61, k_62, k_63, k_64, k_72, k_78, k_80, k_82, k_97, k_99, k_100, k_122, k_244, k_255, k_268, k_280, k_300, k_432, k_650, k_900, k_901, k_999, k_1700, k_2600, k_2601, k_2602, k_2603, k_2604, k_2610, k_2618, k_2682, k_2777, k_2844, k_2868, k_2880, k_3245, k_3250, k_9551, k_9999, k_65536, k_100000, k_999999, k_1000000, k_2147483647, lt_T, lt_F, le_T, le_F, eq_T, eq_F, ↓reduceIte, not_true_eq_false, not_false_eq_true, or_true, or_false, true_or, false_or, and_true, true_and, and_false, false_and]
theorem c_addr23 (K : Mem → Option (Unit × Mem)) {R : Int} (hR : 0 ≤ R ∧ R < 8) (M0 : Mem) : ∀ (k : Nat) (i : Int), 0 ≤ i → i ≤ R → R < k + i → ∀ M, M.1 g 0 = iI R → (∀ a b, 0 ≤ a → a < 8 → 0 ≤ b → b < 8 → M.1 (g + 3) (a * 8 + b).toNat = if (a < i ∧ b = R) ∨ (a = R ∧ b < i) then iI 9 else M0.1 (g + 3) (a * 8 + b).toNat) → ∃ M1, lX2_addRock_23 K g k (iI i) M = K M1 ∧ (∀ a b, 0 ≤ a → a < 8 → 0 ≤ b → b < 8 → M1.1 (g + 3) (a * 8 + b).toNat = if (a < R ∧ b = R) ∨ (a = R ∧ b < R) then iI 9 else M0.1 (g + 3) (a * 8 + b).toNat) ∧ M1.2 = M.2 ∧ Fr (Rg (g + 3) (g + 3)) M M1 := by
  refine lup (P := fun k i => ∀ M, M.1 g 0 = iI R → (∀ a b, 0 ≤ a → a < 8 → 0 ≤ b → b < 8 → M.1 (g + 3) (a * 8 + b).toNat = if (a < i ∧ b = R) ∨ (a = R ∧ b < i) then iI 9 else M0.1 (g + 3) (a * 8 + b).toNat) → ∃ M1, lX2_addRock_23 K g k (iI i) M = K M1 ∧ (∀ a b, 0 ≤ a → a < 8 → 0 ≤ b → b < 8 → M1.1 (g + 3) (a * 8 + b).toNat = if (a < R ∧ b = R) ∨ (a = R ∧ b < R) then iI 9 else M0.1 (g + 3) (a * 8 + b).toNat) ∧ M1.2 = M.2 ∧ Fr (Rg (g + 3) (g + 3)) M M1) (fun k M h0 h => ⟨M, ?_, h, rfl, Fr.refl M⟩) (fun k i i0 i1 ih M h0 h => ?_)
  · rw [lX2_addRock_23]
    simp (disch := omega) only [iI_add, iI_sub, iI_mul, iI_neg, iI_nat, addm1, ixkI, ↓sbind, sbind, ↓bdS, bdS, ↓nm_eq, ↓jn_eq, iI_lt, iI_le, iI_eq, k_0, k_1, k_2, k_3, k_4, k_5, k_6, k_7, k_8, k_9, k_10, k_11, k_12, k_13, k_14, k_15, k_16, k_17, k_18, k_19, k_20, k_21, k_22, k_23, k_24, k_27, k_30, k_32, k_48, k_57, k_59, k_60, k_61, k_62, k_63, k_64, k_72, k_78, k_80, k_82, k_97, k_99, k_100, k_122, k_244, k_255, k_268, k_280, k_300, k_432, k_650, k_900, k_901, k_999, k_1700, k_2600, k_2601, k_2602, k_2603, k_2604, k_2610, k_2618, k_2682, k_2777, k_2844, k_2868, k_2880, k_3245, k_3250, k_9551, k_9999, k_65536, k_100000, k_999999, k_1000000, k_2147483647, lt_T, lt_F, le_T, le_F, eq_T, eq_F, ↓reduceIte, not_true_eq_false, not_false_eq_true, or_true, or_false, true_or, false_or, and_true, true_and, and_false, false_and, h0]
  · have e1 := c_setCost (g := g) (M := M) (a := i) (b := R) (v := 9) (by omega) hR
    obtain ⟨M1, r1, r2, r3, r4⟩ := ih (stI (stI M (g + 3) (i * 8 + R).toNat (iI 9)) (g + 3) (R * 8 + i).toNat (iI 9)) (by rw [rI_ng (by omega), rI_ng (by omega)]; exact h0) (fun a b a0 a1 b0 b1 => by
      by_cases q1 : a = R ∧ b = i
      · rw [if_pos (by omega), rI_at rfl (by omega)]
      · rw [rI_nk (by omega)]
        by_cases q2 : a = i ∧ b = R
        · rw [if_pos (by omega), rI_at rfl (by omega)]
        · rw [rI_nk (by omega), h a b a0 a1 b0 b1]
          by_cases q3 : (a < i ∧ b = R) ∨ (a = R ∧ b < i)
          · rw [if_pos q3, if_pos (by omega)]
          · rw [if_neg q3, if_neg (by omega)])
    refine ⟨M1, ?_, r2, r3, (Fr.stI ⟨by omega, by omega⟩ (Fr.stI ⟨by omega, by omega⟩ (Fr.refl M))).trans r4⟩
    rw [lX2_addRock_23]
    simp (disch := omega) only [iI_add, iI_sub, iI_mul, iI_neg, iI_nat, addm1, ixkI, ↓sbind, sbind, ↓bdS, bdS, ↓nm_eq, ↓jn_eq, iI_lt, iI_le, iI_eq, k_0, k_1, k_2, k_3, k_4, k_5, k_6, k_7, k_8, k_9, k_10, k_11, k_12, k_13, k_14, k_15, k_16, k_17, k_18, k_19, k_20, k_21, k_22, k_23, k_24, k_27, k_30, k_32, k_48, k_57, k_59, k_60, k_61, k_62, k_63, k_64, k_72, k_78, k_80, k_82, k_97, k_99, k_100, k_122, k_244, k_255, k_268, k_280, k_300, k_432, k_650, k_900, k_901, k_999, k_1700, k_2600, k_2601, k_2602, k_2603, k_2604, k_2610, k_2618, k_2682, k_2777, k_2844, k_2868, k_2880, k_3245, k_3250, k_9551, k_9999, k_65536, k_100000, k_999999, k_1000000, k_2147483647, lt_T, lt_F, le_T, le_F, eq_T, eq_F, ↓reduceIte, not_true_eq_false, not_false_eq_true, or_true, or_false, true_or, false_or, and_true, true_and, and_false, false_and, h0, e1, r1]
theorem c_addRock {c : Int} {φ : Nat} (hφ : 2000 < φ) (d : DW F nm) (hR : F 0 0 0 < 8) (G : GR g F M) (hn : NCn g F nm M) : ∃ M1, fX2_addRock φ g (lI c) (iI s) M = some ((), M1) ∧ GR g (u_rock F s) M1 ∧ NCn g (u_rock F s) (u_nm nm 0 (F 0 0 0) c) M1 ∧ M1.2.2 = M.2.2 ∧ Fr (Rg g (g + 3)) M M1 := by
  have n0 := d.1.n0
  have g0 := G.n0
  obtain ⟨Ma, hMa⟩ : ∃ Ma, Ma = stI (stL M (g + 1) (F 0 0 0).toNat (lI c)) (g + 2) (F 0 0 0).toNat (iI s) := ⟨_, rfl⟩
  have a0 : Ma.1 g 0 = iI (F 0 0 0) := by rw [hMa, rI_ng (by omega)]; exact g0
  obtain ⟨Mb, b1, b2, b3, b4⟩ := c_addr23 (g := g) (fun (M5 : Mem) => bd (fX2_setCostOfTwo g (M5.1 g 0) (M5.1 g 0) (0 : Int32) M5) fun vu6 M7 => some ((), stI M7 g 0 ((M7.1 g 0) + (1 : Int32)))) (R := F 0 0 0) ⟨n0.1, hR⟩ Ma φ 0 (by omega) (by omega) (by omega) Ma a0 (fun a b _ _ _ _ => by rw [if_neg (by omega)])
  have c0 : Mb.1 g 0 = iI (F 0 0 0) := by rw [(b4 g (fun q => by have := q.1; omega)).1]; exact a0
  have e1 := c_setCost (g := g) (M := Mb) (a := F 0 0 0) (b := F 0 0 0) (v := 0) ⟨n0.1, hR⟩ ⟨n0.1, hR⟩
  obtain ⟨Mc, hMc⟩ : ∃ Mc, Mc = stI (stI Mb (g + 3) (F 0 0 0 * 8 + F 0 0 0).toNat (iI 0)) (g + 3) (F 0 0 0 * 8 + F 0 0 0).toNat (iI 0) := ⟨_, rfl⟩
  rw [← hMc] at e1
  have d0 : Mc.1 g 0 = iI (F 0 0 0) := by rw [hMc, rI_ng (by omega), rI_ng (by omega)]; exact c0
  have ot : ∀ z, z ≠ g → z ≠ g + 2 → z ≠ g + 3 → (stI Mc g 0 (iI (F 0 0 0 + 1))).1 z = M.1 z := fun z z0 z2 z3 => by
    funext j
    rw [rI_ng z0, hMc, rI_ng z3, rI_ng z3, (b4 z (fun q => by have := q.1; have := q.2; omega)).1, hMa, rI_ng z2, rL_1]
  have o2 : ∀ j, (stI Mc g 0 (iI (F 0 0 0 + 1))).1 (g + 2) j = if j = (F 0 0 0).toNat then iI s else M.1 (g + 2) j := fun j => by
    rw [rI_ng (by omega), hMc, rI_ng (by omega), rI_ng (by omega), (b4 (g + 2) (fun q => by have := q.1; omega)).1, hMa, stI_1]
    by_cases q : j = (F 0 0 0).toNat
    · rw [if_pos ⟨rfl, q⟩, if_pos q]
    · rw [if_neg (fun z => q z.2), if_neg q, rL_1]
  have o3 : ∀ a b, 0 ≤ a → a < 8 → 0 ≤ b → b < 8 → (stI Mc g 0 (iI (F 0 0 0 + 1))).1 (g + 3) (a * 8 + b).toNat = if a = F 0 0 0 ∧ b = F 0 0 0 then iI 0 else if (a < F 0 0 0 ∧ b = F 0 0 0) ∨ (a = F 0 0 0 ∧ b < F 0 0 0) then iI 9 else M.1 (g + 3) (a * 8 + b).toNat := fun a b a0 a1 b0 b1' => by
    rw [rI_ng (by omega), hMc]
    by_cases q : a = F 0 0 0 ∧ b = F 0 0 0
    · rw [if_pos q, rI_at rfl (by omega)]
    · rw [if_neg q, rI_nk (by omega), rI_nk (by omega), b2 a b a0 a1 b0 b1', hMa, rI_ng (by omega), rL_1]
  have oc : (stI Mc g 0 (iI (F 0 0 0 + 1))).1 g 0 = iI (F 0 0 0 + 1) := rI_at rfl rfl
  have og : ∀ j, j ≠ 0 → (stI Mc g 0 (iI (F 0 0 0 + 1))).1 g j = M.1 g j := fun j hj => by
    rw [rI_nk hj, hMc, rI_ng (by omega), rI_ng (by omega), (b4 g (fun q => by have := q.1; omega)).1, hMa, rI_ng (by omega), rL_1]
  have on : ∀ z j, (stI Mc g 0 (iI (F 0 0 0 + 1))).2.1 z j = (stL M (g + 1) (F 0 0 0).toNat (lI c)).2.1 z j := fun z j => by
    rw [rI_2, hMc, rI_2, rI_2, b3, hMa, rI_2]
  have o22 : (stI Mc g 0 (iI (F 0 0 0 + 1))).2.2 = M.2.2 := by
    show Mc.2.2 = M.2.2
    rw [hMc]
    show Mb.2.2 = M.2.2
    rw [b3, hMa]
    rfl
  have k3 := fun (k : Nat) (h : 3 ≤ k) => ur_k F s (k := k) h
  refine ⟨stI Mc g 0 (iI (F 0 0 0 + 1)), ?_, ?_, ⟨fun r x y => ?_, fun r x y => ?_, fun r x y => ?_⟩, o22, ?_⟩
  · have b1' : lX2_addRock_23 (fun (M5 : Mem) => bd (fX2_setCostOfTwo g (M5.1 g 0) (M5.1 g 0) (0 : Int32) M5) fun vu6 M7 => some ((), stI M7 g 0 ((M7.1 g 0) + (1 : Int32)))) g φ (0 : Int32) Ma = some ((), stI Mc g 0 (iI (F 0 0 0 + 1))) := by
      refine Eq.trans b1 ?_
      simp (disch := omega) only [iI_add, iI_sub, iI_mul, iI_neg, iI_nat, addm1, ixkI, ↓sbind, sbind, ↓bdS, bdS, ↓nm_eq, ↓jn_eq, iI_lt, iI_le, iI_eq, k_0, k_1, k_2, k_3, k_4, k_5, k_6, k_7, k_8, k_9, k_10, k_11, k_12, k_13, k_14, k_15, k_16, k_17, k_18, k_19, k_20, k_21, k_22, k_23, k_24, k_27, k_30, k_32, k_48, k_57, k_59, k_60, k_61, k_62, k_63, k_64, k_72, k_78, k_80, k_82, k_97, k_99, k_100, k_122, k_244, k_255, k_268, k_280, k_300, k_432, k_650, k_900, k_901, k_999, k_1700, k_2600, k_2601, k_2602, k_2603, k_2604, k_2610, k_2618, k_2682, k_2777, k_2844, k_2868, k_2880, k_3245, k_3250, k_9551, k_9999, k_65536, k_100000, k_999999, k_1000000, k_2147483647, lt_T, lt_F, le_T, le_F, eq_T, eq_F, ↓reduceIte, not_true_eq_false, not_false_eq_true, or_true, or_false, true_or, false_or, and_true, true_and, and_false, false_and, c0, e1, d0]
    unfold fX2_addRock
    rw [g0, ixkI (by omega), iI_nat (by omega), nm_eq, rL_1, g0, ixkI (by omega), iI_nat (by omega), nm_eq, ← hMa]
    exact b1'
  · obtain ⟨⟨h0, h1, h2, h3⟩, sk, cp, hl, ly, co, fl, ft⟩ := G
    unfold GR
    rw [ur_0, ur_w F s (w := 1) (by omega), ur_w F s (w := 2) (by omega), ur_w F s (w := 3) (by omega), k3 3 (by omega), k3 4 (by omega), k3 5 (by omega), k3 6 (by omega), k3 7 (by omega), ot (g + 5) (by omega) (by omega) (by omega), ot (g + 6) (by omega) (by omega) (by omega), ot (g + 7) (by omega) (by omega) (by omega), ot (g + 8) (by omega) (by omega) (by omega), ot (g + 9) (by omega) (by omega) (by omega), ot (g + 10) (by omega) (by omega) (by omega), ot (g + 12) (by omega) (by omega) (by omega), ot (g + 13) (by omega) (by omega) (by omega), oc, og 4 (by omega), og 11 (by omega), og 13 (by omega)]
    refine ⟨⟨rfl, h1, h2, h3⟩, fun r a b => ?_, fun a b a0 a1 b0 b1 => ?_, hl, ly, co, fl, ft⟩
    · rw [o2]
      by_cases q : r = F 0 0 0
      · rw [if_pos (by omega), q, ur_1R]
      · rw [if_neg (by omega), ur_1 F s q]; exact sk r a (by omega)
    · rw [o3 a b a0 (by omega) b0 (by omega), ur_2]
      by_cases q : a = F 0 0 0 ∧ b = F 0 0 0
      · rw [if_pos q, if_neg (by omega), q.1, q.2, d.2.2 _ n0.1 hR]
      · rw [if_neg q]
        by_cases q2 : (a < F 0 0 0 ∧ b = F 0 0 0) ∨ (a = F 0 0 0 ∧ b < F 0 0 0)
        · rw [if_pos q2, if_pos (by omega)]
        · rw [if_neg q2, if_neg (by omega)]; exact cp a b a0 (by omega) b0 (by omega)
  · rw [ur_0] at y
    rw [on]
    by_cases q : r = F 0 0 0
    · rw [rL_at rfl (by omega), q, nm_t]
    · rw [rL_nk (by omega), nm_o nm (Or.inl q)]; exact hn.1 r x (by omega)
  · rw [ur_w F s (by omega)] at y
    rw [on, rL_ng (by omega), nm_o nm (Or.inr (by omega))]; exact hn.2.1 r x y
  · rw [ur_w F s (by omega)] at y
    rw [on, rL_ng (by omega), nm_o nm (Or.inr (by omega))]; exact hn.2.2 r x y
  · refine Fr.stI ⟨by omega, by omega⟩ ?_
    rw [hMc]
    refine Fr.stI ⟨by omega, by omega⟩ (Fr.stI ⟨by omega, by omega⟩ ?_)
    refine Fr.trans ?_ (b4.mono (fun z q => ⟨by have := q.1; omega, by have := q.2; omega⟩))
    rw [hMa]
    exact Fr.stI ⟨by omega, by omega⟩ (Fr.stL ⟨by omega, by omega⟩ (Fr.refl M))
end RO
