/-! steps of the parsers, on both sides -/
abbrev nx (B : Int → Int) (n p : Int) : Int := (tok B n p).2.2.2.1
section OP
variable {t m ft gs wd : Nat} {F : Fld} {nm : NMs} {M : Mem} {B : Int → Int} {n p : Int}
def RW (m : Nat) (M M1 : Mem) : Prop := (∀ i, i ≠ 12 → i ≠ 13 → i ≠ 14 → i ≠ 15 → i ≠ 17 → i ≠ 18 → i ≠ 21 → i ≠ 22 → M1.1 m i = M.1 m i) ∧ M1.2.1 m = M.2.1 m ∧ (∀ e : Int, 0 ≤ e → (e < 2600 ∨ e = 2604) → M1.1 (m + 1) e.toNat = M.1 (m + 1) e.toNat) ∧ (∀ e : Int, 0 ≤ e → e < 64 → M1.2.1 (m + 2) e.toNat = M.2.1 (m + 2) e.toNat) ∧ Fr (fun z => z = m ∨ z = m + 1 ∨ z = m + 2 ∨ z = m + 8) M M1
theorem RW.refl (m : Nat) (M : Mem) : RW m M M := ⟨fun _ _ _ _ _ _ _ _ _ => rfl, rfl, fun _ _ _ => rfl, fun _ _ _ => rfl, Fr.refl M⟩
theorem RW.trans {M1 M2 : Mem} (a : RW m M M1) (b : RW m M1 M2) : RW m M M2 := ⟨fun i h1 h2 h3 h4 h5 h6 h7 h8 => (b.1 i h1 h2 h3 h4 h5 h6 h7 h8).trans (a.1 i h1 h2 h3 h4 h5 h6 h7 h8), b.2.1.trans a.2.1, fun e h1 h2 => (b.2.2.1 e h1 h2).trans (a.2.2.1 e h1 h2), fun e h1 h2 => (b.2.2.2.1 e h1 h2).trans (a.2.2.2.1 e h1 h2), a.2.2.2.2.trans b.2.2.2.2⟩
theorem mAh.rw {M1 : Mem} (a : mAh m M M1) : RW m M M1 := ⟨fun i h1 h2 h3 h4 _ _ _ _ => a.1 i h1 h2 h3 h4, by rw [a.2.1], fun e _ _ => by rw [(a.2.2 (m + 1) (by omega)).1], fun e _ _ => by rw [a.2.1], a.2.2.mono (fun z q => Or.inl q)⟩
theorem RW.st {e : Int} (he : 2600 ≤ e ∧ e ≠ 2604) (M : Mem) (v : Int32) : RW m M (stI M (m + 1) e.toNat v) := ⟨fun i _ _ _ _ _ _ _ _ => rI_ng (by omega), rfl, fun k h1 h2 => rI_nk (by omega), fun _ _ _ => rfl, Fr.stI (Or.inr (Or.inl rfl)) (Fr.refl M)⟩
theorem RW.stN {e : Int} (he : 64 ≤ e) (M : Mem) (v : Int64) : RW m M (stL M (m + 2) e.toNat v) := ⟨fun _ _ _ _ _ _ _ _ _ => rfl, by funext b; exact rL_ng (by omega), fun _ _ _ => rfl, fun k h1 h2 => rL_nk (by omega), Fr.stL (Or.inr (Or.inr (Or.inl rfl))) (Fr.refl M)⟩
theorem RW.fl (M : Mem) (a b : Int32) : RW m M (stI (stI M m 18 a) m 17 b) := ⟨fun i _ _ _ _ h5 h6 _ _ => by rw [rI_nk h5, rI_nk h6], rfl, fun k h1 h2 => by rw [rI_ng (by omega), rI_ng (by omega)], fun _ _ _ => rfl, Fr.stI (Or.inl rfl) (Fr.stI (Or.inl rfl) (Fr.refl M))⟩
def RCw (t ft gs wd : Nat) (M M1 : Mem) : Prop := (∀ i, i ≠ 7 → i ≠ 9 → i ≠ 10 → M1.1 t i = M.1 t i) ∧ M1.2.2 = M.2.2 ∧ Fr (fun z => z = t ∨ (ft ≤ z ∧ z ≤ ft + 1) ∨ (gs ≤ z ∧ z ≤ gs + wd)) M M1
theorem RCw.refl (t ft gs wd : Nat) (M : Mem) : RCw t ft gs wd M M := ⟨fun _ _ _ _ => rfl, rfl, Fr.refl M⟩
theorem RCw.trans {M1 M2 : Mem} (a : RCw t ft gs wd M M1) (b : RCw t ft gs wd M1 M2) : RCw t ft gs wd M M2 := ⟨fun i h1 h2 h3 => (b.1 i h1 h2 h3).trans (a.1 i h1 h2 h3), b.2.1.trans a.2.1, a.2.2.trans b.2.2⟩
theorem cGo.rw {M1 : Mem} (a : cGo t M M1) : RCw t ft gs wd M M1 := ⟨fun i h _ _ => a.1 i h, by rw [a.2.1], a.2.2.mono (fun z q => Or.inl q)⟩
theorem RCw.fl (M : Mem) (a b : Int32) : RCw t ft gs wd M (stI (stI M t 9 a) t 10 b) := ⟨fun i _ h9 h10 => by rw [rI_nk h10, rI_nk h9], rfl, Fr.stI (Or.inl rfl) (Fr.stI (Or.inl rfl) (Fr.refl M))⟩
def CFail (t ft gs wd : Nat) (fk fp : Int) (M : Mem) (f : Option (Int32 × Mem)) : Prop := ∃ M1, f = some (iI 0, M1) ∧ M1.1 t 9 = iI fk ∧ M1.1 t 10 = iI fp ∧ RCw t ft gs wd M M1
def MFail (m : Nat) (fk fp : Int) (M : Mem) (f : Option (Int32 × Mem)) : Prop := ∃ M1, f = some (iI 0, M1) ∧ M1.1 m 18 = iI fk ∧ M1.1 m 17 = iI fp ∧ RW m M M1
theorem MFail.of {fk fp : Int} (M : Mem) {f : Option (Int32 × Mem)} (h : f = some (iI 0, stI (stI M m 18 (iI fk)) m 17 (iI fp))) : MFail m fk fp M f := ⟨_, h, by rw [rI_nk (by omega)]; exact rI_at rfl rfl, rI_at rfl rfl, RW.fl M _ _⟩
theorem CFail.of {fk fp : Int} (M : Mem) {f : Option (Int32 × Mem)} (h : f = some (iI 0, stI (stI M t 9 (iI fk)) t 10 (iI fp))) : CFail t ft gs wd fk fp M f := ⟨_, h, by rw [rI_nk (by omega)]; exact rI_at rfl rfl, rI_at rfl rfl, RCw.fl M _ _⟩
theorem MFail.le {fk fp : Int} {M1 : Mem} {f : Option (Int32 × Mem)} (a : RW m M M1) (h : MFail m fk fp M1 f) : MFail m fk fp M f := by
  obtain ⟨M2, h1, h2, h3, h4⟩ := h
  exact ⟨M2, h1, h2, h3, a.trans h4⟩
theorem CFail.le {fk fp : Int} {M1 : Mem} {f : Option (Int32 × Mem)} (a : RCw t ft gs wd M M1) (h : CFail t ft gs wd fk fp M1 f) : CFail t ft gs wd fk fp M f := by
  obtain ⟨M2, h1, h2, h3, h4⟩ := h
  exact ⟨M2, h1, h2, h3, a.trans h4⟩
/-! the class -/
theorem c_passNum (w : WTk n (tok B n p)) (h : RDp t B n p M) {a b : Int} (ha : 0 ≤ a ∧ a ≤ 99999) (hb : 0 ≤ b ∧ b ≤ 99999) : (isNu (tok B n p) a b = true → ∃ M1, fX6_passNumber t (iI a) (iI b) M = some (iI 1, M1) ∧ RDp t B n (nx B n p) M1 ∧ cGo t M M1) ∧ (isNu (tok B n p) a b = false → fX6_passNumber t (iI a) (iI b) M = some (iI 0, stI (stI M t 9 (iI (fkT (tok B n p) (if (tok B n p).1 = 2 then 4 else 2)))) t 10 (iI (tok B n p).2.1))) := by
  have e1 := c_isNumber w h ha hb
  refine ⟨fun q => ?_, fun q => ?_⟩
  · rw [q] at e1
    obtain ⟨M1, r1, r2⟩ := c_goOn h
    refine ⟨M1, ?_, r2⟩
    unfold fX6_passNumber
    simp (disch := omega) only [iI_add, iI_sub, iI_mul, iI_neg, iI_nat, addm1, ixkI, ↓sbind, sbind, ↓bdS, bdS, ↓nm_eq, ↓jn_eq, iI_lt, iI_le, iI_eq, k_0, k_1, k_2, k_3, k_4, k_5, k_6, k_7, k_8, k_9, k_10, k_11, k_12, k_13, k_14, k_15, k_16, k_17, k_18, k_19, k_20, k_21, k_22, k_23, k_24, k_27, k_30, k_32, k_48, k_57, k_59, k_60, k_61, k_62, k_63, k_64, k_72, k_78, k_80, k_82, k_97, k_99, k_100, k_122, k_244, k_255, k_268, k_280, k_300, k_432, k_650, k_900, k_901, k_999, k_1700, k_2600, k_2601, k_2602, k_2603, k_2604, k_2610, k_2618, k_2682, k_2777, k_2844, k_2868, k_2880, k_3245, k_3250, k_9551, k_9999, k_65536, k_100000, k_999999, k_1000000, k_2147483647, lt_T, lt_F, le_T, le_F, eq_T, eq_F, ↓reduceIte, not_true_eq_false, not_false_eq_true, or_true, or_false, true_or, false_or, and_true, true_and, and_false, false_and, e1, bI_t, r1]
  · rw [q] at e1
    have e2 := c_numFault w h
    have e3 := c_refuse w h (if (tok B n p).1 = 2 then 4 else 2)
    unfold fX6_passNumber
    simp (disch := omega) only [iI_add, iI_sub, iI_mul, iI_neg, iI_nat, addm1, ixkI, ↓sbind, sbind, ↓bdS, bdS, ↓nm_eq, ↓jn_eq, iI_lt, iI_le, iI_eq, k_0, k_1, k_2, k_3, k_4, k_5, k_6, k_7, k_8, k_9, k_10, k_11, k_12, k_13, k_14, k_15, k_16, k_17, k_18, k_19, k_20, k_21, k_22, k_23, k_24, k_27, k_30, k_32, k_48, k_57, k_59, k_60, k_61, k_62, k_63, k_64, k_72, k_78, k_80, k_82, k_97, k_99, k_100, k_122, k_244, k_255, k_268, k_280, k_300, k_432, k_650, k_900, k_901, k_999, k_1700, k_2600, k_2601, k_2602, k_2603, k_2604, k_2610, k_2618, k_2682, k_2777, k_2844, k_2868, k_2880, k_3245, k_3250, k_9551, k_9999, k_65536, k_100000, k_999999, k_1000000, k_2147483647, lt_T, lt_F, le_T, le_F, eq_T, eq_F, ↓reduceIte, not_true_eq_false, not_false_eq_true, or_true, or_false, true_or, false_or, and_true, true_and, and_false, false_and, e1, bI_f, e2, e3, i01_a, if_true]
theorem c_passW (w : WTk n (tok B n p)) (h : RDp t B n p M) {k : Int} (hk : -1 ≤ k ∧ k < 24) : (wv (tok B n p) = k → ∃ M1, fX6_passWord t (iI k) M = some (iI 1, M1) ∧ RDp t B n (nx B n p) M1 ∧ cGo t M M1) ∧ (wv (tok B n p) ≠ k → fX6_passWord t (iI k) M = some (iI 0, stI (stI M t 9 (iI (fkT (tok B n p) 2))) t 10 (iI (tok B n p).2.1))) := by
  have e1 := c_word w h
  have b1 := wv_bd w
  refine ⟨fun q => ?_, fun q => ?_⟩
  · obtain ⟨M1, r1, r2⟩ := c_goOn h
    refine ⟨M1, ?_, r2⟩
    rw [q] at e1
    unfold fX6_passWord
    simp (disch := omega) only [iI_add, iI_sub, iI_mul, iI_neg, iI_nat, addm1, ixkI, ↓sbind, sbind, ↓bdS, bdS, ↓nm_eq, ↓jn_eq, iI_lt, iI_le, iI_eq, k_0, k_1, k_2, k_3, k_4, k_5, k_6, k_7, k_8, k_9, k_10, k_11, k_12, k_13, k_14, k_15, k_16, k_17, k_18, k_19, k_20, k_21, k_22, k_23, k_24, k_27, k_30, k_32, k_48, k_57, k_59, k_60, k_61, k_62, k_63, k_64, k_72, k_78, k_80, k_82, k_97, k_99, k_100, k_122, k_244, k_255, k_268, k_280, k_300, k_432, k_650, k_900, k_901, k_999, k_1700, k_2600, k_2601, k_2602, k_2603, k_2604, k_2610, k_2618, k_2682, k_2777, k_2844, k_2868, k_2880, k_3245, k_3250, k_9551, k_9999, k_65536, k_100000, k_999999, k_1000000, k_2147483647, lt_T, lt_F, le_T, le_F, eq_T, eq_F, ↓reduceIte, not_true_eq_false, not_false_eq_true, or_true, or_false, true_or, false_or, and_true, true_and, and_false, false_and, e1, r1]
  · have e3 := c_refuse w h 2
    unfold fX6_passWord
    simp (disch := omega) only [iI_add, iI_sub, iI_mul, iI_neg, iI_nat, addm1, ixkI, ↓sbind, sbind, ↓bdS, bdS, ↓nm_eq, ↓jn_eq, iI_lt, iI_le, iI_eq, k_0, k_1, k_2, k_3, k_4, k_5, k_6, k_7, k_8, k_9, k_10, k_11, k_12, k_13, k_14, k_15, k_16, k_17, k_18, k_19, k_20, k_21, k_22, k_23, k_24, k_27, k_30, k_32, k_48, k_57, k_59, k_60, k_61, k_62, k_63, k_64, k_72, k_78, k_80, k_82, k_97, k_99, k_100, k_122, k_244, k_255, k_268, k_280, k_300, k_432, k_650, k_900, k_901, k_999, k_1700, k_2600, k_2601, k_2602, k_2603, k_2604, k_2610, k_2618, k_2682, k_2777, k_2844, k_2868, k_2880, k_3245, k_3250, k_9551, k_9999, k_65536, k_100000, k_999999, k_1000000, k_2147483647, lt_T, lt_F, le_T, le_F, eq_T, eq_F, ↓reduceIte, not_true_eq_false, not_false_eq_true, or_true, or_false, true_or, false_or, and_true, true_and, and_false, false_and, e1, e3, i01_a, if_true]
theorem c_passSemi (w : WTk n (tok B n p)) (h : RDp t B n p M) : (isSg (tok B n p) 59 = true → ∃ M1, fX6_passSemicolon t M = some (iI 1, M1) ∧ RDp t B n (nx B n p) M1 ∧ cGo t M M1) ∧ (isSg (tok B n p) 59 = false → fX6_passSemicolon t M = some (iI 0, stI (stI M t 9 (iI (fkT (tok B n p) 2))) t 10 (iI (tok B n p).2.1))) := by
  have e1 := c_isSign w h (c := 59) (by omega)
  refine ⟨fun q => ?_, fun q => ?_⟩
  · rw [q] at e1
    obtain ⟨M1, r1, r2⟩ := c_goOn h
    refine ⟨M1, ?_, r2⟩
    unfold fX6_passSemicolon
    simp (disch := omega) only [iI_add, iI_sub, iI_mul, iI_neg, iI_nat, addm1, ixkI, ↓sbind, sbind, ↓bdS, bdS, ↓nm_eq, ↓jn_eq, iI_lt, iI_le, iI_eq, k_0, k_1, k_2, k_3, k_4, k_5, k_6, k_7, k_8, k_9, k_10, k_11, k_12, k_13, k_14, k_15, k_16, k_17, k_18, k_19, k_20, k_21, k_22, k_23, k_24, k_27, k_30, k_32, k_48, k_57, k_59, k_60, k_61, k_62, k_63, k_64, k_72, k_78, k_80, k_82, k_97, k_99, k_100, k_122, k_244, k_255, k_268, k_280, k_300, k_432, k_650, k_900, k_901, k_999, k_1700, k_2600, k_2601, k_2602, k_2603, k_2604, k_2610, k_2618, k_2682, k_2777, k_2844, k_2868, k_2880, k_3245, k_3250, k_9551, k_9999, k_65536, k_100000, k_999999, k_1000000, k_2147483647, lt_T, lt_F, le_T, le_F, eq_T, eq_F, ↓reduceIte, not_true_eq_false, not_false_eq_true, or_true, or_false, true_or, false_or, and_true, true_and, and_false, false_and, e1, bI_t, r1]
  · rw [q] at e1
    have e3 := c_refuse w h 2
    unfold fX6_passSemicolon
    simp (disch := omega) only [iI_add, iI_sub, iI_mul, iI_neg, iI_nat, addm1, ixkI, ↓sbind, sbind, ↓bdS, bdS, ↓nm_eq, ↓jn_eq, iI_lt, iI_le, iI_eq, k_0, k_1, k_2, k_3, k_4, k_5, k_6, k_7, k_8, k_9, k_10, k_11, k_12, k_13, k_14, k_15, k_16, k_17, k_18, k_19, k_20, k_21, k_22, k_23, k_24, k_27, k_30, k_32, k_48, k_57, k_59, k_60, k_61, k_62, k_63, k_64, k_72, k_78, k_80, k_82, k_97, k_99, k_100, k_122, k_244, k_255, k_268, k_280, k_300, k_432, k_650, k_900, k_901, k_999, k_1700, k_2600, k_2601, k_2602, k_2603, k_2604, k_2610, k_2618, k_2682, k_2777, k_2844, k_2868, k_2880, k_3245, k_3250, k_9551, k_9999, k_65536, k_100000, k_999999, k_1000000, k_2147483647, lt_T, lt_F, le_T, le_F, eq_T, eq_F, ↓reduceIte, not_true_eq_false, not_false_eq_true, or_true, or_false, true_or, false_or, and_true, true_and, and_false, false_and, e1, bI_f, e3, i01_a, if_true]
/-! the reference -/
theorem m_num {φ : Nat} (hφ : 2000 < φ) (hn : 0 ≤ n ∧ n ≤ 900) (hB : ∀ k, -128 ≤ B k ∧ B k ≤ 127) (h : RKp m B n p M) (h18 : M.1 m 18 = iI 0) {to a b : Int} (ht : 0 ≤ to ∧ to < 3900) (ha : 0 ≤ a ∧ a ≤ 99999) (hb : 0 ≤ b ∧ b ≤ 99999) : (isNu (tok B n p) a b = true → ∃ M1, fX11_number φ m (iI to) (iI a) (iI b) M = some (iI 1, M1) ∧ RKp m B n (nx B n p) M1 ∧ mAh m (stI M (m + 1) to.toNat (iI (tok B n p).2.2.1)) M1) ∧ (isNu (tok B n p) a b = false → fX11_number φ m (iI to) (iI a) (iI b) M = some (iI 0, stI (stI M m 18 (iI (fkT (tok B n p) (if (tok B n p).1 = 2 then 4 else 2)))) m 17 (iI (tok B n p).2.1))) := by
  have h0 := h
  obtain ⟨⟨hp, h17⟩, h11, hT, r1, r2, r3, r4⟩ := h
  have w := wtk (B := B) hp (fun k => (hB k).2)
  have w1 := w.1
  obtain ⟨k0, k1, k2, k3, k4⟩ := rkd_v w1
  refine ⟨fun q => ?_, fun q => ?_⟩
  · have q : (tok B n p).1 = 2 ∧ a ≤ (tok B n p).2.2.1 ∧ (tok B n p).2.2.1 ≤ b := of_decide_eq_true q
    have r4 := r4 (Or.inl q.1)
    rw [k2 q.1] at r1
    have w2 := w.2.2.2.1 q.1
    have hs : RKp m B n p (stI M (m + 1) to.toNat (iI (tok B n p).2.2.1)) := ⟨⟨hp, by rw [rI_ng (by omega)]; exact h17⟩, by rw [rI_ng (by omega)]; exact h11, fun k k0 k1 => by rw [rI_ng (by omega)]; exact hT k k0 k1, by rw [k2 q.1, rI_ng (by omega)]; exact r1, by rw [rI_ng (by omega)]; exact r2, by rw [rI_ng (by omega)]; exact r3, fun _ => by rw [rI_ng (by omega)]; exact r4⟩
    obtain ⟨M1, s1, s2, s3⟩ := m_goOn hφ hn hB hs
    refine ⟨M1, ?_, s2, s3⟩
    unfold fX11_number
    simp (disch := omega) only [iI_add, iI_sub, iI_mul, iI_neg, iI_nat, addm1, ixkI, ↓sbind, sbind, ↓bdS, bdS, ↓nm_eq, ↓jn_eq, iI_lt, iI_le, iI_eq, k_0, k_1, k_2, k_3, k_4, k_5, k_6, k_7, k_8, k_9, k_10, k_11, k_12, k_13, k_14, k_15, k_16, k_17, k_18, k_19, k_20, k_21, k_22, k_23, k_24, k_27, k_30, k_32, k_48, k_57, k_59, k_60, k_61, k_62, k_63, k_64, k_72, k_78, k_80, k_82, k_97, k_99, k_100, k_122, k_244, k_255, k_268, k_280, k_300, k_432, k_650, k_900, k_901, k_999, k_1700, k_2600, k_2601, k_2602, k_2603, k_2604, k_2610, k_2618, k_2682, k_2777, k_2844, k_2868, k_2880, k_3245, k_3250, k_9551, k_9999, k_65536, k_100000, k_999999, k_1000000, k_2147483647, lt_T, lt_F, le_T, le_F, eq_T, eq_F, ↓reduceIte, not_true_eq_false, not_false_eq_true, or_true, or_false, true_or, false_or, and_true, true_and, and_false, false_and, r1, r4, s1]
  · unfold fX11_number
    by_cases q1 : (tok B n p).1 = 2
    · have r4 := r4 (Or.inl q1)
      have w2 := w.2.2.2.1 q1
      have q : ¬ ((tok B n p).1 = 2 ∧ a ≤ (tok B n p).2.2.1 ∧ (tok B n p).2.2.1 ≤ b) := of_decide_eq_false q
      rw [k2 q1] at r1
      rw [if_pos q1]
      have e3 := m_fails hB h0 h18 4
      by_cases q2 : (tok B n p).2.2.1 < a
      · simp (disch := omega) only [iI_add, iI_sub, iI_mul, iI_neg, iI_nat, addm1, ixkI, ↓sbind, sbind, ↓bdS, bdS, ↓nm_eq, ↓jn_eq, iI_lt, iI_le, iI_eq, k_0, k_1, k_2, k_3, k_4, k_5, k_6, k_7, k_8, k_9, k_10, k_11, k_12, k_13, k_14, k_15, k_16, k_17, k_18, k_19, k_20, k_21, k_22, k_23, k_24, k_27, k_30, k_32, k_48, k_57, k_59, k_60, k_61, k_62, k_63, k_64, k_72, k_78, k_80, k_82, k_97, k_99, k_100, k_122, k_244, k_255, k_268, k_280, k_300, k_432, k_650, k_900, k_901, k_999, k_1700, k_2600, k_2601, k_2602, k_2603, k_2604, k_2610, k_2618, k_2682, k_2777, k_2844, k_2868, k_2880, k_3245, k_3250, k_9551, k_9999, k_65536, k_100000, k_999999, k_1000000, k_2147483647, lt_T, lt_F, le_T, le_F, eq_T, eq_F, ↓reduceIte, not_true_eq_false, not_false_eq_true, or_true, or_false, true_or, false_or, and_true, true_and, and_false, false_and, r1, r4, e3, i01_a, if_true]
      · simp (disch := omega) only [iI_add, iI_sub, iI_mul, iI_neg, iI_nat, addm1, ixkI, ↓sbind, sbind, ↓bdS, bdS, ↓nm_eq, ↓jn_eq, iI_lt, iI_le, iI_eq, k_0, k_1, k_2, k_3, k_4, k_5, k_6, k_7, k_8, k_9, k_10, k_11, k_12, k_13, k_14, k_15, k_16, k_17, k_18, k_19, k_20, k_21, k_22, k_23, k_24, k_27, k_30, k_32, k_48, k_57, k_59, k_60, k_61, k_62, k_63, k_64, k_72, k_78, k_80, k_82, k_97, k_99, k_100, k_122, k_244, k_255, k_268, k_280, k_300, k_432, k_650, k_900, k_901, k_999, k_1700, k_2600, k_2601, k_2602, k_2603, k_2604, k_2610, k_2618, k_2682, k_2777, k_2844, k_2868, k_2880, k_3245, k_3250, k_9551, k_9999, k_65536, k_100000, k_999999, k_1000000, k_2147483647, lt_T, lt_F, le_T, le_F, eq_T, eq_F, ↓reduceIte, not_true_eq_false, not_false_eq_true, or_true, or_false, true_or, false_or, and_true, true_and, and_false, false_and, r1, r4, e3, i01_a, if_true]
    · have : rkd (tok B n p).1 ≠ 3 ∧ 0 ≤ rkd (tok B n p).1 ∧ rkd (tok B n p).1 ≤ 4 := by
        have : (tok B n p).1 = 0 ∨ (tok B n p).1 = 3 ∨ (tok B n p).1 = 1 ∨ (tok B n p).1 = 4 := by omega
        rcases this with z | z | z | z
        · rw [k0 z]; omega
        · rw [k3 z]; omega
        · rw [k1 z]; omega
        · rw [k4 z]; omega
      rw [if_neg q1]
      have e3 := m_fails hB h0 h18 2
      simp (disch := omega) only [iI_add, iI_sub, iI_mul, iI_neg, iI_nat, addm1, ixkI, ↓sbind, sbind, ↓bdS, bdS, ↓nm_eq, ↓jn_eq, iI_lt, iI_le, iI_eq, k_0, k_1, k_2, k_3, k_4, k_5, k_6, k_7, k_8, k_9, k_10, k_11, k_12, k_13, k_14, k_15, k_16, k_17, k_18, k_19, k_20, k_21, k_22, k_23, k_24, k_27, k_30, k_32, k_48, k_57, k_59, k_60, k_61, k_62, k_63, k_64, k_72, k_78, k_80, k_82, k_97, k_99, k_100, k_122, k_244, k_255, k_268, k_280, k_300, k_432, k_650, k_900, k_901, k_999, k_1700, k_2600, k_2601, k_2602, k_2603, k_2604, k_2610, k_2618, k_2682, k_2777, k_2844, k_2868, k_2880, k_3245, k_3250, k_9551, k_9999, k_65536, k_100000, k_999999, k_1000000, k_2147483647, lt_T, lt_F, le_T, le_F, eq_T, eq_F, ↓reduceIte, not_true_eq_false, not_false_eq_true, or_true, or_false, true_or, false_or, and_true, true_and, and_false, false_and, r1, e3, i01_a, if_true]
theorem m_wWord {φ : Nat} (hφ : 2000 < φ) (hn : 0 ≤ n ∧ n ≤ 900) (hB : ∀ k, -128 ≤ B k ∧ B k ≤ 127) (h : RKp m B n p M) (h18 : M.1 m 18 = iI 0) {k j : Int} (hk : -1 ≤ k ∧ k < 24) (hj : pr k = j) : (wv (tok B n p) = k → ∃ M1, fX11_wantWord φ m 1002 (iI j) M = some (iI 1, M1) ∧ RKp m B n (nx B n p) M1 ∧ mAh m M M1) ∧ (wv (tok B n p) ≠ k → fX11_wantWord φ m 1002 (iI j) M = some (iI 0, stI (stI M m 18 (iI (fkT (tok B n p) 2))) m 17 (iI (tok B n p).2.1))) := by
  have e1 := m_words hφ hn hB h
  have w := wtk (B := B) h.1.1 (fun k => (hB k).2)
  have b1 := wv_bd w
  have b2 := pr_bd b1
  have b3 := pr_bd hk
  rw [hj] at b3
  refine ⟨fun q => ?_, fun q => ?_⟩
  · obtain ⟨M1, s1, s2, s3⟩ := m_goOn hφ hn hB h
    refine ⟨M1, ?_, s2, s3⟩
    rw [q, hj] at e1
    unfold fX11_wantWord
    simp (disch := omega) only [iI_add, iI_sub, iI_mul, iI_neg, iI_nat, addm1, ixkI, ↓sbind, sbind, ↓bdS, bdS, ↓nm_eq, ↓jn_eq, iI_lt, iI_le, iI_eq, k_0, k_1, k_2, k_3, k_4, k_5, k_6, k_7, k_8, k_9, k_10, k_11, k_12, k_13, k_14, k_15, k_16, k_17, k_18, k_19, k_20, k_21, k_22, k_23, k_24, k_27, k_30, k_32, k_48, k_57, k_59, k_60, k_61, k_62, k_63, k_64, k_72, k_78, k_80, k_82, k_97, k_99, k_100, k_122, k_244, k_255, k_268, k_280, k_300, k_432, k_650, k_900, k_901, k_999, k_1700, k_2600, k_2601, k_2602, k_2603, k_2604, k_2610, k_2618, k_2682, k_2777, k_2844, k_2868, k_2880, k_3245, k_3250, k_9551, k_9999, k_65536, k_100000, k_999999, k_1000000, k_2147483647, lt_T, lt_F, le_T, le_F, eq_T, eq_F, ↓reduceIte, not_true_eq_false, not_false_eq_true, or_true, or_false, true_or, false_or, and_true, true_and, and_false, false_and, e1, s1]
  · have ne : pr (wv (tok B n p)) ≠ j := fun z => by
      rw [← hj] at z
      exact q ((pr_inj b1 hk).mp z)
    have e3 := m_fails hB h h18 2
    unfold fX11_wantWord
    simp (disch := omega) only [iI_add, iI_sub, iI_mul, iI_neg, iI_nat, addm1, ixkI, ↓sbind, sbind, ↓bdS, bdS, ↓nm_eq, ↓jn_eq, iI_lt, iI_le, iI_eq, k_0, k_1, k_2, k_3, k_4, k_5, k_6, k_7, k_8, k_9, k_10, k_11, k_12, k_13, k_14, k_15, k_16, k_17, k_18, k_19, k_20, k_21, k_22, k_23, k_24, k_27, k_30, k_32, k_48, k_57, k_59, k_60, k_61, k_62, k_63, k_64, k_72, k_78, k_80, k_82, k_97, k_99, k_100, k_122, k_244, k_255, k_268, k_280, k_300, k_432, k_650, k_900, k_901, k_999, k_1700, k_2600, k_2601, k_2602, k_2603, k_2604, k_2610, k_2618, k_2682, k_2777, k_2844, k_2868, k_2880, k_3245, k_3250, k_9551, k_9999, k_65536, k_100000, k_999999, k_1000000, k_2147483647, lt_T, lt_F, le_T, le_F, eq_T, eq_F, ↓reduceIte, not_true_eq_false, not_false_eq_true, or_true, or_false, true_or, false_or, and_true, true_and, and_false, false_and, e1, e3, i01_a, if_true]
theorem m_there {φ : Nat} (hφ : 2000 < φ) (hn : 0 ≤ n ∧ n ≤ 900) (hB : ∀ k, -128 ≤ B k ∧ B k ≤ 127) (h : RKp m B n p M) {k j : Int} (hk : -1 ≤ k ∧ k < 24) (hj : pr k = j) : (wv (tok B n p) = k → ∃ M1, fX11_isThere φ m (iI j) M = some (iI 1, M1) ∧ RKp m B n (nx B n p) M1 ∧ mAh m M M1) ∧ (wv (tok B n p) ≠ k → fX11_isThere φ m (iI j) M = some (iI 0, M)) := by
  have e1 := m_words hφ hn hB h
  have w := wtk (B := B) h.1.1 (fun k => (hB k).2)
  have b1 := wv_bd w
  have b2 := pr_bd b1
  have b3 := pr_bd hk
  rw [hj] at b3
  refine ⟨fun q => ?_, fun q => ?_⟩
  · obtain ⟨M1, s1, s2, s3⟩ := m_goOn hφ hn hB h
    refine ⟨M1, ?_, s2, s3⟩
    rw [q, hj] at e1
    unfold fX11_isThere
    simp (disch := omega) only [iI_add, iI_sub, iI_mul, iI_neg, iI_nat, addm1, ixkI, ↓sbind, sbind, ↓bdS, bdS, ↓nm_eq, ↓jn_eq, iI_lt, iI_le, iI_eq, k_0, k_1, k_2, k_3, k_4, k_5, k_6, k_7, k_8, k_9, k_10, k_11, k_12, k_13, k_14, k_15, k_16, k_17, k_18, k_19, k_20, k_21, k_22, k_23, k_24, k_27, k_30, k_32, k_48, k_57, k_59, k_60, k_61, k_62, k_63, k_64, k_72, k_78, k_80, k_82, k_97, k_99, k_100, k_122, k_244, k_255, k_268, k_280, k_300, k_432, k_650, k_900, k_901, k_999, k_1700, k_2600, k_2601, k_2602, k_2603, k_2604, k_2610, k_2618, k_2682, k_2777, k_2844, k_2868, k_2880, k_3245, k_3250, k_9551, k_9999, k_65536, k_100000, k_999999, k_1000000, k_2147483647, lt_T, lt_F, le_T, le_F, eq_T, eq_F, ↓reduceIte, not_true_eq_false, not_false_eq_true, or_true, or_false, true_or, false_or, and_true, true_and, and_false, false_and, e1, s1]
  · have ne : pr (wv (tok B n p)) ≠ j := fun z => by
      rw [← hj] at z
      exact q ((pr_inj b1 hk).mp z)
    unfold fX11_isThere
    simp (disch := omega) only [iI_add, iI_sub, iI_mul, iI_neg, iI_nat, addm1, ixkI, ↓sbind, sbind, ↓bdS, bdS, ↓nm_eq, ↓jn_eq, iI_lt, iI_le, iI_eq, k_0, k_1, k_2, k_3, k_4, k_5, k_6, k_7, k_8, k_9, k_10, k_11, k_12, k_13, k_14, k_15, k_16, k_17, k_18, k_19, k_20, k_21, k_22, k_23, k_24, k_27, k_30, k_32, k_48, k_57, k_59, k_60, k_61, k_62, k_63, k_64, k_72, k_78, k_80, k_82, k_97, k_99, k_100, k_122, k_244, k_255, k_268, k_280, k_300, k_432, k_650, k_900, k_901, k_999, k_1700, k_2600, k_2601, k_2602, k_2603, k_2604, k_2610, k_2618, k_2682, k_2777, k_2844, k_2868, k_2880, k_3245, k_3250, k_9551, k_9999, k_65536, k_100000, k_999999, k_1000000, k_2147483647, lt_T, lt_F, le_T, le_F, eq_T, eq_F, ↓reduceIte, not_true_eq_false, not_false_eq_true, or_true, or_false, true_or, false_or, and_true, true_and, and_false, false_and, e1]
theorem m_wSign {φ : Nat} (hφ : 2000 < φ) (hn : 0 ≤ n ∧ n ≤ 900) (hB : ∀ k, -128 ≤ B k ∧ B k ≤ 127) (h : RKp m B n p M) (h18 : M.1 m 18 = iI 0) : (isSg (tok B n p) 59 = true → ∃ M1, fX11_wantSign φ m (iI 59) M = some (iI 1, M1) ∧ RKp m B n (nx B n p) M1 ∧ mAh m M M1) ∧ (isSg (tok B n p) 59 = false → fX11_wantSign φ m (iI 59) M = some (iI 0, stI (stI M m 18 (iI (fkT (tok B n p) 2))) m 17 (iI (tok B n p).2.1))) := by
  have e1 := m_isSign hB h (c := 59) (by omega)
  refine ⟨fun q => ?_, fun q => ?_⟩
  · rw [q] at e1
    obtain ⟨M1, s1, s2, s3⟩ := m_goOn hφ hn hB h
    refine ⟨M1, ?_, s2, s3⟩
    unfold fX11_wantSign
    simp (disch := omega) only [iI_add, iI_sub, iI_mul, iI_neg, iI_nat, addm1, ixkI, ↓sbind, sbind, ↓bdS, bdS, ↓nm_eq, ↓jn_eq, iI_lt, iI_le, iI_eq, k_0, k_1, k_2, k_3, k_4, k_5, k_6, k_7, k_8, k_9, k_10, k_11, k_12, k_13, k_14, k_15, k_16, k_17, k_18, k_19, k_20, k_21, k_22, k_23, k_24, k_27, k_30, k_32, k_48, k_57, k_59, k_60, k_61, k_62, k_63, k_64, k_72, k_78, k_80, k_82, k_97, k_99, k_100, k_122, k_244, k_255, k_268, k_280, k_300, k_432, k_650, k_900, k_901, k_999, k_1700, k_2600, k_2601, k_2602, k_2603, k_2604, k_2610, k_2618, k_2682, k_2777, k_2844, k_2868, k_2880, k_3245, k_3250, k_9551, k_9999, k_65536, k_100000, k_999999, k_1000000, k_2147483647, lt_T, lt_F, le_T, le_F, eq_T, eq_F, ↓reduceIte, not_true_eq_false, not_false_eq_true, or_true, or_false, true_or, false_or, and_true, true_and, and_false, false_and, e1, bI_t, s1]
  · rw [q] at e1
    have e3 := m_fails hB h h18 2
    unfold fX11_wantSign
    simp (disch := omega) only [iI_add, iI_sub, iI_mul, iI_neg, iI_nat, addm1, ixkI, ↓sbind, sbind, ↓bdS, bdS, ↓nm_eq, ↓jn_eq, iI_lt, iI_le, iI_eq, k_0, k_1, k_2, k_3, k_4, k_5, k_6, k_7, k_8, k_9, k_10, k_11, k_12, k_13, k_14, k_15, k_16, k_17, k_18, k_19, k_20, k_21, k_22, k_23, k_24, k_27, k_30, k_32, k_48, k_57, k_59, k_60, k_61, k_62, k_63, k_64, k_72, k_78, k_80, k_82, k_97, k_99, k_100, k_122, k_244, k_255, k_268, k_280, k_300, k_432, k_650, k_900, k_901, k_999, k_1700, k_2600, k_2601, k_2602, k_2603, k_2604, k_2610, k_2618, k_2682, k_2777, k_2844, k_2868, k_2880, k_3245, k_3250, k_9551, k_9999, k_65536, k_100000, k_999999, k_1000000, k_2147483647, lt_T, lt_F, le_T, le_F, eq_T, eq_F, ↓reduceIte, not_true_eq_false, not_false_eq_true, or_true, or_false, true_or, false_or, and_true, true_and, and_false, false_and, e1, bI_f, e3, i01_a, if_true]
theorem RKp.st (h : RKp m B n p M) (k : Nat) (v : Int32) : RKp m B n p (stI M (m + 1) k v) := by
  obtain ⟨⟨hp, h17⟩, h11, hT, r1, r2, r3, r4⟩ := h
  exact ⟨⟨hp, by rw [rI_ng (by omega)]; exact h17⟩, by rw [rI_ng (by omega)]; exact h11, fun k k0 k1 => by rw [rI_ng (by omega)]; exact hT k k0 k1, by rw [rI_ng (by omega)]; exact r1, by rw [rI_ng (by omega)]; exact r2, by rw [rI_ng (by omega)]; exact r3, fun q => by rw [rI_ng (by omega)]; exact r4 q⟩
theorem RKp.stN (h : RKp m B n p M) (k : Nat) (v : Int64) : RKp m B n p (stL M (m + 2) k v) := h
theorem m_old {φ : Nat} (hφ : 2000 < φ) (hn : 0 ≤ n ∧ n ≤ 900) (hB : ∀ k, -128 ≤ B k ∧ B k ≤ 127) (h : RKp m B n p M) (h18 : M.1 m 18 = iI 0) {to b N : Int} {a : Int → Int} (ht : (2600 ≤ to ∧ to ≠ 2604) ∧ to < 3900) (hb : 0 ≤ b ∧ b + N ≤ 90) (hN : 0 ≤ N) (ha : ∀ r, 0 ≤ r → r < N → okN (a r)) (hM : ∀ r : Int, 0 ≤ r → r < N → M.2.1 (m + 2) (b + r).toNat = lI (w8 (a r))) : (fN a N (tok B n p).2.2.2.2 = -1 → MFail m (fkT (tok B n p) (if isNm (tok B n p) = true then 3 else 2)) (tok B n p).2.1 M (fX11_oldOne φ m (iI b) (iI N) (iI to) M)) ∧ (fN a N (tok B n p).2.2.2.2 ≠ -1 → ∃ M1, fX11_oldOne φ m (iI b) (iI N) (iI to) M = some (iI 1, M1) ∧ RKp m B n (nx B n p) M1 ∧ mAh m (stI M (m + 1) to.toNat (iI (fN a N (tok B n p).2.2.2.2))) M1) := by
  have w := wtk (B := B) h.1.1 (fun k => (hB k).2)
  have e1 := m_isName hφ hn hB h
  have zm : (-1 : Int32) = iI (-1) := rfl
  have fb := fN_b a (N := N) (c := (tok B n p).2.2.2.2) (by omega)
  refine ⟨fun q => ?_, fun q => ?_⟩
  · cases hm : isNm (tok B n p) with
    | false =>
      rw [hm] at e1
      have e3 := m_fails hB h h18 2
      refine MFail.of M ?_
      unfold fX11_oldOne
      simp (disch := omega) only [iI_add, iI_sub, iI_mul, iI_neg, iI_nat, addm1, ixkI, ↓sbind, sbind, ↓bdS, bdS, ↓nm_eq, ↓jn_eq, iI_lt, iI_le, iI_eq, k_0, k_1, k_2, k_3, k_4, k_5, k_6, k_7, k_8, k_9, k_10, k_11, k_12, k_13, k_14, k_15, k_16, k_17, k_18, k_19, k_20, k_21, k_22, k_23, k_24, k_27, k_30, k_32, k_48, k_57, k_59, k_60, k_61, k_62, k_63, k_64, k_72, k_78, k_80, k_82, k_97, k_99, k_100, k_122, k_244, k_255, k_268, k_280, k_300, k_432, k_650, k_900, k_901, k_999, k_1700, k_2600, k_2601, k_2602, k_2603, k_2604, k_2610, k_2618, k_2682, k_2777, k_2844, k_2868, k_2880, k_3245, k_3250, k_9551, k_9999, k_65536, k_100000, k_999999, k_1000000, k_2147483647, lt_T, lt_F, le_T, le_F, eq_T, eq_F, ↓reduceIte, not_true_eq_false, not_false_eq_true, or_true, or_false, true_or, false_or, and_true, true_and, and_false, false_and, e1, bI_f, e3, i01_a, if_true, Bool.false_eq_true]
    | true =>
      rw [hm] at e1
      have e2 := m_find hφ hn hB h hm hb hN ha hM
      rw [q] at e2
      have e3 := m_fails hB (h.st to.toNat (iI (-1))) (by rw [rI_ng (by omega)]; exact h18) 3
      refine MFail.le (RW.st ht.1 M (iI (-1))) (MFail.of _ ?_)
      have e4 : (stI M (m + 1) to.toNat (iI (-1))).1 (m + 1) to.toNat = iI (-1) := rI_at rfl rfl
      unfold fX11_oldOne
      simp (disch := omega) only [iI_add, iI_sub, iI_mul, iI_neg, iI_nat, addm1, ixkI, ↓sbind, sbind, ↓bdS, bdS, ↓nm_eq, ↓jn_eq, iI_lt, iI_le, iI_eq, k_0, k_1, k_2, k_3, k_4, k_5, k_6, k_7, k_8, k_9, k_10, k_11, k_12, k_13, k_14, k_15, k_16, k_17, k_18, k_19, k_20, k_21, k_22, k_23, k_24, k_27, k_30, k_32, k_48, k_57, k_59, k_60, k_61, k_62, k_63, k_64, k_72, k_78, k_80, k_82, k_97, k_99, k_100, k_122, k_244, k_255, k_268, k_280, k_300, k_432, k_650, k_900, k_901, k_999, k_1700, k_2600, k_2601, k_2602, k_2603, k_2604, k_2610, k_2618, k_2682, k_2777, k_2844, k_2868, k_2880, k_3245, k_3250, k_9551, k_9999, k_65536, k_100000, k_999999, k_1000000, k_2147483647, lt_T, lt_F, le_T, le_F, eq_T, eq_F, ↓reduceIte, not_true_eq_false, not_false_eq_true, or_true, or_false, true_or, false_or, and_true, true_and, and_false, false_and, e1, bI_t, e2, e4, zm, e3, i01_a, if_true]
  · have hm : isNm (tok B n p) = true := by
      cases hm : isNm (tok B n p) with
      | true => rfl
      | false => exact absurd (fN_no hN ha w hm) q
    rw [hm] at e1
    have e2 := m_find hφ hn hB h hm hb hN ha hM
    obtain ⟨M1, s1, s2, s3⟩ := m_goOn hφ hn hB (h.st to.toNat (iI (fN a N (tok B n p).2.2.2.2)))
    refine ⟨M1, ?_, s2, s3⟩
    have e4 : (stI M (m + 1) to.toNat (iI (fN a N (tok B n p).2.2.2.2))).1 (m + 1) to.toNat = iI (fN a N (tok B n p).2.2.2.2) := rI_at rfl rfl
    unfold fX11_oldOne
    simp (disch := omega) only [iI_add, iI_sub, iI_mul, iI_neg, iI_nat, addm1, ixkI, ↓sbind, sbind, ↓bdS, bdS, ↓nm_eq, ↓jn_eq, iI_lt, iI_le, iI_eq, k_0, k_1, k_2, k_3, k_4, k_5, k_6, k_7, k_8, k_9, k_10, k_11, k_12, k_13, k_14, k_15, k_16, k_17, k_18, k_19, k_20, k_21, k_22, k_23, k_24, k_27, k_30, k_32, k_48, k_57, k_59, k_60, k_61, k_62, k_63, k_64, k_72, k_78, k_80, k_82, k_97, k_99, k_100, k_122, k_244, k_255, k_268, k_280, k_300, k_432, k_650, k_900, k_901, k_999, k_1700, k_2600, k_2601, k_2602, k_2603, k_2604, k_2610, k_2618, k_2682, k_2777, k_2844, k_2868, k_2880, k_3245, k_3250, k_9551, k_9999, k_65536, k_100000, k_999999, k_1000000, k_2147483647, lt_T, lt_F, le_T, le_F, eq_T, eq_F, ↓reduceIte, not_true_eq_false, not_false_eq_true, or_true, or_false, true_or, false_or, and_true, true_and, and_false, false_and, e1, bI_t, e2, e4, zm, s1]
theorem mAh.stL {M1 : Mem} (a : mAh m M M1) (k : Nat) (v : Int64) : mAh m (stL M (m + 2) k v) (stL M1 (m + 2) k v) := by
  refine ⟨a.1, ?_, fun z hz => ⟨(a.2.2 z hz).1, ?_, (a.2.2 z hz).2.2⟩⟩
  · show ((fun x y => if x = m + 2 ∧ y = k then v else M1.2.1 x y), M1.2.2) = ((fun x y => if x = m + 2 ∧ y = k then v else M.2.1 x y), M.2.2)
    rw [a.2.1]
  · funext j
    rw [stL_2, stL_2, (a.2.2 z hz).2.1]
end OP
