/-! the tape; the fault of the latest text -/
section FE
variable {m t : Nat} {M : Mem}
abbrev TPS : Type := Int × (Int → Int)
def WTp (Q : TPS) : Prop := (0 ≤ Q.1 ∧ Q.1 ≤ 900) ∧ ∀ k, -128 ≤ Q.2 k ∧ Q.2 k ≤ 127
def TpC (t : Nat) (Q : TPS) (M : Mem) : Prop := M.1 t 1 = iI Q.1 ∧ ∀ k : Int, 0 ≤ k → k < Q.1 → M.1 (t + 1) k.toNat = iI (Q.2 k)
def TpM (m : Nat) (Q : TPS) (M : Mem) : Prop := M.1 m 10 = iI Q.1 ∧ ∀ k : Int, 0 ≤ k → k < Q.1 → M.1 (m + 6) k.toNat = iI (Q.2 k)
def by4 (a : Int32) (s : Int) : Int32 := vp_nar .byte ((a >>> (iI s &&& 31)).toInt8.toInt32)
theorem by4_bd (a : Int32) (s : Int) : -128 ≤ (by4 a s).toInt ∧ (by4 a s).toInt ≤ 127 := by
  unfold by4
  rw [vp_nar_byte, Int8.toInt_toInt32]
  have h1 := Int8.le_toInt ((a >>> (iI s &&& 31)).toInt8.toInt32).toInt8
  have h2 := Int8.toInt_lt ((a >>> (iI s &&& 31)).toInt8.toInt32).toInt8
  omega
def q_add (Q : TPS) (v : Int32) : TPS := (Q.1 + 1, fun k => if k = Q.1 then v.toInt else Q.2 k)
theorem WTp.add {Q : TPS} (w : WTp Q) (h : Q.1 < 900) (a : Int32) (s : Int) : WTp (q_add Q (by4 a s)) := by
  have b := by4_bd a s
  refine ⟨⟨?_, ?_⟩, fun k => ?_⟩
  · show 0 ≤ Q.1 + 1
    have := w.1.1
    omega
  · show Q.1 + 1 ≤ 900
    omega
  · show -128 ≤ (if k = Q.1 then (by4 a s).toInt else Q.2 k) ∧ (if k = Q.1 then (by4 a s).toInt else Q.2 k) ≤ 127
    split
    · exact b
    · exact w.2 k
theorem TpC.add {Q : TPS} (w : WTp Q) (h : TpC t Q M) (v : Int32) : TpC t (q_add Q v) (stI (stI M (t + 1) Q.1.toNat v) t 1 (iI (Q.1 + 1))) := by
  have := w.1.1
  refine ⟨rI_at rfl rfl, fun k k0 k1 => ?_⟩
  have k1 : k < Q.1 + 1 := k1
  show _ = iI (if k = Q.1 then v.toInt else Q.2 k)
  rw [rI_ng (by omega)]
  by_cases q : k = Q.1
  · rw [if_pos q, rI_at rfl (by omega), iI_of]
  · rw [if_neg q, rI_nk (by omega)]; exact h.2 k k0 (by omega)
theorem TpM.add {Q : TPS} (w : WTp Q) (h : TpM m Q M) (v : Int32) : TpM m (q_add Q v) (stI (stI M (m + 6) Q.1.toNat v) m 10 (iI (Q.1 + 1))) := by
  have := w.1.1
  refine ⟨rI_at rfl rfl, fun k k0 k1 => ?_⟩
  have k1 : k < Q.1 + 1 := k1
  show _ = iI (if k = Q.1 then v.toInt else Q.2 k)
  rw [rI_ng (by omega)]
  by_cases q : k = Q.1
  · rw [if_pos q, rI_at rfl (by omega), iI_of]
  · rw [if_neg q, rI_nk (by omega)]; exact h.2 k k0 (by omega)
def q_add4 (Q : TPS) (a : Int32) : TPS := q_add (q_add (q_add (q_add Q (by4 a 24)) (by4 a 16)) (by4 a 8)) (by4 a 0)
def KpC (t : Nat) (M M1 : Mem) : Prop := (∀ i, i ≠ 1 → M1.1 t i = M.1 t i) ∧ M1.2 = M.2 ∧ Fr (Rg t (t + 1)) M M1
def KpM (m : Nat) (M M1 : Mem) : Prop := (∀ i, i ≠ 10 → M1.1 m i = M.1 m i) ∧ M1.2 = M.2 ∧ Fr (fun z => z = m ∨ z = m + 6) M M1
theorem KpC.refl (t : Nat) (M : Mem) : KpC t M M := ⟨fun _ _ => rfl, rfl, Fr.refl M⟩
theorem KpM.refl (m : Nat) (M : Mem) : KpM m M M := ⟨fun _ _ => rfl, rfl, Fr.refl M⟩
theorem KpC.trans {M1 M2 : Mem} (a : KpC t M M1) (b : KpC t M1 M2) : KpC t M M2 := ⟨fun i h => (b.1 i h).trans (a.1 i h), b.2.1.trans a.2.1, a.2.2.trans b.2.2⟩
theorem KpM.trans {M1 M2 : Mem} (a : KpM m M M1) (b : KpM m M1 M2) : KpM m M M2 := ⟨fun i h => (b.1 i h).trans (a.1 i h), b.2.1.trans a.2.1, a.2.2.trans b.2.2⟩
theorem c_add_s {Q : TPS} (w : WTp Q) (h9 : Q.1 < 900) (h : TpC t Q M) (a : Int32) {s : Int} (hs : 0 ≤ s ∧ s ≤ 24) (k : Nat) : lX6_addInt_3 t a (k + 1) (iI s) M = lX6_addInt_3 t a k (iI (s + -8)) (stI (stI M (t + 1) Q.1.toNat (by4 a s)) t 1 (iI (Q.1 + 1))) := by
  have e1 := h.1
  have := w.1.1
  have e2 : (stI M (t + 1) Q.1.toNat (by4 a s)).1 t 1 = iI Q.1 := by rw [rI_ng (by omega)]; exact e1
  have z8 : (-8 : Int32) = iI (-8) := rfl
  have z3 : (31 : Int32) = iI 31 := rfl
  have eb : vp_nar .byte ((a >>> (iI s &&& iI 31)).toInt8.toInt32) = by4 a s := rfl
  rw [lX6_addInt_3]
  simp (disch := omega) only [iI_add, iI_sub, iI_mul, iI_neg, iI_nat, addm1, ixkI, ↓sbind, sbind, ↓bdS, bdS, ↓nm_eq, ↓jn_eq, iI_lt, iI_le, iI_eq, k_0, k_1, k_2, k_3, k_4, k_5, k_6, k_7, k_8, k_9, k_10, k_11, k_12, k_13, k_14, k_15, k_16, k_17, k_18, k_19, k_20, k_21, k_22, k_23, k_24, k_27, k_30, k_32, k_48, k_57, k_59, k_60, k_61, k_62, k_63, k_64, k_72, k_78, k_80, k_82, k_97, k_99, k_100, k_122, k_244, k_255, k_268, k_280, k_300, k_432, k_650, k_900, k_901, k_999, k_1700, k_2600, k_2601, k_2602, k_2603, k_2604, k_2610, k_2618, k_2682, k_2777, k_2844, k_2868, k_2880, k_3245, k_3250, k_9551, k_9999, k_65536, k_100000, k_999999, k_1000000, k_2147483647, lt_T, lt_F, le_T, le_F, eq_T, eq_F, ↓reduceIte, not_true_eq_false, not_false_eq_true, or_true, or_false, true_or, false_or, and_true, true_and, and_false, false_and, z8, z3, e1, eb, e2]
theorem m_add_s {Q : TPS} (w : WTp Q) (h9 : Q.1 < 900) (h : TpM m Q M) (a : Int32) {s : Int} (hs : 0 ≤ s ∧ s ≤ 24) (k : Nat) : lX11_four_3 m a (k + 1) (iI s) M = lX11_four_3 m a k (iI (s + -8)) (stI (stI M (m + 6) Q.1.toNat (by4 a s)) m 10 (iI (Q.1 + 1))) := by
  have e1 := h.1
  have := w.1.1
  have e2 : (stI M (m + 6) Q.1.toNat (by4 a s)).1 m 10 = iI Q.1 := by rw [rI_ng (by omega)]; exact e1
  have z8 : (-8 : Int32) = iI (-8) := rfl
  have z3 : (31 : Int32) = iI 31 := rfl
  have eb : vp_nar .byte ((a >>> (iI s &&& iI 31)).toInt8.toInt32) = by4 a s := rfl
  rw [lX11_four_3]
  simp (disch := omega) only [iI_add, iI_sub, iI_mul, iI_neg, iI_nat, addm1, ixkI, ↓sbind, sbind, ↓bdS, bdS, ↓nm_eq, ↓jn_eq, iI_lt, iI_le, iI_eq, k_0, k_1, k_2, k_3, k_4, k_5, k_6, k_7, k_8, k_9, k_10, k_11, k_12, k_13, k_14, k_15, k_16, k_17, k_18, k_19, k_20, k_21, k_22, k_23, k_24, k_27, k_30, k_32, k_48, k_57, k_59, k_60, k_61, k_62, k_63, k_64, k_72, k_78, k_80, k_82, k_97, k_99, k_100, k_122, k_244, k_255, k_268, k_280, k_300, k_432, k_650, k_900, k_901, k_999, k_1700, k_2600, k_2601, k_2602, k_2603, k_2604, k_2610, k_2618, k_2682, k_2777, k_2844, k_2868, k_2880, k_3245, k_3250, k_9551, k_9999, k_65536, k_100000, k_999999, k_1000000, k_2147483647, lt_T, lt_F, le_T, le_F, eq_T, eq_F, ↓reduceIte, not_true_eq_false, not_false_eq_true, or_true, or_false, true_or, false_or, and_true, true_and, and_false, false_and, z8, z3, e1, eb, e2]
theorem kc_add (M : Mem) (j : Nat) (v v' : Int32) : KpC t M (stI (stI M (t + 1) j v) t 1 v') := ⟨fun i h => by rw [rI_nk h, rI_ng (by omega)], rfl, Fr.stI ⟨by omega, by omega⟩ (Fr.stI ⟨by omega, by omega⟩ (Fr.refl M))⟩
theorem km_add (M : Mem) (j : Nat) (v v' : Int32) : KpM m M (stI (stI M (m + 6) j v) m 10 v') := ⟨fun i h => by rw [rI_nk h, rI_ng (by omega)], rfl, Fr.stI (Or.inl rfl) (Fr.stI (Or.inr rfl) (Fr.refl M))⟩
theorem q_add4_1 (Q : TPS) (a : Int32) : (q_add4 Q a).1 = Q.1 + 4 := by
  show Q.1 + 1 + 1 + 1 + 1 = Q.1 + 4
  omega
theorem WTp.add4 {Q : TPS} (w : WTp Q) (h : Q.1 + 4 ≤ 900) (a : Int32) : WTp (q_add4 Q a) := by
  refine (((w.add (by omega) a 24).add ?_ a 16).add ?_ a 8).add ?_ a 0
  · show Q.1 + 1 < 900; omega
  · show Q.1 + 1 + 1 < 900; omega
  · show Q.1 + 1 + 1 + 1 < 900; omega
theorem c_addInt {Q : TPS} (w : WTp Q) (h9 : Q.1 + 4 ≤ 900) (h : TpC t Q M) (a : Int32) {φ : Nat} (hφ : 100 < φ) : ∃ M1, fX6_addInt φ t a M = some ((), M1) ∧ TpC t (q_add4 Q a) M1 ∧ KpC t M M1 := by
  obtain ⟨k, rfl⟩ : ∃ q, φ = q + 5 := ⟨φ - 5, by omega⟩
  have w1 := w.add (by omega) a 24
  have l1 : (q_add Q (by4 a 24)).1 < 900 := by show Q.1 + 1 < 900; omega
  have w2 := w1.add l1 a 16
  have l2 : (q_add (q_add Q (by4 a 24)) (by4 a 16)).1 < 900 := by show Q.1 + 1 + 1 < 900; omega
  have w3 := w2.add l2 a 8
  have l3 : (q_add (q_add (q_add Q (by4 a 24)) (by4 a 16)) (by4 a 8)).1 < 900 := by show Q.1 + 1 + 1 + 1 < 900; omega
  have h1 := h.add w (by4 a 24)
  have h2 := h1.add w1 (by4 a 16)
  have h3 := h2.add w2 (by4 a 8)
  have h4 := h3.add w3 (by4 a 0)
  have s1 := c_add_s w (by omega) h a (s := 24) (by omega) (k + 4)
  have s2 := c_add_s w1 l1 h1 a (s := 16) (by omega) (k + 3)
  have s3 := c_add_s w2 l2 h2 a (s := 8) (by omega) (k + 2)
  have s4 := c_add_s w3 l3 h3 a (s := 0) (by omega) (k + 1)
  have s5 : ∀ M, lX6_addInt_3 t a (k + 1) (iI (-8)) M = some ((), M) := fun M => by
    rw [lX6_addInt_3]
    simp (disch := omega) only [iI_add, iI_sub, iI_mul, iI_neg, iI_nat, addm1, ixkI, ↓sbind, sbind, ↓bdS, bdS, ↓nm_eq, ↓jn_eq, iI_lt, iI_le, iI_eq, k_0, k_1, k_2, k_3, k_4, k_5, k_6, k_7, k_8, k_9, k_10, k_11, k_12, k_13, k_14, k_15, k_16, k_17, k_18, k_19, k_20, k_21, k_22, k_23, k_24, k_27, k_30, k_32, k_48, k_57, k_59, k_60, k_61, k_62, k_63, k_64, k_72, k_78, k_80, k_82, k_97, k_99, k_100, k_122, k_244, k_255, k_268, k_280, k_300, k_432, k_650, k_900, k_901, k_999, k_1700, k_2600, k_2601, k_2602, k_2603, k_2604, k_2610, k_2618, k_2682, k_2777, k_2844, k_2868, k_2880, k_3245, k_3250, k_9551, k_9999, k_65536, k_100000, k_999999, k_1000000, k_2147483647, lt_T, lt_F, le_T, le_F, eq_T, eq_F, ↓reduceIte, not_true_eq_false, not_false_eq_true, or_true, or_false, true_or, false_or, and_true, true_and, and_false, false_and]
  refine ⟨_, s1.trans (s2.trans (s3.trans (s4.trans (s5 _)))), h4, ((((kc_add _ _ _ _).trans (kc_add _ _ _ _)).trans (kc_add _ _ _ _)).trans (kc_add _ _ _ _))⟩
theorem m_four {Q : TPS} (w : WTp Q) (h9 : Q.1 + 4 ≤ 900) (h : TpM m Q M) (a : Int32) {φ : Nat} (hφ : 100 < φ) : ∃ M1, fX11_four φ m a M = some ((), M1) ∧ TpM m (q_add4 Q a) M1 ∧ KpM m M M1 := by
  obtain ⟨k, rfl⟩ : ∃ q, φ = q + 5 := ⟨φ - 5, by omega⟩
  have w1 := w.add (by omega) a 24
  have l1 : (q_add Q (by4 a 24)).1 < 900 := by show Q.1 + 1 < 900; omega
  have w2 := w1.add l1 a 16
  have l2 : (q_add (q_add Q (by4 a 24)) (by4 a 16)).1 < 900 := by show Q.1 + 1 + 1 < 900; omega
  have w3 := w2.add l2 a 8
  have l3 : (q_add (q_add (q_add Q (by4 a 24)) (by4 a 16)) (by4 a 8)).1 < 900 := by show Q.1 + 1 + 1 + 1 < 900; omega
  have h1 := h.add w (by4 a 24)
  have h2 := h1.add w1 (by4 a 16)
  have h3 := h2.add w2 (by4 a 8)
  have h4 := h3.add w3 (by4 a 0)
  have s1 := m_add_s w (by omega) h a (s := 24) (by omega) (k + 4)
  have s2 := m_add_s w1 l1 h1 a (s := 16) (by omega) (k + 3)
  have s3 := m_add_s w2 l2 h2 a (s := 8) (by omega) (k + 2)
  have s4 := m_add_s w3 l3 h3 a (s := 0) (by omega) (k + 1)
  have s5 : ∀ M, lX11_four_3 m a (k + 1) (iI (-8)) M = some ((), M) := fun M => by
    rw [lX11_four_3]
    simp (disch := omega) only [iI_add, iI_sub, iI_mul, iI_neg, iI_nat, addm1, ixkI, ↓sbind, sbind, ↓bdS, bdS, ↓nm_eq, ↓jn_eq, iI_lt, iI_le, iI_eq, k_0, k_1, k_2, k_3, k_4, k_5, k_6, k_7, k_8, k_9, k_10, k_11, k_12, k_13, k_14, k_15, k_16, k_17, k_18, k_19, k_20, k_21, k_22, k_23, k_24, k_27, k_30, k_32, k_48, k_57, k_59, k_60, k_61, k_62, k_63, k_64, k_72, k_78, k_80, k_82, k_97, k_99, k_100, k_122, k_244, k_255, k_268, k_280, k_300, k_432, k_650, k_900, k_901, k_999, k_1700, k_2600, k_2601, k_2602, k_2603, k_2604, k_2610, k_2618, k_2682, k_2777, k_2844, k_2868, k_2880, k_3245, k_3250, k_9551, k_9999, k_65536, k_100000, k_999999, k_1000000, k_2147483647, lt_T, lt_F, le_T, le_F, eq_T, eq_F, ↓reduceIte, not_true_eq_false, not_false_eq_true, or_true, or_false, true_or, false_or, and_true, true_and, and_false, false_and]
  refine ⟨_, s1.trans (s2.trans (s3.trans (s4.trans (s5 _)))), h4, ((((km_add _ _ _ _).trans (km_add _ _ _ _)).trans (km_add _ _ _ _)).trans (km_add _ _ _ _))⟩
theorem tl_feed {Q : TPS} (w : WTp Q) (a b c d e : Int32) {φ : Nat} (hφ : 100 < φ) : ∃ (v : Int32) (Q' : TPS), WTp Q' ∧ (∀ M, TpC (0 + 2) Q M → ∃ M1, fX10_feed φ 0 a b c d e M = some (v, M1) ∧ TpC (0 + 2) Q' M1 ∧ KpC (0 + 2) M M1) ∧ ∀ m M, TpM m Q M → ∃ M1, fX11_feed φ m a b c d e M = some (v, M1) ∧ TpM m Q' M1 ∧ KpM m M M1 := by
  have w0 := w.1
  have z20 : (20 : Int32) = iI 20 := rfl
  by_cases h : Q.1 + 20 ≤ 900
  · have wa := w.add4 (by omega) a
    have la := q_add4_1 Q a
    have wb := wa.add4 (by omega) b
    have lb := q_add4_1 (q_add4 Q a) b
    have wc := wb.add4 (by omega) c
    have lc := q_add4_1 (q_add4 (q_add4 Q a) b) c
    have wd := wc.add4 (by omega) d
    have ld := q_add4_1 (q_add4 (q_add4 (q_add4 Q a) b) c) d
    have we := wd.add4 (by omega) e
    refine ⟨iI (q_add4 (q_add4 (q_add4 (q_add4 (q_add4 Q a) b) c) d) e).1, _, we, fun M hQ => ?_, fun m M hQ => ?_⟩
    · obtain ⟨M1, a1, a2, a3⟩ := c_addInt w (by omega) hQ a hφ
      obtain ⟨M2, b1, b2, b3⟩ := c_addInt wa (by omega) a2 b hφ
      obtain ⟨M3, c1, c2, c3⟩ := c_addInt wb (by omega) b2 c hφ
      obtain ⟨M4, d1, d2, d3⟩ := c_addInt wc (by omega) c2 d hφ
      obtain ⟨M5, e1, e2, e3⟩ := c_addInt wd (by omega) d2 e hφ
      have q1 := hQ.1
      have q5 := e2.1
      refine ⟨M5, ?_, e2, (((a3.trans b3).trans c3).trans d3).trans e3⟩
      unfold fX10_feed fX6_hasRoomFor
      simp (disch := omega) only [iI_add, iI_sub, iI_mul, iI_neg, iI_nat, addm1, ixkI, ↓sbind, sbind, ↓bdS, bdS, ↓nm_eq, ↓jn_eq, iI_lt, iI_le, iI_eq, k_0, k_1, k_2, k_3, k_4, k_5, k_6, k_7, k_8, k_9, k_10, k_11, k_12, k_13, k_14, k_15, k_16, k_17, k_18, k_19, k_20, k_21, k_22, k_23, k_24, k_27, k_30, k_32, k_48, k_57, k_59, k_60, k_61, k_62, k_63, k_64, k_72, k_78, k_80, k_82, k_97, k_99, k_100, k_122, k_244, k_255, k_268, k_280, k_300, k_432, k_650, k_900, k_901, k_999, k_1700, k_2600, k_2601, k_2602, k_2603, k_2604, k_2610, k_2618, k_2682, k_2777, k_2844, k_2868, k_2880, k_3245, k_3250, k_9551, k_9999, k_65536, k_100000, k_999999, k_1000000, k_2147483647, lt_T, lt_F, le_T, le_F, eq_T, eq_F, ↓reduceIte, not_true_eq_false, not_false_eq_true, or_true, or_false, true_or, false_or, and_true, true_and, and_false, false_and, z20, q1, a1, b1, c1, d1, e1, q5]
    · obtain ⟨M1, a1, a2, a3⟩ := m_four w (by omega) hQ a hφ
      obtain ⟨M2, b1, b2, b3⟩ := m_four wa (by omega) a2 b hφ
      obtain ⟨M3, c1, c2, c3⟩ := m_four wb (by omega) b2 c hφ
      obtain ⟨M4, d1, d2, d3⟩ := m_four wc (by omega) c2 d hφ
      obtain ⟨M5, e1, e2, e3⟩ := m_four wd (by omega) d2 e hφ
      have q1 := hQ.1
      have q5 := e2.1
      refine ⟨M5, ?_, e2, (((a3.trans b3).trans c3).trans d3).trans e3⟩
      unfold fX11_feed
      simp (disch := omega) only [iI_add, iI_sub, iI_mul, iI_neg, iI_nat, addm1, ixkI, ↓sbind, sbind, ↓bdS, bdS, ↓nm_eq, ↓jn_eq, iI_lt, iI_le, iI_eq, k_0, k_1, k_2, k_3, k_4, k_5, k_6, k_7, k_8, k_9, k_10, k_11, k_12, k_13, k_14, k_15, k_16, k_17, k_18, k_19, k_20, k_21, k_22, k_23, k_24, k_27, k_30, k_32, k_48, k_57, k_59, k_60, k_61, k_62, k_63, k_64, k_72, k_78, k_80, k_82, k_97, k_99, k_100, k_122, k_244, k_255, k_268, k_280, k_300, k_432, k_650, k_900, k_901, k_999, k_1700, k_2600, k_2601, k_2602, k_2603, k_2604, k_2610, k_2618, k_2682, k_2777, k_2844, k_2868, k_2880, k_3245, k_3250, k_9551, k_9999, k_65536, k_100000, k_999999, k_1000000, k_2147483647, lt_T, lt_F, le_T, le_F, eq_T, eq_F, ↓reduceIte, not_true_eq_false, not_false_eq_true, or_true, or_false, true_or, false_or, and_true, true_and, and_false, false_and, z20, q1, a1, b1, c1, d1, e1, q5]
  · refine ⟨iI (-1), Q, w, fun M hQ => ⟨M, ?_, hQ, KpC.refl _ M⟩, fun m M hQ => ⟨M, ?_, hQ, KpM.refl m M⟩⟩
    · have q1 := hQ.1
      unfold fX10_feed fX6_hasRoomFor
      simp (disch := omega) only [iI_add, iI_sub, iI_mul, iI_neg, iI_nat, addm1, ixkI, ↓sbind, sbind, ↓bdS, bdS, ↓nm_eq, ↓jn_eq, iI_lt, iI_le, iI_eq, k_0, k_1, k_2, k_3, k_4, k_5, k_6, k_7, k_8, k_9, k_10, k_11, k_12, k_13, k_14, k_15, k_16, k_17, k_18, k_19, k_20, k_21, k_22, k_23, k_24, k_27, k_30, k_32, k_48, k_57, k_59, k_60, k_61, k_62, k_63, k_64, k_72, k_78, k_80, k_82, k_97, k_99, k_100, k_122, k_244, k_255, k_268, k_280, k_300, k_432, k_650, k_900, k_901, k_999, k_1700, k_2600, k_2601, k_2602, k_2603, k_2604, k_2610, k_2618, k_2682, k_2777, k_2844, k_2868, k_2880, k_3245, k_3250, k_9551, k_9999, k_65536, k_100000, k_999999, k_1000000, k_2147483647, lt_T, lt_F, le_T, le_F, eq_T, eq_F, ↓reduceIte, not_true_eq_false, not_false_eq_true, or_true, or_false, true_or, false_or, and_true, true_and, and_false, false_and, z20, q1]
    · have q1 := hQ.1
      unfold fX11_feed
      simp (disch := omega) only [iI_add, iI_sub, iI_mul, iI_neg, iI_nat, addm1, ixkI, ↓sbind, sbind, ↓bdS, bdS, ↓nm_eq, ↓jn_eq, iI_lt, iI_le, iI_eq, k_0, k_1, k_2, k_3, k_4, k_5, k_6, k_7, k_8, k_9, k_10, k_11, k_12, k_13, k_14, k_15, k_16, k_17, k_18, k_19, k_20, k_21, k_22, k_23, k_24, k_27, k_30, k_32, k_48, k_57, k_59, k_60, k_61, k_62, k_63, k_64, k_72, k_78, k_80, k_82, k_97, k_99, k_100, k_122, k_244, k_255, k_268, k_280, k_300, k_432, k_650, k_900, k_901, k_999, k_1700, k_2600, k_2601, k_2602, k_2603, k_2604, k_2610, k_2618, k_2682, k_2777, k_2844, k_2868, k_2880, k_3245, k_3250, k_9551, k_9999, k_65536, k_100000, k_999999, k_1000000, k_2147483647, lt_T, lt_F, le_T, le_F, eq_T, eq_F, ↓reduceIte, not_true_eq_false, not_false_eq_true, or_true, or_false, true_or, false_or, and_true, true_and, and_false, false_and, z20, q1]
/-- the fault: whether a text was read, kind, place -/
abbrev FS : Type := Bool × Int × Int
def FC (t : Nat) (S : FS) (M : Mem) : Prop := M.1 t 8 = bI S.1 ∧ (S.1 = true → M.1 t 9 = iI S.2.1 ∧ M.1 t 10 = iI S.2.2)
def FMd (m : Nat) (S : FS) (M : Mem) : Prop := (S.1 = false → M.1 m 16 = iI (-1) ∧ M.1 m 17 = iI (-1)) ∧ (S.1 = true → M.1 m 16 = iI S.2.1 ∧ M.1 m 17 = iI S.2.2)
theorem tl_fault (S : FS) {a : Int} (ha : -2147483648 ≤ a ∧ a < 2147483648) : ∃ v : Int32, (∀ M, FC (0 + 2) S M → fX10_fault 0 (iI a) M = some v) ∧ ∀ m M, FMd m S M → fX11_fault m (iI a) M = some v := by
  obtain ⟨b, k, p⟩ := S
  cases b with
  | false =>
    refine ⟨iI (-1), fun M h => ?_, fun m M h => ?_⟩
    · have e1 := h.1
      unfold fX10_fault
      simp (disch := omega) only [iI_add, iI_sub, iI_mul, iI_neg, iI_nat, addm1, ixkI, ↓sbind, sbind, ↓bdS, bdS, ↓nm_eq, ↓jn_eq, iI_lt, iI_le, iI_eq, k_0, k_1, k_2, k_3, k_4, k_5, k_6, k_7, k_8, k_9, k_10, k_11, k_12, k_13, k_14, k_15, k_16, k_17, k_18, k_19, k_20, k_21, k_22, k_23, k_24, k_27, k_30, k_32, k_48, k_57, k_59, k_60, k_61, k_62, k_63, k_64, k_72, k_78, k_80, k_82, k_97, k_99, k_100, k_122, k_244, k_255, k_268, k_280, k_300, k_432, k_650, k_900, k_901, k_999, k_1700, k_2600, k_2601, k_2602, k_2603, k_2604, k_2610, k_2618, k_2682, k_2777, k_2844, k_2868, k_2880, k_3245, k_3250, k_9551, k_9999, k_65536, k_100000, k_999999, k_1000000, k_2147483647, lt_T, lt_F, le_T, le_F, eq_T, eq_F, ↓reduceIte, not_true_eq_false, not_false_eq_true, or_true, or_false, true_or, false_or, and_true, true_and, and_false, false_and, bI_f, e1]
    · obtain ⟨e1, e2⟩ := h.1 rfl
      unfold fX11_fault
      by_cases h0 : a = 0
      · simp (disch := omega) only [iI_add, iI_sub, iI_mul, iI_neg, iI_nat, addm1, ixkI, ↓sbind, sbind, ↓bdS, bdS, ↓nm_eq, ↓jn_eq, iI_lt, iI_le, iI_eq, k_0, k_1, k_2, k_3, k_4, k_5, k_6, k_7, k_8, k_9, k_10, k_11, k_12, k_13, k_14, k_15, k_16, k_17, k_18, k_19, k_20, k_21, k_22, k_23, k_24, k_27, k_30, k_32, k_48, k_57, k_59, k_60, k_61, k_62, k_63, k_64, k_72, k_78, k_80, k_82, k_97, k_99, k_100, k_122, k_244, k_255, k_268, k_280, k_300, k_432, k_650, k_900, k_901, k_999, k_1700, k_2600, k_2601, k_2602, k_2603, k_2604, k_2610, k_2618, k_2682, k_2777, k_2844, k_2868, k_2880, k_3245, k_3250, k_9551, k_9999, k_65536, k_100000, k_999999, k_1000000, k_2147483647, lt_T, lt_F, le_T, le_F, eq_T, eq_F, ↓reduceIte, not_true_eq_false, not_false_eq_true, or_true, or_false, true_or, false_or, and_true, true_and, and_false, false_and, e1, h0]
      · by_cases h1 : a = 1
        · simp (disch := omega) only [iI_add, iI_sub, iI_mul, iI_neg, iI_nat, addm1, ixkI, ↓sbind, sbind, ↓bdS, bdS, ↓nm_eq, ↓jn_eq, iI_lt, iI_le, iI_eq, k_0, k_1, k_2, k_3, k_4, k_5, k_6, k_7, k_8, k_9, k_10, k_11, k_12, k_13, k_14, k_15, k_16, k_17, k_18, k_19, k_20, k_21, k_22, k_23, k_24, k_27, k_30, k_32, k_48, k_57, k_59, k_60, k_61, k_62, k_63, k_64, k_72, k_78, k_80, k_82, k_97, k_99, k_100, k_122, k_244, k_255, k_268, k_280, k_300, k_432, k_650, k_900, k_901, k_999, k_1700, k_2600, k_2601, k_2602, k_2603, k_2604, k_2610, k_2618, k_2682, k_2777, k_2844, k_2868, k_2880, k_3245, k_3250, k_9551, k_9999, k_65536, k_100000, k_999999, k_1000000, k_2147483647, lt_T, lt_F, le_T, le_F, eq_T, eq_F, ↓reduceIte, not_true_eq_false, not_false_eq_true, or_true, or_false, true_or, false_or, and_true, true_and, and_false, false_and, e2, h1]
        · simp (disch := omega) only [iI_add, iI_sub, iI_mul, iI_neg, iI_nat, addm1, ixkI, ↓sbind, sbind, ↓bdS, bdS, ↓nm_eq, ↓jn_eq, iI_lt, iI_le, iI_eq, k_0, k_1, k_2, k_3, k_4, k_5, k_6, k_7, k_8, k_9, k_10, k_11, k_12, k_13, k_14, k_15, k_16, k_17, k_18, k_19, k_20, k_21, k_22, k_23, k_24, k_27, k_30, k_32, k_48, k_57, k_59, k_60, k_61, k_62, k_63, k_64, k_72, k_78, k_80, k_82, k_97, k_99, k_100, k_122, k_244, k_255, k_268, k_280, k_300, k_432, k_650, k_900, k_901, k_999, k_1700, k_2600, k_2601, k_2602, k_2603, k_2604, k_2610, k_2618, k_2682, k_2777, k_2844, k_2868, k_2880, k_3245, k_3250, k_9551, k_9999, k_65536, k_100000, k_999999, k_1000000, k_2147483647, lt_T, lt_F, le_T, le_F, eq_T, eq_F, ↓reduceIte, not_true_eq_false, not_false_eq_true, or_true, or_false, true_or, false_or, and_true, true_and, and_false, false_and]
  | true =>
    by_cases h0 : a = 0
    · refine ⟨iI k, fun M h => ?_, fun m M h => ?_⟩
      · have e1 := h.1
        have e2 := (h.2 rfl).1
        unfold fX10_fault
        simp (disch := omega) only [iI_add, iI_sub, iI_mul, iI_neg, iI_nat, addm1, ixkI, ↓sbind, sbind, ↓bdS, bdS, ↓nm_eq, ↓jn_eq, iI_lt, iI_le, iI_eq, k_0, k_1, k_2, k_3, k_4, k_5, k_6, k_7, k_8, k_9, k_10, k_11, k_12, k_13, k_14, k_15, k_16, k_17, k_18, k_19, k_20, k_21, k_22, k_23, k_24, k_27, k_30, k_32, k_48, k_57, k_59, k_60, k_61, k_62, k_63, k_64, k_72, k_78, k_80, k_82, k_97, k_99, k_100, k_122, k_244, k_255, k_268, k_280, k_300, k_432, k_650, k_900, k_901, k_999, k_1700, k_2600, k_2601, k_2602, k_2603, k_2604, k_2610, k_2618, k_2682, k_2777, k_2844, k_2868, k_2880, k_3245, k_3250, k_9551, k_9999, k_65536, k_100000, k_999999, k_1000000, k_2147483647, lt_T, lt_F, le_T, le_F, eq_T, eq_F, ↓reduceIte, not_true_eq_false, not_false_eq_true, or_true, or_false, true_or, false_or, and_true, true_and, and_false, false_and, bI_t, e1, e2, h0]
      · obtain ⟨e1, e2⟩ := h.2 rfl
        unfold fX11_fault
        simp (disch := omega) only [iI_add, iI_sub, iI_mul, iI_neg, iI_nat, addm1, ixkI, ↓sbind, sbind, ↓bdS, bdS, ↓nm_eq, ↓jn_eq, iI_lt, iI_le, iI_eq, k_0, k_1, k_2, k_3, k_4, k_5, k_6, k_7, k_8, k_9, k_10, k_11, k_12, k_13, k_14, k_15, k_16, k_17, k_18, k_19, k_20, k_21, k_22, k_23, k_24, k_27, k_30, k_32, k_48, k_57, k_59, k_60, k_61, k_62, k_63, k_64, k_72, k_78, k_80, k_82, k_97, k_99, k_100, k_122, k_244, k_255, k_268, k_280, k_300, k_432, k_650, k_900, k_901, k_999, k_1700, k_2600, k_2601, k_2602, k_2603, k_2604, k_2610, k_2618, k_2682, k_2777, k_2844, k_2868, k_2880, k_3245, k_3250, k_9551, k_9999, k_65536, k_100000, k_999999, k_1000000, k_2147483647, lt_T, lt_F, le_T, le_F, eq_T, eq_F, ↓reduceIte, not_true_eq_false, not_false_eq_true, or_true, or_false, true_or, false_or, and_true, true_and, and_false, false_and, e1, h0]
    · by_cases h1 : a = 1
      · refine ⟨iI p, fun M h => ?_, fun m M h => ?_⟩
        · have e1 := h.1
          have e2 := (h.2 rfl).2
          unfold fX10_fault
          simp (disch := omega) only [iI_add, iI_sub, iI_mul, iI_neg, iI_nat, addm1, ixkI, ↓sbind, sbind, ↓bdS, bdS, ↓nm_eq, ↓jn_eq, iI_lt, iI_le, iI_eq, k_0, k_1, k_2, k_3, k_4, k_5, k_6, k_7, k_8, k_9, k_10, k_11, k_12, k_13, k_14, k_15, k_16, k_17, k_18, k_19, k_20, k_21, k_22, k_23, k_24, k_27, k_30, k_32, k_48, k_57, k_59, k_60, k_61, k_62, k_63, k_64, k_72, k_78, k_80, k_82, k_97, k_99, k_100, k_122, k_244, k_255, k_268, k_280, k_300, k_432, k_650, k_900, k_901, k_999, k_1700, k_2600, k_2601, k_2602, k_2603, k_2604, k_2610, k_2618, k_2682, k_2777, k_2844, k_2868, k_2880, k_3245, k_3250, k_9551, k_9999, k_65536, k_100000, k_999999, k_1000000, k_2147483647, lt_T, lt_F, le_T, le_F, eq_T, eq_F, ↓reduceIte, not_true_eq_false, not_false_eq_true, or_true, or_false, true_or, false_or, and_true, true_and, and_false, false_and, bI_t, e1, e2, h1]
        · obtain ⟨e1, e2⟩ := h.2 rfl
          unfold fX11_fault
          simp (disch := omega) only [iI_add, iI_sub, iI_mul, iI_neg, iI_nat, addm1, ixkI, ↓sbind, sbind, ↓bdS, bdS, ↓nm_eq, ↓jn_eq, iI_lt, iI_le, iI_eq, k_0, k_1, k_2, k_3, k_4, k_5, k_6, k_7, k_8, k_9, k_10, k_11, k_12, k_13, k_14, k_15, k_16, k_17, k_18, k_19, k_20, k_21, k_22, k_23, k_24, k_27, k_30, k_32, k_48, k_57, k_59, k_60, k_61, k_62, k_63, k_64, k_72, k_78, k_80, k_82, k_97, k_99, k_100, k_122, k_244, k_255, k_268, k_280, k_300, k_432, k_650, k_900, k_901, k_999, k_1700, k_2600, k_2601, k_2602, k_2603, k_2604, k_2610, k_2618, k_2682, k_2777, k_2844, k_2868, k_2880, k_3245, k_3250, k_9551, k_9999, k_65536, k_100000, k_999999, k_1000000, k_2147483647, lt_T, lt_F, le_T, le_F, eq_T, eq_F, ↓reduceIte, not_true_eq_false, not_false_eq_true, or_true, or_false, true_or, false_or, and_true, true_and, and_false, false_and, e2, h1]
      · refine ⟨iI (-1), fun M h => ?_, fun m M h => ?_⟩
        · have e1 := h.1
          unfold fX10_fault
          simp (disch := omega) only [iI_add, iI_sub, iI_mul, iI_neg, iI_nat, addm1, ixkI, ↓sbind, sbind, ↓bdS, bdS, ↓nm_eq, ↓jn_eq, iI_lt, iI_le, iI_eq, k_0, k_1, k_2, k_3, k_4, k_5, k_6, k_7, k_8, k_9, k_10, k_11, k_12, k_13, k_14, k_15, k_16, k_17, k_18, k_19, k_20, k_21, k_22, k_23, k_24, k_27, k_30, k_32, k_48, k_57, k_59, k_60, k_61, k_62, k_63, k_64, k_72, k_78, k_80, k_82, k_97, k_99, k_100, k_122, k_244, k_255, k_268, k_280, k_300, k_432, k_650, k_900, k_901, k_999, k_1700, k_2600, k_2601, k_2602, k_2603, k_2604, k_2610, k_2618, k_2682, k_2777, k_2844, k_2868, k_2880, k_3245, k_3250, k_9551, k_9999, k_65536, k_100000, k_999999, k_1000000, k_2147483647, lt_T, lt_F, le_T, le_F, eq_T, eq_F, ↓reduceIte, not_true_eq_false, not_false_eq_true, or_true, or_false, true_or, false_or, and_true, true_and, and_false, false_and, bI_t, e1]
        · unfold fX11_fault
          simp (disch := omega) only [iI_add, iI_sub, iI_mul, iI_neg, iI_nat, addm1, ixkI, ↓sbind, sbind, ↓bdS, bdS, ↓nm_eq, ↓jn_eq, iI_lt, iI_le, iI_eq, k_0, k_1, k_2, k_3, k_4, k_5, k_6, k_7, k_8, k_9, k_10, k_11, k_12, k_13, k_14, k_15, k_16, k_17, k_18, k_19, k_20, k_21, k_22, k_23, k_24, k_27, k_30, k_32, k_48, k_57, k_59, k_60, k_61, k_62, k_63, k_64, k_72, k_78, k_80, k_82, k_97, k_99, k_100, k_122, k_244, k_255, k_268, k_280, k_300, k_432, k_650, k_900, k_901, k_999, k_1700, k_2600, k_2601, k_2602, k_2603, k_2604, k_2610, k_2618, k_2682, k_2777, k_2844, k_2868, k_2880, k_3245, k_3250, k_9551, k_9999, k_65536, k_100000, k_999999, k_1000000, k_2147483647, lt_T, lt_F, le_T, le_F, eq_T, eq_F, ↓reduceIte, not_true_eq_false, not_false_eq_true, or_true, or_false, true_or, false_or, and_true, true_and, and_false, false_and]
end FE
