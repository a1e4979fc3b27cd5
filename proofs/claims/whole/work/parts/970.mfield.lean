/-! the reference's field -/
def F00 : Fld := fun _ _ _ => 0
theorem f00 (k : Nat) (x y : Int) : F00 k x y = 0 := rfl
theorem dw00 (nn : NMs) : DW F00 nn := by
  refine ⟨?_, ⟨fun r a b => ?_, fun r a b => ?_, fun r a b => ?_⟩, fun a _ _ => f00 2 a a⟩
  · unfold WF
    simp only [f00]
    refine ⟨by omega, fun r a b => by omega, fun a b h1 h2 => by omega, fun h h1 h2 => by omega, fun h l h1 h2 => by omega, fun t k h1 h2 => by omega, fun t h1 h2 => by omega, fun f k h1 h2 => by omega⟩
  · rw [f00] at b; omega
  · rw [f00] at b; omega
  · rw [f00] at b; omega
def kFM (φ t : Nat) (M8 : Mem) : Option (Int32 × Mem) := jn (fun (M9 : Mem) => ixk (1 : Int32) 3900 (
 bd (fX11_taken t (M9.1 (t + 1) (1 : Int32).toNatClampNeg) M9) fun v11 M12 =>
 some (v11, M12))) (fun J10 => if (M8.1 t 18) = 0 then
 lX11_field_82 (fun (M14 : Mem) => lX11_field_113 (fun (M16 : Mem) => J10 M16) t φ (0 : Int32) M14) t φ (0 : Int32) M8
 else
 J10 M8)
section MFD
variable {m : Nat} {M : Mem} {B : Int → Int} {n p : Int} {F : Fld} {nn : NMs}
theorem mr00 (h : ∀ e : Int, 2600 ≤ e → e < 3250 → e ≠ 2604 → M.1 (m + 1) e.toNat = iI 0) : MR m 2600 F00 M := by
  refine ⟨fun w x y => ?_, fun k x y => ?_, fun x y a0 a1 b0 b1 => ?_, fun x w a0 a1 w0 w1 => ?_, fun x l a0 a1 l0 l1 => ⟨?_, ?_⟩, fun t k t0 t1 k0 k1 => ?_, fun f k a0 a1 b0 b1 => ?_⟩
  · exact h _ (by omega) (by omega) (by omega)
  · exact h _ (by omega) (by omega) (by omega)
  · exact h _ (by omega) (by omega) (by omega)
  · exact h _ (by omega) (by omega) (by omega)
  · exact h _ (by omega) (by omega) (by omega)
  · exact h _ (by omega) (by omega) (by omega)
  · exact h _ (by omega) (by omega) (by omega)
  · exact h _ (by omega) (by omega) (by omega)
theorem m_field19 (K : Mem → Option (Int32 × Mem)) (M0 : Mem) : ∀ (k : Nat) (i : Int), 0 ≤ i → i ≤ 650 → 650 < k + i → ∀ M, (∀ e : Int, 0 ≤ e → M.1 (m + 1) e.toNat = if 2600 ≤ e ∧ e < 2600 + i then iI 0 else M0.1 (m + 1) e.toNat) → ∃ M1, lX11_field_19 K m k (iI i) M = K M1 ∧ Fr (Rg (m + 1) (m + 1)) M M1 ∧ ∀ e : Int, 0 ≤ e → M1.1 (m + 1) e.toNat = if 2600 ≤ e ∧ e < 2600 + 650 then iI 0 else M0.1 (m + 1) e.toNat := by
  have z6 : (650 : Int32) = iI 650 := rfl
  have z26 : (2600 : Int32) = iI 2600 := rfl
  refine lup (P := fun k i => ∀ M, (∀ e : Int, 0 ≤ e → M.1 (m + 1) e.toNat = if 2600 ≤ e ∧ e < 2600 + i then iI 0 else M0.1 (m + 1) e.toNat) → ∃ M1, lX11_field_19 K m k (iI i) M = K M1 ∧ Fr (Rg (m + 1) (m + 1)) M M1 ∧ ∀ e : Int, 0 ≤ e → M1.1 (m + 1) e.toNat = if 2600 ≤ e ∧ e < 2600 + 650 then iI 0 else M0.1 (m + 1) e.toNat) (fun k M h => ⟨M, ?_, Fr.refl M, h⟩) (fun k i i0 i1 ih M h => ?_)
  · rw [lX11_field_19, z6, if_pos (by rw [iI_le (by omega) (by omega)]; omega)]
  · obtain ⟨M1, r1, r2, r3⟩ := ih (stI M (m + 1) (2600 + i).toNat (iI 0)) (fun e e0 => by
      by_cases q : e = 2600 + i
      · rw [if_pos (by omega), q, rI_at rfl rfl]
      · rw [rI_nk (by omega), h e e0]
        by_cases q2 : 2600 ≤ e ∧ e < 2600 + i
        · rw [if_pos q2, if_pos (by omega)]
        · rw [if_neg q2, if_neg (by omega)])
    refine ⟨M1, ?_, (Fr.stI ⟨by omega, by omega⟩ (Fr.refl M)).trans r2, r3⟩
    rw [lX11_field_19]
    simp (disch := omega) only [iI_add, iI_sub, iI_mul, iI_neg, iI_nat, addm1, ixkI, ↓sbind, sbind, ↓bdS, bdS, ↓nm_eq, ↓jn_eq, iI_lt, iI_le, iI_eq, k_0, k_1, k_2, k_3, k_4, k_5, k_6, k_7, k_8, k_9, k_10, k_11, k_12, k_13, k_14, k_15, k_16, k_17, k_18, k_19, k_20, k_21, k_22, k_23, k_24, k_27, k_30, k_32, k_48, k_57, k_59, k_60, k_61, k_62, k_63, k_64, k_72, k_78, k_80, k_82, k_97, k_99, k_100, k_122, k_244, k_255, k_268, k_280, k_300, k_432, k_650, k_900, k_901, k_999, k_1700, k_2600, k_2601, k_2602, k_2603, k_2604, k_2610, k_2618, k_2682, k_2777, k_2844, k_2868, k_2880, k_3245, k_3250, k_9551, k_9999, k_65536, k_100000, k_999999, k_1000000, k_2147483647, lt_T, lt_F, le_T, le_F, eq_T, eq_F, ↓reduceIte, not_true_eq_false, not_false_eq_true, or_true, or_false, true_or, false_or, and_true, true_and, and_false, false_and, z6, z26, r1]
theorem m_field82 (K : Mem → Option (Int32 × Mem)) (M0 : Mem) : ∀ (k : Nat) (i : Int), 0 ≤ i → i ≤ 650 → 650 < k + i → ∀ M, (∀ e : Int, 0 ≤ e → M.1 (m + 1) e.toNat = if e < i then M0.1 (m + 1) (2600 + e).toNat else M0.1 (m + 1) e.toNat) → ∃ M1, lX11_field_82 K m k (iI i) M = K M1 ∧ Fr (Rg (m + 1) (m + 1)) M M1 ∧ ∀ e : Int, 0 ≤ e → M1.1 (m + 1) e.toNat = if e < 650 then M0.1 (m + 1) (2600 + e).toNat else M0.1 (m + 1) e.toNat := by
  have z6 : (650 : Int32) = iI 650 := rfl
  have z26 : (2600 : Int32) = iI 2600 := rfl
  refine lup (P := fun k i => ∀ M, (∀ e : Int, 0 ≤ e → M.1 (m + 1) e.toNat = if e < i then M0.1 (m + 1) (2600 + e).toNat else M0.1 (m + 1) e.toNat) → ∃ M1, lX11_field_82 K m k (iI i) M = K M1 ∧ Fr (Rg (m + 1) (m + 1)) M M1 ∧ ∀ e : Int, 0 ≤ e → M1.1 (m + 1) e.toNat = if e < 650 then M0.1 (m + 1) (2600 + e).toNat else M0.1 (m + 1) e.toNat) (fun k M h => ⟨M, ?_, Fr.refl M, h⟩) (fun k i i0 i1 ih M h => ?_)
  · rw [lX11_field_82, z6, if_pos (by rw [iI_le (by omega) (by omega)]; omega)]
  · obtain ⟨M1, r1, r2, r3⟩ := ih (stI M (m + 1) i.toNat (M.1 (m + 1) (2600 + i).toNat)) (fun e e0 => by
      by_cases q : e = i
      · rw [if_pos (by omega), q, rI_at rfl rfl, h (2600 + i) (by omega), if_neg (by omega)]
      · rw [rI_nk (by omega), h e e0]
        by_cases q2 : e < i
        · rw [if_pos q2, if_pos (by omega)]
        · rw [if_neg q2, if_neg (by omega)])
    refine ⟨M1, ?_, (Fr.stI ⟨by omega, by omega⟩ (Fr.refl M)).trans r2, r3⟩
    rw [lX11_field_82]
    simp (disch := omega) only [iI_add, iI_sub, iI_mul, iI_neg, iI_nat, addm1, ixkI, ↓sbind, sbind, ↓bdS, bdS, ↓nm_eq, ↓jn_eq, iI_lt, iI_le, iI_eq, k_0, k_1, k_2, k_3, k_4, k_5, k_6, k_7, k_8, k_9, k_10, k_11, k_12, k_13, k_14, k_15, k_16, k_17, k_18, k_19, k_20, k_21, k_22, k_23, k_24, k_27, k_30, k_32, k_48, k_57, k_59, k_60, k_61, k_62, k_63, k_64, k_72, k_78, k_80, k_82, k_97, k_99, k_100, k_122, k_244, k_255, k_268, k_280, k_300, k_432, k_650, k_900, k_901, k_999, k_1700, k_2600, k_2601, k_2602, k_2603, k_2604, k_2610, k_2618, k_2682, k_2777, k_2844, k_2868, k_2880, k_3245, k_3250, k_9551, k_9999, k_65536, k_100000, k_999999, k_1000000, k_2147483647, lt_T, lt_F, le_T, le_F, eq_T, eq_F, ↓reduceIte, not_true_eq_false, not_false_eq_true, or_true, or_false, true_or, false_or, and_true, true_and, and_false, false_and, z6, z26, r1]
theorem m_field113 (K : Mem → Option (Int32 × Mem)) (M0 : Mem) : ∀ (k : Nat) (i : Int), 0 ≤ i → i ≤ 16 → 16 < k + i → ∀ M, (∀ e : Int, 0 ≤ e → M.2.1 (m + 2) e.toNat = if e < i then M0.2.1 (m + 2) (64 + e).toNat else M0.2.1 (m + 2) e.toNat) → ∃ M1, lX11_field_113 K m k (iI i) M = K M1 ∧ Fr (Rg (m + 2) (m + 2)) M M1 ∧ ∀ e : Int, 0 ≤ e → M1.2.1 (m + 2) e.toNat = if e < 16 then M0.2.1 (m + 2) (64 + e).toNat else M0.2.1 (m + 2) e.toNat := by
  have z64 : (64 : Int32) = iI 64 := rfl
  have z16 : (16 : Int32) = iI 16 := rfl
  refine lup (P := fun k i => ∀ M, (∀ e : Int, 0 ≤ e → M.2.1 (m + 2) e.toNat = if e < i then M0.2.1 (m + 2) (64 + e).toNat else M0.2.1 (m + 2) e.toNat) → ∃ M1, lX11_field_113 K m k (iI i) M = K M1 ∧ Fr (Rg (m + 2) (m + 2)) M M1 ∧ ∀ e : Int, 0 ≤ e → M1.2.1 (m + 2) e.toNat = if e < 16 then M0.2.1 (m + 2) (64 + e).toNat else M0.2.1 (m + 2) e.toNat) (fun k M h => ⟨M, ?_, Fr.refl M, h⟩) (fun k i i0 i1 ih M h => ?_)
  · rw [lX11_field_113, z16, if_pos (by rw [iI_le (by omega) (by omega)]; omega)]
  · obtain ⟨M1, r1, r2, r3⟩ := ih (stL M (m + 2) i.toNat (M.2.1 (m + 2) (64 + i).toNat)) (fun e e0 => by
      by_cases q : e = i
      · rw [if_pos (by omega), q, rL_at rfl rfl, h (64 + i) (by omega), if_neg (by omega)]
      · rw [rL_nk (by omega), h e e0]
        by_cases q2 : e < i
        · rw [if_pos q2, if_pos (by omega)]
        · rw [if_neg q2, if_neg (by omega)])
    refine ⟨M1, ?_, (Fr.stL ⟨by omega, by omega⟩ (Fr.refl M)).trans r2, r3⟩
    rw [lX11_field_113]
    simp (disch := omega) only [iI_add, iI_sub, iI_mul, iI_neg, iI_nat, addm1, ixkI, ↓sbind, sbind, ↓bdS, bdS, ↓nm_eq, ↓jn_eq, iI_lt, iI_le, iI_eq, k_0, k_1, k_2, k_3, k_4, k_5, k_6, k_7, k_8, k_9, k_10, k_11, k_12, k_13, k_14, k_15, k_16, k_17, k_18, k_19, k_20, k_21, k_22, k_23, k_24, k_27, k_30, k_32, k_48, k_57, k_59, k_60, k_61, k_62, k_63, k_64, k_72, k_78, k_80, k_82, k_97, k_99, k_100, k_122, k_244, k_255, k_268, k_280, k_300, k_432, k_650, k_900, k_901, k_999, k_1700, k_2600, k_2601, k_2602, k_2603, k_2604, k_2610, k_2618, k_2682, k_2777, k_2844, k_2868, k_2880, k_3245, k_3250, k_9551, k_9999, k_65536, k_100000, k_999999, k_1000000, k_2147483647, lt_T, lt_F, le_T, le_F, eq_T, eq_F, ↓reduceIte, not_true_eq_false, not_false_eq_true, or_true, or_false, true_or, false_or, and_true, true_and, and_false, false_and, z16, z64, r1]
theorem m_taken {v : Int32} {fk : Int} (h : M.1 m 18 = iI fk) (hf : 0 ≤ fk ∧ fk ≤ 99) : fX11_taken m v M = if fk = 0 then some (v, stI (stI M m 16 (iI fk)) m 2 (iI 0)) else some (iI (-1), stI (stI M m 16 (iI fk)) m 2 (iI 9)) := by
  have e1 : (stI M m 16 (iI fk)).1 m 18 = iI fk := by rw [rI_nk (by omega)]; exact h
  have z0 : (0 : Int32) = iI 0 := rfl
  unfold fX11_taken
  rw [h, nm_eq, e1, z0]
  by_cases q : fk = 0
  · rw [if_pos q, if_pos (by rw [iI_le (by omega) (by omega)]; omega)]
    rfl
  · rw [if_neg q, if_neg (by rw [iI_le (by omega) (by omega)]; omega)]
    rfl
theorem m_fieldNo {φ : Nat} {fk : Int} (h : M.1 m 18 = iI fk) (hf : 1 ≤ fk ∧ fk ≤ 99) : kFM φ m M = some (iI (-1), stI (stI M m 16 (iI fk)) m 2 (iI 9)) := by
  have nz : ¬ (iI fk = (0 : Int32)) := by
    show ¬ (iI fk = iI 0)
    rw [iI_eq (by omega) (by omega)]
    omega
  unfold kFM
  rw [jn_eq, h, if_neg nz]
  show ixk (1 : Int32) 3900 (bd (fX11_taken m (M.1 (m + 1) (1 : Int32).toNatClampNeg) M) fun v11 M12 => some (v11, M12)) = _
  rw [k_1, ixkI (by omega), m_taken h (by omega), if_neg (by omega), bdP]
theorem m_fieldYes {φ : Nat} (hφ : 2000 < φ) (d : DW F nn) (S : MSt m B n p F nn M) : ∃ M1, kFM φ m M = some (iI (F 0 1 0), stI (stI M1 m 16 (iI 0)) m 2 (iI 0)) ∧ MR m 0 F M1 ∧ NB m 0 F nn M1 ∧ M1.1 (m + 1) (Int.toNat 4) = M.1 (m + 1) (Int.toNat 2604) ∧ (∀ e : Int, 650 ≤ e → M1.1 (m + 1) e.toNat = M.1 (m + 1) e.toNat) ∧ (∀ e : Int, 16 ≤ e → M1.2.1 (m + 2) e.toNat = M.2.1 (m + 2) e.toNat) ∧ Fr (Rg (m + 1) (m + 2)) M M1 := by
  have h18 : M.1 m 18 = iI 0 := S.2.2.2
  obtain ⟨Ma, a1, a2, a3⟩ := m_field82 (m := m) (fun (M14 : Mem) => lX11_field_113 (fun (M16 : Mem) => ixk (1 : Int32) 3900 (
 bd (fX11_taken m (M16.1 (m + 1) (1 : Int32).toNatClampNeg) M16) fun v11 M12 =>
 some (v11, M12))) m φ (0 : Int32) M14) M φ 0 (by omega) (by omega) (by omega) M (fun e e0 => by rw [if_neg (by omega)])
  obtain ⟨Mb, b1, b2, b3⟩ := m_field113 (m := m) (fun (M16 : Mem) => ixk (1 : Int32) 3900 (
 bd (fX11_taken m (M16.1 (m + 1) (1 : Int32).toNatClampNeg) M16) fun v11 M12 =>
 some (v11, M12))) Ma φ 0 (by omega) (by omega) (by omega) Ma (fun e e0 => by rw [if_neg (by omega)])
  have tb : Mb.1 (m + 1) = Ma.1 (m + 1) := (b2 (m + 1) (fun q => by have := q.1; omega)).1
  have ta : Ma.2.1 (m + 2) = M.2.1 (m + 2) := (a2 (m + 2) (fun q => by have := q.2; omega)).2.1
  have fr : Fr (Rg (m + 1) (m + 2)) M Mb := (a2.mono (fun z q => ⟨q.1, by have := q.2; omega⟩)).trans (b2.mono (fun z q => ⟨by have := q.1; omega, q.2⟩))
  have e18 : Mb.1 m 18 = iI 0 := by rw [(fr m (fun q => by have := q.1; omega)).1]; exact h18
  have low : ∀ e : Int, 0 ≤ e → e < 650 → Mb.1 (m + 1) e.toNat = M.1 (m + 1) (2600 + e).toNat := fun e e0 e1 => by
    rw [tb, a3 e e0, if_pos e1]
  have lowN : ∀ e : Int, 0 ≤ e → e < 16 → Mb.2.1 (m + 2) e.toNat = M.2.1 (m + 2) (64 + e).toNat := fun e e0 e1 => by
    rw [b3 e e0, if_pos e1, ta]
  have c1 : Mb.1 (m + 1) (Int.toNat 1) = iI (F 0 1 0) := (low 1 (by omega) (by omega)).trans (S.cnt (w := 1) (by omega))
  refine ⟨Mb, ?_, S.2.1.sh (fun k k0 k1 => by rw [Int.zero_add]; exact low k k0 (by omega)), S.2.2.1.sh d.1 (fun k k0 k1 => by rw [Int.zero_add]; exact lowN k k0 k1), low 4 (by omega) (by omega), fun e e0 => by rw [tb, a3 e (by omega), if_neg (by omega)], fun e e0 => by rw [b3 e (by omega), if_neg (by omega), ta], fr⟩
  have b1' : lX11_field_113 (fun (M16 : Mem) => ixk (1 : Int32) 3900 (
 bd (fX11_taken m (M16.1 (m + 1) (1 : Int32).toNatClampNeg) M16) fun v11 M12 =>
 some (v11, M12))) m φ (0 : Int32) Ma = some (iI (F 0 1 0), stI (stI Mb m 16 (iI 0)) m 2 (iI 0)) := by
    refine Eq.trans b1 ?_
    show ixk (1 : Int32) 3900 (bd (fX11_taken m (Mb.1 (m + 1) (1 : Int32).toNatClampNeg) Mb) fun v11 M12 => some (v11, M12)) = _
    rw [k_1, ixkI (by omega), iI_nat (by omega), c1, m_taken e18 (by omega), if_pos rfl, bdP]
  unfold kFM
  rw [jn_eq, h18, if_pos i0e]
  exact Eq.trans a1 b1'
def mFd (m : Nat) (M M1 : Mem) : Prop := (∀ i, i ≠ 10 → i ≠ 11 → i ≠ 12 → i ≠ 13 → i ≠ 14 → i ≠ 15 → i ≠ 17 → i ≠ 18 → i ≠ 19 → M1.1 m i = M.1 m i) ∧ M1.2.1 m = M.2.1 m ∧ (∀ e : Int, 0 ≤ e → e < 2600 → M1.1 (m + 1) e.toNat = M.1 (m + 1) e.toNat) ∧ Fr (fun z => z = m ∨ z = m + 1 ∨ z = m + 7) M M1
theorem m_field {φ : Nat} (hφ : 2000 < φ) {Q : TPS} (wq : WTp Q) (hq : TpM m Q M) {n : Int} (hn : 0 ≤ n ∧ n ≤ Q.1) (nn : NMs) : ∃ M5, MSt m Q.2 n 0 F00 nn M5 ∧ M5.1 m 10 = iI 0 ∧ M5.1 (m + 1) (Int.toNat 2604) = iI (-1) ∧ mFd m M M5 ∧ fX11_field φ m (iI n) M = lX11_field_54 (kFM φ m) φ m φ (iI 1) M5 := by
  have q0 := wq.1
  obtain ⟨M2, r1, r2, r3, r4, r5⟩ := m_begins hφ wq hq hn (l := 900) (by omega)
  obtain ⟨M4, s1, s2, s3⟩ := m_field19 (m := m) (fun (M4 : Mem) => ixk (2604 : Int32) 3900 (nm (stI M4 (m + 1) (2604 : Int32).toNatClampNeg (-1 : Int32)) (fun M5 =>
 lX11_field_54 (kFM φ m) φ m φ (1 : Int32) M5))) M2 φ 0 (by omega) (by omega) (by omega) M2 (fun e e0 => by rw [if_neg (by omega)])
  have fr5 : Fr (Rg (m + 1) (m + 1)) M2 (stI M4 (m + 1) (Int.toNat 2604) (iI (-1))) := s2.trans (Fr.stI ⟨by omega, by omega⟩ (Fr.refl M4))
  have t5 := fr5 m (fun q => by have := q.1; omega)
  refine ⟨stI M4 (m + 1) (Int.toNat 2604) (iI (-1)), ⟨r2.fr fr5 (fun q => by have := q.1; omega) (fun q => by have := q.2; omega), mr00 (fun e e0 e1 e2 => by rw [rI_nk (by omega), s3 e (by omega), if_pos (by omega)]), ⟨fun r a b => by rw [f00] at b; omega, fun r a b => by rw [f00] at b; omega, fun r a b => by rw [f00] at b; omega⟩, by rw [t5.1]; exact r3⟩, by rw [t5.1]; exact r4, rI_at rfl rfl, ⟨fun i a b c d e f g h j => by rw [t5.1]; exact r5.1 i a b c d e f g h j, t5.2.1.trans r5.2.1, fun e e0 e1 => by rw [rI_nk (by omega), s3 e e0, if_neg (by omega), (r5.2.2 (m + 1) (by omega)).1], (r5.2.2.mono (fun z q => by omega)).trans (fr5.mono (fun z q => by have := q.1; have := q.2; omega))⟩, ?_⟩
  have r1' : fX11_begins φ m (iI n) (900 : Int32) M = some (iI 1, M2) := r1
  unfold fX11_field
  rw [r1', bdP, if_neg i1n]
  refine Eq.trans (show _ = _ from s1) ?_
  show ixk (2604 : Int32) 3900 (nm (stI M4 (m + 1) (2604 : Int32).toNatClampNeg (-1 : Int32)) (fun M5 => lX11_field_54 (kFM φ m) φ m φ (1 : Int32) M5)) = _
  rw [show (2604 : Int32) = iI 2604 from rfl, ixkI (by omega), iI_nat (by omega), nm_eq]
  rfl
end MFD
