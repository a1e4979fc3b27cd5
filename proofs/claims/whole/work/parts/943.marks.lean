/-! marks: slots on both sides -/
section MK
variable {m : Nat} {F : Fld} {nm : NMs} {M : Mem} {Y : Yr} {N : Int}
def w8N : Nat → Int → Int
  | 0, _ => 0
  | k + 1, c => if c ≤ 0 then 0 else 256 * w8N k (c / 32) + (c % 32 + 96)
/-- a name's letters, eight bits each, out of five each -/
def w8 (c : Int) : Int := w8N 8 c
def NB (m : Nat) (b : Int) (F : Fld) (nm : NMs) (M : Mem) : Prop := (∀ r : Int, 0 ≤ r → r < F 0 0 0 → M.2.1 (m + 2) (b + r).toNat = lI (w8 (nm 0 r))) ∧ (∀ r : Int, 0 ≤ r → r < F 0 1 0 → M.2.1 (m + 2) (b + (8 + r)).toNat = lI (w8 (nm 1 r))) ∧ ∀ r : Int, 0 ≤ r → r < F 0 3 0 → M.2.1 (m + 2) (b + (14 + r)).toNat = lI (w8 (nm 2 r))
theorem NB.fr {b : Int} {S : Nat → Prop} {M' : Mem} (hF : Fr S M M') (h1 : ¬ S (m + 2)) (h : NB m b F nm M) : NB m b F nm M' := by
  unfold NB at h ⊢
  rw [(hF (m + 2) h1).2.1]
  exact h
theorem NB.cn {b : Int} {F1 : Fld} (f : ∀ a, F1 0 a 0 = F 0 a 0) (h : NB m b F nm M) : NB m b F1 nm M := by
  unfold NB at h ⊢
  rw [f 0, f 1, f 3]
  exact h
theorem NB.sh {b b' : Int} {M' : Mem} (w : WF F) (hc : ∀ k : Int, 0 ≤ k → k < 16 → M'.2.1 (m + 2) (b' + k).toNat = M.2.1 (m + 2) (b + k).toNat) (h : NB m b F nm M) : NB m b' F nm M' := by
  have n0 := w.n0
  have n1 := w.n1
  have n3 := w.n3
  exact ⟨fun r a c => by rw [hc r a (by omega)]; exact h.1 r a c, fun r a c => by rw [hc (8 + r) (by omega) (by omega)]; exact h.2.1 r a c, fun r a c => by rw [hc (14 + r) (by omega) (by omega)]; exact h.2.2 r a c⟩
theorem MR.sh {r r' : Int} {M' : Mem} (hc : ∀ k : Int, 0 ≤ k → k < 280 → M'.1 (m + 1) (r' + k).toNat = M.1 (m + 1) (r + k).toNat) (G : MR m r F M) : MR m r' F M' := by
  obtain ⟨h0, h1, h2, h3, h4, h5, h6⟩ := G
  refine ⟨fun w a b => ?_, fun k a b => ?_, fun x y a b c d => ?_, fun h w a b c d => ?_, fun h l a b c d => ⟨?_, ?_⟩, fun t k a b c d => ?_, fun f k a b c d => ?_⟩
  · rw [hc _ (by omega) (by omega)]; exact h0 w a b
  · rw [hc _ (by omega) (by omega)]; exact h1 k a b
  · rw [hc _ (by omega) (by omega)]; exact h2 x y a b c d
  · rw [hc _ (by omega) (by omega)]; exact h3 h w a b c d
  · rw [hc _ (by omega) (by omega)]; exact (h4 h l a b c d).1
  · rw [hc _ (by omega) (by omega)]; exact (h4 h l a b c d).2
  · rw [hc _ (by omega) (by omega)]; exact h5 t k a b c d
  · rw [hc _ (by omega) (by omega)]; exact h6 f k a b c d
abbrev DS : Type := Fld × NMs × Int × Yr
def YS (m : Nat) (r N : Int) (Y : Yr) (M : Mem) : Prop := M.1 (m + 1) (r + 4).toNat = iI N ∧ ∀ x c : Int, 0 ≤ x → x < N → 0 ≤ c → c < 6 → M.1 (m + 1) (r + (280 + 6 * x + c)).toNat = iI (Y x c)
theorem YS.sh {r r' : Int} {M' : Mem} (hN : N ≤ 60) (hc : ∀ k : Int, 0 ≤ k → k < 650 → M'.1 (m + 1) (r' + k).toNat = M.1 (m + 1) (r + k).toNat) (h : YS m r N Y M) : YS m r' N Y M' := ⟨by rw [hc 4 (by omega) (by omega)]; exact h.1, fun x c a b d e => by rw [hc _ (by omega) (by omega)]; exact h.2 x c a b d e⟩
theorem YS.of (h : YM m N Y M) : YS m 0 N Y M := ⟨h.1, fun x c a b d e => by rw [Int.zero_add]; exact h.2 x c a b d e⟩
theorem YS.to (h : YS m 0 N Y M) : YM m N Y M := ⟨h.1, fun x c a b d e => by have := h.2 x c a b d e; rw [Int.zero_add] at this; exact this⟩
/-- the reference's slot -/
def SL (m : Nat) (s : Int) (D : DS) (M : Mem) : Prop := MR m (650 * s) D.1 M ∧ YS m (650 * s) D.2.2.1 D.2.2.2 M ∧ NB m (16 * s) D.1 D.2.1 M
/-- the class's mark -/
def CM (j : Int) (D : DS) (M : Mem) : Prop := GR (86 + 20 * j.toNat) D.1 M ∧ NCn (86 + 20 * j.toNat) D.1 D.2.1 M ∧ YW (100 + 20 * j.toNat) D.2.2.1 D.2.2.2 M
theorem SL.sh {s s' : Int} {D : DS} {M' : Mem} (w : WF D.1) (hN : D.2.2.1 ≤ 60) (hc : ∀ k : Int, 0 ≤ k → k < 650 → M'.1 (m + 1) (650 * s' + k).toNat = M.1 (m + 1) (650 * s + k).toNat) (hn : ∀ k : Int, 0 ≤ k → k < 16 → M'.2.1 (m + 2) (16 * s' + k).toNat = M.2.1 (m + 2) (16 * s + k).toNat) (h : SL m s D M) : SL m s' D M' := ⟨h.1.sh (fun k a b => hc k a (by omega)), h.2.1.sh hN hc, h.2.2.sh w hn⟩
theorem SL.fr {s : Int} {D : DS} {S : Nat → Prop} {M' : Mem} (hF : Fr S M M') (h1 : ¬ S (m + 1)) (h2 : ¬ S (m + 2)) (h : SL m s D M) : SL m s D M' := by
  refine ⟨h.1.fr hF h1, ?_, h.2.2.fr hF h2⟩
  have := h.2.1
  unfold YS at this ⊢
  rw [(hF (m + 1) h1).1]
  exact this
theorem CM.fr {j : Int} {D : DS} {S : Nat → Prop} {M' : Mem} (hj : 0 ≤ j ∧ j < 3) (hF : Fr S M M') (hS : ∀ z, 86 ≤ z → z ≤ 145 → ¬ S z) (h : CM j D M) : CM j D M' := ⟨h.1.fr hF (fun z a b => hS z (by omega) (by omega)), h.2.1.fr hF (hS _ (by omega) (by omega)) (hS _ (by omega) (by omega)) (hS _ (by omega) (by omega)), h.2.2.fr hF (fun z a b => hS z (by omega) (by omega))⟩
theorem m_copies2 {a b : Int} (ha : 0 ≤ a ∧ a ≤ 3) (hb : 0 ≤ b ∧ b ≤ 3) (hab : a ≠ b) (K : Mem → Option (Unit × Mem)) (M0 : Mem) : ∀ (n : Nat) (i : Int), 0 ≤ i → i ≤ 650 → 650 < n + i → ∀ M, (∀ e : Int, 0 ≤ e → M.1 (m + 1) e.toNat = if 650 * b ≤ e ∧ e < 650 * b + i then M0.1 (m + 1) (e - 650 * b + 650 * a).toNat else M0.1 (m + 1) e.toNat) → ∃ M1, lX11_copies_2 K m (iI a) (iI b) n (iI i) M = K M1 ∧ Fr (Rg (m + 1) (m + 1)) M M1 ∧ ∀ e : Int, 0 ≤ e → M1.1 (m + 1) e.toNat = if 650 * b ≤ e ∧ e < 650 * b + 650 then M0.1 (m + 1) (e - 650 * b + 650 * a).toNat else M0.1 (m + 1) e.toNat := by
  have z6 : (650 : Int32) = iI 650 := rfl
  refine lup (P := fun n i => ∀ M, (∀ e : Int, 0 ≤ e → M.1 (m + 1) e.toNat = if 650 * b ≤ e ∧ e < 650 * b + i then M0.1 (m + 1) (e - 650 * b + 650 * a).toNat else M0.1 (m + 1) e.toNat) → ∃ M1, lX11_copies_2 K m (iI a) (iI b) n (iI i) M = K M1 ∧ Fr (Rg (m + 1) (m + 1)) M M1 ∧ ∀ e : Int, 0 ≤ e → M1.1 (m + 1) e.toNat = if 650 * b ≤ e ∧ e < 650 * b + 650 then M0.1 (m + 1) (e - 650 * b + 650 * a).toNat else M0.1 (m + 1) e.toNat) (fun n M h => ⟨M, ?_, Fr.refl M, h⟩) (fun n i i0 i1 ih M h => ?_)
  · rw [lX11_copies_2]
    simp (disch := omega) only [iI_add, iI_sub, iI_mul, iI_neg, iI_nat, addm1, ixkI, ↓sbind, sbind, ↓bdS, bdS, ↓nm_eq, ↓jn_eq, iI_lt, iI_le, iI_eq, k_0, k_1, k_2, k_3, k_4, k_5, k_6, k_7, k_8, k_9, k_10, k_11, k_12, k_13, k_14, k_15, k_16, k_17, k_18, k_19, k_20, k_21, k_22, k_23, k_24, k_27, k_30, k_32, k_48, k_57, k_59, k_60, k_61, k_62, k_63, k_64, k_72, k_78, k_80, k_82, k_97, k_99, k_100, k_122, k_244, k_255, k_268, k_280, k_300, k_432, k_650, k_900, k_901, k_999, k_1700, k_2600, k_2601, k_2602, k_2603, k_2604, k_2610, k_2618, k_2682, k_2777, k_2844, k_2868, k_2880, k_3245, k_3250, k_9551, k_9999, k_65536, k_100000, k_999999, k_1000000, k_2147483647, lt_T, lt_F, le_T, le_F, eq_T, eq_F, ↓reduceIte, not_true_eq_false, not_false_eq_true, or_true, or_false, true_or, false_or, and_true, true_and, and_false, false_and, z6]
  · obtain ⟨M1, r1, r2, r3⟩ := ih (stI M (m + 1) (650 * b + i).toNat (M.1 (m + 1) (650 * a + i).toNat)) (fun e e0 => by
      by_cases q : e = 650 * b + i
      · rw [if_pos (by omega), q, rI_at rfl rfl, h (650 * a + i) (by omega), if_neg (by omega), show 650 * b + i - 650 * b + 650 * a = 650 * a + i from by omega]
      · rw [rI_nk (by omega), h e e0]
        by_cases q2 : 650 * b ≤ e ∧ e < 650 * b + i
        · rw [if_pos q2, if_pos (by omega)]
        · rw [if_neg q2, if_neg (by omega)])
    refine ⟨M1, ?_, (Fr.stI ⟨by omega, by omega⟩ (Fr.refl M)).trans r2, r3⟩
    rw [lX11_copies_2]
    simp (disch := omega) only [iI_add, iI_sub, iI_mul, iI_neg, iI_nat, addm1, ixkI, ↓sbind, sbind, ↓bdS, bdS, ↓nm_eq, ↓jn_eq, iI_lt, iI_le, iI_eq, k_0, k_1, k_2, k_3, k_4, k_5, k_6, k_7, k_8, k_9, k_10, k_11, k_12, k_13, k_14, k_15, k_16, k_17, k_18, k_19, k_20, k_21, k_22, k_23, k_24, k_27, k_30, k_32, k_48, k_57, k_59, k_60, k_61, k_62, k_63, k_64, k_72, k_78, k_80, k_82, k_97, k_99, k_100, k_122, k_244, k_255, k_268, k_280, k_300, k_432, k_650, k_900, k_901, k_999, k_1700, k_2600, k_2601, k_2602, k_2603, k_2604, k_2610, k_2618, k_2682, k_2777, k_2844, k_2868, k_2880, k_3245, k_3250, k_9551, k_9999, k_65536, k_100000, k_999999, k_1000000, k_2147483647, lt_T, lt_F, le_T, le_F, eq_T, eq_F, ↓reduceIte, not_true_eq_false, not_false_eq_true, or_true, or_false, true_or, false_or, and_true, true_and, and_false, false_and, z6, r1]
theorem m_copies41 {a b : Int} (ha : 0 ≤ a ∧ a ≤ 3) (hb : 0 ≤ b ∧ b ≤ 3) (hab : a ≠ b) (M0 : Mem) : ∀ (n : Nat) (i : Int), 0 ≤ i → i ≤ 16 → 16 < n + i → ∀ M, (∀ e : Int, 0 ≤ e → M.2.1 (m + 2) e.toNat = if 16 * b ≤ e ∧ e < 16 * b + i then M0.2.1 (m + 2) (e - 16 * b + 16 * a).toNat else M0.2.1 (m + 2) e.toNat) → ∃ M1, lX11_copies_41 m (iI a) (iI b) n (iI i) M = some ((), M1) ∧ Fr (Rg (m + 2) (m + 2)) M M1 ∧ ∀ e : Int, 0 ≤ e → M1.2.1 (m + 2) e.toNat = if 16 * b ≤ e ∧ e < 16 * b + 16 then M0.2.1 (m + 2) (e - 16 * b + 16 * a).toNat else M0.2.1 (m + 2) e.toNat := by
  refine lup (P := fun n i => ∀ M, (∀ e : Int, 0 ≤ e → M.2.1 (m + 2) e.toNat = if 16 * b ≤ e ∧ e < 16 * b + i then M0.2.1 (m + 2) (e - 16 * b + 16 * a).toNat else M0.2.1 (m + 2) e.toNat) → ∃ M1, lX11_copies_41 m (iI a) (iI b) n (iI i) M = some ((), M1) ∧ Fr (Rg (m + 2) (m + 2)) M M1 ∧ ∀ e : Int, 0 ≤ e → M1.2.1 (m + 2) e.toNat = if 16 * b ≤ e ∧ e < 16 * b + 16 then M0.2.1 (m + 2) (e - 16 * b + 16 * a).toNat else M0.2.1 (m + 2) e.toNat) (fun n M h => ⟨M, ?_, Fr.refl M, h⟩) (fun n i i0 i1 ih M h => ?_)
  · rw [lX11_copies_41]
    simp (disch := omega) only [iI_add, iI_sub, iI_mul, iI_neg, iI_nat, addm1, ixkI, ↓sbind, sbind, ↓bdS, bdS, ↓nm_eq, ↓jn_eq, iI_lt, iI_le, iI_eq, k_0, k_1, k_2, k_3, k_4, k_5, k_6, k_7, k_8, k_9, k_10, k_11, k_12, k_13, k_14, k_15, k_16, k_17, k_18, k_19, k_20, k_21, k_22, k_23, k_24, k_27, k_30, k_32, k_48, k_57, k_59, k_60, k_61, k_62, k_63, k_64, k_72, k_78, k_80, k_82, k_97, k_99, k_100, k_122, k_244, k_255, k_268, k_280, k_300, k_432, k_650, k_900, k_901, k_999, k_1700, k_2600, k_2601, k_2602, k_2603, k_2604, k_2610, k_2618, k_2682, k_2777, k_2844, k_2868, k_2880, k_3245, k_3250, k_9551, k_9999, k_65536, k_100000, k_999999, k_1000000, k_2147483647, lt_T, lt_F, le_T, le_F, eq_T, eq_F, ↓reduceIte, not_true_eq_false, not_false_eq_true, or_true, or_false, true_or, false_or, and_true, true_and, and_false, false_and]
  · obtain ⟨M1, r1, r2, r3⟩ := ih (stL M (m + 2) (16 * b + i).toNat (M.2.1 (m + 2) (16 * a + i).toNat)) (fun e e0 => by
      by_cases q : e = 16 * b + i
      · rw [if_pos (by omega), q, rL_at rfl rfl, h (16 * a + i) (by omega), if_neg (by omega), show 16 * b + i - 16 * b + 16 * a = 16 * a + i from by omega]
      · rw [rL_nk (by omega), h e e0]
        by_cases q2 : 16 * b ≤ e ∧ e < 16 * b + i
        · rw [if_pos q2, if_pos (by omega)]
        · rw [if_neg q2, if_neg (by omega)])
    refine ⟨M1, ?_, (Fr.stL ⟨by omega, by omega⟩ (Fr.refl M)).trans r2, r3⟩
    rw [lX11_copies_41]
    simp (disch := omega) only [iI_add, iI_sub, iI_mul, iI_neg, iI_nat, addm1, ixkI, ↓sbind, sbind, ↓bdS, bdS, ↓nm_eq, ↓jn_eq, iI_lt, iI_le, iI_eq, k_0, k_1, k_2, k_3, k_4, k_5, k_6, k_7, k_8, k_9, k_10, k_11, k_12, k_13, k_14, k_15, k_16, k_17, k_18, k_19, k_20, k_21, k_22, k_23, k_24, k_27, k_30, k_32, k_48, k_57, k_59, k_60, k_61, k_62, k_63, k_64, k_72, k_78, k_80, k_82, k_97, k_99, k_100, k_122, k_244, k_255, k_268, k_280, k_300, k_432, k_650, k_900, k_901, k_999, k_1700, k_2600, k_2601, k_2602, k_2603, k_2604, k_2610, k_2618, k_2682, k_2777, k_2844, k_2868, k_2880, k_3245, k_3250, k_9551, k_9999, k_65536, k_100000, k_999999, k_1000000, k_2147483647, lt_T, lt_F, le_T, le_F, eq_T, eq_F, ↓reduceIte, not_true_eq_false, not_false_eq_true, or_true, or_false, true_or, false_or, and_true, true_and, and_false, false_and, r1]
theorem m_copies {a b : Int} (ha : 0 ≤ a ∧ a ≤ 3) (hb : 0 ≤ b ∧ b ≤ 3) (hab : a ≠ b) (M : Mem) {φ : Nat} (hφ : 1000 < φ) : ∃ M1, fX11_copies φ m (iI a) (iI b) M = some ((), M1) ∧ Fr (Rg (m + 1) (m + 2)) M M1 ∧ (∀ e : Int, 0 ≤ e → M1.1 (m + 1) e.toNat = if 650 * b ≤ e ∧ e < 650 * b + 650 then M.1 (m + 1) (e - 650 * b + 650 * a).toNat else M.1 (m + 1) e.toNat) ∧ ∀ e : Int, 0 ≤ e → M1.2.1 (m + 2) e.toNat = if 16 * b ≤ e ∧ e < 16 * b + 16 then M.2.1 (m + 2) (e - 16 * b + 16 * a).toNat else M.2.1 (m + 2) e.toNat := by
  obtain ⟨M1, r1, r2, r3⟩ := m_copies2 (m := m) ha hb hab (fun (M2 : Mem) => lX11_copies_41 m (iI a) (iI b) φ (0 : Int32) M2) M φ 0 (by omega) (by omega) (by omega) M (fun e e0 => by rw [if_neg (by omega)])
  obtain ⟨M2, s1, s2, s3⟩ := m_copies41 (m := m) ha hb hab M1 φ 0 (by omega) (by omega) (by omega) M1 (fun e e0 => by rw [if_neg (by omega)])
  refine ⟨M2, ?_, (r2.mono (fun z q => ⟨q.1, by have := q.2; omega⟩)).trans (s2.mono (fun z q => ⟨by have := q.1; omega, q.2⟩)), fun e e0 => ?_, fun e e0 => ?_⟩
  · have s1' : lX11_copies_41 m (iI a) (iI b) φ (0 : Int32) M1 = some ((), M2) := s1
    unfold fX11_copies
    exact (show lX11_copies_2 (fun (M2 : Mem) => lX11_copies_41 m (iI a) (iI b) φ (0 : Int32) M2) m (iI a) (iI b) φ (0 : Int32) M = _ from r1).trans s1'
  · rw [(s2 (m + 1) (fun q => by have := q.1; omega)).1]; exact r3 e e0
  · rw [s3 e e0, (r2 (m + 2) (fun q => by have := q.2; omega)).2.1]
theorem SL.copy {a b : Int} (ha : 0 ≤ a ∧ a ≤ 3) (hb : 0 ≤ b ∧ b ≤ 3) (hab : a ≠ b) {M1 : Mem} (h1 : ∀ e : Int, 0 ≤ e → M1.1 (m + 1) e.toNat = if 650 * b ≤ e ∧ e < 650 * b + 650 then M.1 (m + 1) (e - 650 * b + 650 * a).toNat else M.1 (m + 1) e.toNat) (h2 : ∀ e : Int, 0 ≤ e → M1.2.1 (m + 2) e.toNat = if 16 * b ≤ e ∧ e < 16 * b + 16 then M.2.1 (m + 2) (e - 16 * b + 16 * a).toNat else M.2.1 (m + 2) e.toNat) {D : DS} (w : WF D.1) (hN : D.2.2.1 ≤ 60) (h : SL m a D M) : SL m b D M1 := h.sh w hN (fun k k0 k1 => by rw [h1 _ (by omega), if_pos (by omega), show 650 * b + k - 650 * b + 650 * a = 650 * a + k from by omega]) (fun k k0 k1 => by rw [h2 _ (by omega), if_pos (by omega), show 16 * b + k - 16 * b + 16 * a = 16 * a + k from by omega])
theorem SL.keep {a b s : Int} (hb : 0 ≤ b ∧ b ≤ 3) (hs : 0 ≤ s ∧ s ≤ 3) (hsb : s ≠ b) {M1 : Mem} (h1 : ∀ e : Int, 0 ≤ e → M1.1 (m + 1) e.toNat = if 650 * b ≤ e ∧ e < 650 * b + 650 then M.1 (m + 1) (e - 650 * b + 650 * a).toNat else M.1 (m + 1) e.toNat) (h2 : ∀ e : Int, 0 ≤ e → M1.2.1 (m + 2) e.toNat = if 16 * b ≤ e ∧ e < 16 * b + 16 then M.2.1 (m + 2) (e - 16 * b + 16 * a).toNat else M.2.1 (m + 2) e.toNat) {D : DS} (w : WF D.1) (hN : D.2.2.1 ≤ 60) (h : SL m s D M) : SL m s D M1 := h.sh w hN (fun k k0 k1 => by rw [h1 _ (by omega), if_neg (by omega)]) (fun k k0 k1 => by rw [h2 _ (by omega), if_neg (by omega)])
end MK
