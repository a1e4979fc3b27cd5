/-! live and lived as calls -/
section LV
variable {F : Fld} {M : Mem} {Y : Yr} {N : Int}
def YI (F : Fld) (N : Int) (Y : Yr) : Prop := N = -1 ∨ ((0 ≤ N ∧ N ≤ 60) ∧ YN N Y ∧ ∀ x, 0 ≤ x → x < N → WS F Y x)
theorem YI.bd (h : YI F N Y) : -1 ≤ N ∧ N ≤ 60 := by
  rcases h with h | ⟨h, _⟩ <;> omega
theorem YI.cn {F1 : Fld} (f : ∀ a, F1 0 a 0 = F 0 a 0) (h : YI F N Y) : YI F1 N Y := by
  rcases h with h | ⟨a, b, c⟩
  · exact Or.inl h
  · exact Or.inr ⟨a, b, fun x x0 x1 => (c x x0 x1).cn f⟩
def YW (y : Nat) (N : Int) (Y : Yr) (M : Mem) : Prop := M.1 y 0 = bI (decide (N ≠ -1)) ∧ (N ≠ -1 → YC y N Y M)
theorem YW.fr {y : Nat} {S : Nat → Prop} {M' : Mem} (hF : Fr S M M') (hS : ∀ z, y ≤ z → z ≤ y + 5 → ¬ S z) (h : YW y N Y M) : YW y N Y M' := ⟨by rw [(hF y (hS y (by omega) (by omega))).1]; exact h.1, fun q => (h.2 q).fr hF hS⟩
abbrev LVS : Type := Bool × Int × Int × Int × Bool
def LVC (V : LVS) (M : Mem) : Prop := M.1 74 1 = bI V.1 ∧ (V.1 = true → M.1 74 3 = iI V.2.1 ∧ M.1 74 4 = iI V.2.2.1 ∧ M.1 74 5 = iI V.2.2.2.1 ∧ M.1 74 6 = bI V.2.2.2.2)
def LVM (m : Nat) (V : LVS) (M : Mem) : Prop := M.1 m 44 = bI V.1 ∧ (V.1 = true → M.1 (m + 23) 0 = iI V.2.1 ∧ M.1 (m + 23) 1 = iI V.2.2.1 ∧ M.1 (m + 23) 2 = iI V.2.2.2.1 ∧ M.1 (m + 23) 3 = bI V.2.2.2.2)
theorem LVC.fr {V : LVS} {S : Nat → Prop} {M' : Mem} (hF : Fr S M M') (hS : ¬ S 74) (h : LVC V M) : LVC V M' := by
  unfold LVC at h ⊢
  rw [(hF 74 hS).1]; exact h
theorem LVM.eq {m : Nat} {V : LVS} {M' : Mem} (h1 : M'.1 m 44 = M.1 m 44) (h2 : M'.1 (m + 23) = M.1 (m + 23)) (h : LVM m V M) : LVM m V M' := by
  unfold LVM at h ⊢
  rw [h1, h2]; exact h
abbrev cV (g : Nat) : Nat → Prop := fun z => z = 74 ∨ z = 75 ∨ z = 57 ∨ (g + 7 ≤ z ∧ z ≤ g + 9) ∨ z = g + 13
abbrev mLV (m : Nat) : Nat → Prop := fun z => z = m ∨ z = m + 1 ∨ (m + 21 ≤ z ∧ z ≤ m + 23)
def mV (m : Nat) (M M1 : Mem) : Prop := (M1.2.1 m = M.2.1 m ∧ ∀ i, i ≠ 39 → i ≠ 40 → i ≠ 44 → M1.1 m i = M.1 m i) ∧ (∀ e : Int, e = 4 ∨ 280 ≤ e → M1.1 (m + 1) e.toNat = M.1 (m + 1) e.toNat) ∧ Fr (mLV m) M M1
theorem mV.refl (m : Nat) (M : Mem) : mV m M M := ⟨⟨rfl, fun _ _ _ _ => rfl⟩, fun _ _ => rfl, Fr.refl M⟩
theorem m_lv4s {m : Nat} {K : Mem → Option (Int32 × Mem)} {x : Int} (hx : 0 ≤ x ∧ x < 4) (M : Mem) (k : Nat) : lX11_live_42 K m (k + 1) (iI x) M = lX11_live_42 K m k (iI (x + 1)) (stI M (m + 23) x.toNat (M.1 (m + 22) x.toNat)) := by
  rw [lX11_live_42]
  simp (disch := omega) only [iI_add, iI_sub, iI_mul, iI_neg, iI_nat, addm1, ixkI, ↓sbind, sbind, ↓bdS, bdS, ↓nm_eq, ↓jn_eq, iI_lt, iI_le, iI_eq, k_0, k_1, k_2, k_3, k_4, k_5, k_6, k_7, k_8, k_9, k_10, k_11, k_12, k_13, k_14, k_15, k_16, k_17, k_18, k_19, k_20, k_21, k_22, k_23, k_24, k_27, k_30, k_32, k_48, k_57, k_59, k_60, k_61, k_62, k_63, k_64, k_72, k_78, k_80, k_82, k_97, k_99, k_100, k_122, k_244, k_255, k_268, k_280, k_300, k_432, k_650, k_900, k_901, k_999, k_1700, k_2600, k_2601, k_2602, k_2603, k_2604, k_2610, k_2618, k_2682, k_2777, k_2844, k_2868, k_2880, k_3245, k_3250, k_9551, k_9999, k_65536, k_100000, k_999999, k_1000000, k_2147483647, lt_T, lt_F, le_T, le_F, eq_T, eq_F, ↓reduceIte, not_true_eq_false, not_false_eq_true, or_true, or_false, true_or, false_or, and_true, true_and, and_false, false_and]
theorem m_lv4e {m : Nat} {K : Mem → Option (Int32 × Mem)} (M : Mem) (k : Nat) : lX11_live_42 K m (k + 1) (iI 4) M = K M := by
  rw [lX11_live_42]
  simp (disch := omega) only [iI_add, iI_sub, iI_mul, iI_neg, iI_nat, addm1, ixkI, ↓sbind, sbind, ↓bdS, bdS, ↓nm_eq, ↓jn_eq, iI_lt, iI_le, iI_eq, k_0, k_1, k_2, k_3, k_4, k_5, k_6, k_7, k_8, k_9, k_10, k_11, k_12, k_13, k_14, k_15, k_16, k_17, k_18, k_19, k_20, k_21, k_22, k_23, k_24, k_27, k_30, k_32, k_48, k_57, k_59, k_60, k_61, k_62, k_63, k_64, k_72, k_78, k_80, k_82, k_97, k_99, k_100, k_122, k_244, k_255, k_268, k_280, k_300, k_432, k_650, k_900, k_901, k_999, k_1700, k_2600, k_2601, k_2602, k_2603, k_2604, k_2610, k_2618, k_2682, k_2777, k_2844, k_2868, k_2880, k_3245, k_3250, k_9551, k_9999, k_65536, k_100000, k_999999, k_1000000, k_2147483647, lt_T, lt_F, le_T, le_F, eq_T, eq_F, ↓reduceIte, not_true_eq_false, not_false_eq_true, or_true, or_false, true_or, false_or, and_true, true_and, and_false, false_and]
theorem m_lv4 {m : Nat} {K : Mem → Option (Int32 × Mem)} (M : Mem) (k : Nat) : lX11_live_42 K m (k + 5) (iI 0) M = K (stI (stI (stI (stI M (m + 23) (Int.toNat 0) (M.1 (m + 22) (Int.toNat 0))) (m + 23) (Int.toNat 1) (M.1 (m + 22) (Int.toNat 1))) (m + 23) (Int.toNat 2) (M.1 (m + 22) (Int.toNat 2))) (m + 23) (Int.toNat 3) (M.1 (m + 22) (Int.toNat 3))) := by
  have n1 : ∀ (M : Mem) (k : Nat) (v : Int32) (j : Nat), (stI M (m + 23) k v).1 (m + 22) j = M.1 (m + 22) j := fun M k v j => rI_ng (by omega)
  have a := m_lv4s (m := m) (K := K) (x := 0) (by omega) M (k + 4)
  have b := m_lv4s (m := m) (K := K) (x := 1) (by omega) (stI M (m + 23) (Int.toNat 0) (M.1 (m + 22) (Int.toNat 0))) (k + 3)
  rw [n1] at b
  have c := m_lv4s (m := m) (K := K) (x := 2) (by omega) (stI (stI M (m + 23) (Int.toNat 0) (M.1 (m + 22) (Int.toNat 0))) (m + 23) (Int.toNat 1) (M.1 (m + 22) (Int.toNat 1))) (k + 2)
  rw [n1, n1] at c
  have d := m_lv4s (m := m) (K := K) (x := 3) (by omega) (stI (stI (stI M (m + 23) (Int.toNat 0) (M.1 (m + 22) (Int.toNat 0))) (m + 23) (Int.toNat 1) (M.1 (m + 22) (Int.toNat 1))) (m + 23) (Int.toNat 2) (M.1 (m + 22) (Int.toNat 2))) (k + 1)
  rw [n1, n1, n1] at d
  exact a.trans (b.trans (c.trans (d.trans (m_lv4e _ k))))
theorem tl_live (w : WF F) (yi : YI F N Y) (V : LVS) {a : Int} (ha : -2147483648 ≤ a ∧ a < 2147483648) {φ : Nat} (hφ : 30000 < φ) : ∃ v st F1 V1, WF F1 ∧ (∀ k, F1 0 k 0 = F 0 k 0) ∧ (∀ g y M, dj 74 g y → y + 5 < 57 → CI 0 g F M → M.2.2 0 9 = some y → isO 8 y → YW y N Y M → LVC V M → ∃ M1, fX10_live φ 0 (iI a) M = some (iI v, stI M1 0 0 (iI st)) ∧ CI 0 g F1 M1 ∧ LVC V1 M1 ∧ Fr (cV g) M M1) ∧ ∀ m M, MR m 0 F M → YM m N Y M → LVM m V M → ∃ M1, fX11_live φ m (iI a) M = some (iI v, stI M1 m 2 (iI st)) ∧ MR m 0 F1 M1 ∧ LVM m V1 M1 ∧ mV m M M1 := by
  have yb := yi.bd
  by_cases h1 : 0 ≤ a ∧ a ≤ 9999
  · by_cases h2 : N = -1
    · refine ⟨-1, 6, F, V, w, fun _ => rfl, fun g y M hd hy I hy9 hoy hY hV => ⟨M, ?_, I, hV, Fr.refl M⟩, fun m M R hY hV => ⟨M, ?_, R, hV, mV.refl m M⟩⟩
      · have e1 := c_isWithin (M := M) (b := 0) (d := 9999) ha (by omega) (by omega)
        have e2 := hY.1
        rw [decide_eq_true h1] at e1
        rw [decide_eq_false (by omega)] at e2
        unfold fX10_live fX10_refuse
        simp (disch := omega) only [iI_add, iI_sub, iI_mul, iI_neg, iI_nat, addm1, ixkI, ↓sbind, sbind, ↓bdS, bdS, ↓nm_eq, ↓jn_eq, iI_lt, iI_le, iI_eq, k_0, k_1, k_2, k_3, k_4, k_5, k_6, k_7, k_8, k_9, k_10, k_11, k_12, k_13, k_14, k_15, k_16, k_17, k_18, k_19, k_20, k_21, k_22, k_23, k_24, k_27, k_30, k_32, k_48, k_57, k_59, k_60, k_61, k_62, k_63, k_64, k_72, k_78, k_80, k_82, k_97, k_99, k_100, k_122, k_244, k_255, k_268, k_280, k_300, k_432, k_650, k_900, k_901, k_999, k_1700, k_2600, k_2601, k_2602, k_2603, k_2604, k_2610, k_2618, k_2682, k_2777, k_2844, k_2868, k_2880, k_3245, k_3250, k_9551, k_9999, k_65536, k_100000, k_999999, k_1000000, k_2147483647, lt_T, lt_F, le_T, le_F, eq_T, eq_F, ↓reduceIte, not_true_eq_false, not_false_eq_true, or_true, or_false, true_or, false_or, and_true, true_and, and_false, false_and, bI_t, bI_f, e1, e2, hy9, ldr_ok hoy]
      · have e1 := m_isFrom (M := M) (a := a) (b := 0) (c := 9999) (by omega) (by omega) (by omega)
        have e2 : M.1 (m + 1) (Int.toNat 4) = iI N := hY.1
        rw [decide_eq_true h1] at e1
        unfold fX11_live fX11_refuse
        rw [iI_l ha, kl_0, kl_9999, e1]
        simp (disch := omega) only [iI_add, iI_sub, iI_mul, iI_neg, iI_nat, addm1, ixkI, ↓sbind, sbind, ↓bdS, bdS, ↓nm_eq, ↓jn_eq, iI_lt, iI_le, iI_eq, k_0, k_1, k_2, k_3, k_4, k_5, k_6, k_7, k_8, k_9, k_10, k_11, k_12, k_13, k_14, k_15, k_16, k_17, k_18, k_19, k_20, k_21, k_22, k_23, k_24, k_27, k_30, k_32, k_48, k_57, k_59, k_60, k_61, k_62, k_63, k_64, k_72, k_78, k_80, k_82, k_97, k_99, k_100, k_122, k_244, k_255, k_268, k_280, k_300, k_432, k_650, k_900, k_901, k_999, k_1700, k_2600, k_2601, k_2602, k_2603, k_2604, k_2610, k_2618, k_2682, k_2777, k_2844, k_2868, k_2880, k_3245, k_3250, k_9551, k_9999, k_65536, k_100000, k_999999, k_1000000, k_2147483647, lt_T, lt_F, le_T, le_F, eq_T, eq_F, ↓reduceIte, not_true_eq_false, not_false_eq_true, or_true, or_false, true_or, false_or, and_true, true_and, and_false, false_and, bI_t, e2]
    · have yj : (0 ≤ N ∧ N ≤ 60) ∧ YN N Y ∧ ∀ x, 0 ≤ x → x < N → WS F Y x := by
        rcases yi with q | q
        · exact absurd q h2
        · exact q
      obtain ⟨F1, rf1, la1, wo1, n1, cut, w1, f1, lc, lm⟩ := live_b w yj.2.1 yj.1 yj.2.2 (sd := a) h1 hφ
      refine ⟨n1, 0, F1, (true, rf1, la1, wo1, cut), w1, f1, fun g y M hd hy I hy9 hoy hY hV => ?_, fun m M R hY hV => ?_⟩
      · have e1 := c_isWithin (M := M) (b := 0) (d := 9999) ha (by omega) (by omega)
        have e2 := hY.1
        rw [decide_eq_true h1] at e1
        rw [decide_eq_true h2] at e2
        obtain ⟨hg, ho, hgd, w, G, hB⟩ := I
        obtain ⟨M1, r1, r2, r3, r4, r5, r6, r7, r8, r9⟩ := lc 74 g y M hd G (hY.2 h2)
        have d1 := hd.1
        have fr1 : Fr (Rg 57 57) M1 (stI M1 57 1 (iI 1)) := Fr.stI ⟨by omega, by omega⟩ (Fr.refl M1)
        refine ⟨stI M1 57 1 (iI 1), ?_, ⟨?_, ho, hgd, w1, r2.fr fr1 (fun z a b q => by have := q.1; have := q.2; omega), Or.inl (rI_at rfl rfl)⟩, ⟨?_, fun _ => ⟨?_, ?_, ?_, ?_⟩⟩, (r9.mono (fun z q => by rcases q with q | q | q; exact Or.inl q; exact Or.inr (Or.inl q); exact Or.inr (Or.inr (Or.inr q)))).trans (fr1.mono (fun z q => Or.inr (Or.inr (Or.inl (by have := q.1; have := q.2; omega)))))⟩
        · have r4' : (stI M1 57 1 (iI 1)).1 74 2 = iI n1 := by rw [rI_ng (by omega)]; exact r4
          unfold fX10_live fX10_answer fX0_turnStale
          simp (disch := omega) only [iI_add, iI_sub, iI_mul, iI_neg, iI_nat, addm1, ixkI, ↓sbind, sbind, ↓bdS, bdS, ↓nm_eq, ↓jn_eq, iI_lt, iI_le, iI_eq, k_0, k_1, k_2, k_3, k_4, k_5, k_6, k_7, k_8, k_9, k_10, k_11, k_12, k_13, k_14, k_15, k_16, k_17, k_18, k_19, k_20, k_21, k_22, k_23, k_24, k_27, k_30, k_32, k_48, k_57, k_59, k_60, k_61, k_62, k_63, k_64, k_72, k_78, k_80, k_82, k_97, k_99, k_100, k_122, k_244, k_255, k_268, k_280, k_300, k_432, k_650, k_900, k_901, k_999, k_1700, k_2600, k_2601, k_2602, k_2603, k_2604, k_2610, k_2618, k_2682, k_2777, k_2844, k_2868, k_2880, k_3245, k_3250, k_9551, k_9999, k_65536, k_100000, k_999999, k_1000000, k_2147483647, lt_T, lt_F, le_T, le_F, eq_T, eq_F, ↓reduceIte, not_true_eq_false, not_false_eq_true, or_true, or_false, true_or, false_or, and_true, true_and, and_false, false_and, bI_t, e1, e2, hy9, ldr_ok hoy, hg, ldr_ok ho, Nat.zero_add, r1, r4']
        · show M1.2.2 0 7 = some g
          rw [(r9 0 (fun q => by rcases q with q | q | q <;> omega)).2.2]; exact hg
        · rw [rI_ng (by omega)]; exact r3
        · rw [rI_ng (by omega)]; exact r5
        · rw [rI_ng (by omega)]; exact r6
        · rw [rI_ng (by omega)]; exact r7
        · rw [rI_ng (by omega)]; exact r8
      · have e1 := m_isFrom (M := M) (a := a) (b := 0) (c := 9999) (by omega) (by omega) (by omega)
        have e2 : M.1 (m + 1) (Int.toNat 4) = iI N := hY.1
        rw [decide_eq_true h1] at e1
        obtain ⟨M1, r1, r2, r3, r4, r5, r6, r7, r8⟩ := lm m M R hY
        obtain ⟨M2, hM2⟩ : ∃ M2, M2 = stI (stI (stI (stI M1 (m + 23) (Int.toNat 0) (M1.1 (m + 22) (Int.toNat 0))) (m + 23) (Int.toNat 1) (M1.1 (m + 22) (Int.toNat 1))) (m + 23) (Int.toNat 2) (M1.1 (m + 22) (Int.toNat 2))) (m + 23) (Int.toNat 3) (M1.1 (m + 22) (Int.toNat 3)) := ⟨_, rfl⟩
        have fr2 : Fr (Rg (m + 23) (m + 23)) M1 M2 := by
          rw [hM2]
          exact Fr.stI ⟨by omega, by omega⟩ (Fr.stI ⟨by omega, by omega⟩ (Fr.stI ⟨by omega, by omega⟩ (Fr.stI ⟨by omega, by omega⟩ (Fr.refl M1))))
        have fr3 : Fr (fun z => z = m ∨ z = m + 23) M1 (stI M2 m 44 (iI 1)) := Fr.stI (Or.inl rfl) (fr2.mono (fun z q => Or.inr (by have := q.1; have := q.2; omega)))
        have t2 : M2.1 m = M1.1 m := (fr2 m (fun q => by have := q.1; omega)).1
        refine ⟨stI M2 m 44 (iI 1), ?_, r2.fr fr3 (fun q => by omega), ⟨rI_at rfl rfl, fun _ => ⟨?_, ?_, ?_, ?_⟩⟩, ⟨(fr2 m (fun q => by have := q.1; omega)).2.1.trans r8.1.1, fun i i1 i2 i3 => by rw [rI_nk i3, t2]; exact r8.1.2 i i1 i2⟩, fun e he => by rw [(fr3 (m + 1) (fun q => by omega)).1]; exact r8.2.1 e he, (r8.2.2.mono (fun z q => by rcases q with q | q | q | q; exact Or.inl q; exact Or.inr (Or.inl q); exact Or.inr (Or.inr ⟨by omega, by omega⟩); exact Or.inr (Or.inr ⟨by omega, by omega⟩))).trans (fr3.mono (fun z q => by rcases q with q | q; exact Or.inl q; exact Or.inr (Or.inr ⟨by omega, by omega⟩)))⟩
        · obtain ⟨ψ, hψ⟩ : ∃ ψ, φ = ψ + 5 := ⟨φ - 5, by omega⟩
          have r3' : (stI M2 m 44 (iI 1)).1 m 40 = iI n1 := by rw [rI_nk (by omega), t2]; exact r3
          have l4 : ∀ K, lX11_live_42 K m φ (iI 0) M1 = K M2 := fun K => by rw [hψ, hM2]; exact m_lv4 M1 ψ
          unfold fX11_live fX11_gives
          rw [iI_l ha, kl_0, kl_9999, e1]
          simp (disch := omega) only [iI_add, iI_sub, iI_mul, iI_neg, iI_nat, addm1, ixkI, ↓sbind, sbind, ↓bdS, bdS, ↓nm_eq, ↓jn_eq, iI_lt, iI_le, iI_eq, k_0, k_1, k_2, k_3, k_4, k_5, k_6, k_7, k_8, k_9, k_10, k_11, k_12, k_13, k_14, k_15, k_16, k_17, k_18, k_19, k_20, k_21, k_22, k_23, k_24, k_27, k_30, k_32, k_48, k_57, k_59, k_60, k_61, k_62, k_63, k_64, k_72, k_78, k_80, k_82, k_97, k_99, k_100, k_122, k_244, k_255, k_268, k_280, k_300, k_432, k_650, k_900, k_901, k_999, k_1700, k_2600, k_2601, k_2602, k_2603, k_2604, k_2610, k_2618, k_2682, k_2777, k_2844, k_2868, k_2880, k_3245, k_3250, k_9551, k_9999, k_65536, k_100000, k_999999, k_1000000, k_2147483647, lt_T, lt_F, le_T, le_F, eq_T, eq_F, ↓reduceIte, not_true_eq_false, not_false_eq_true, or_true, or_false, true_or, false_or, and_true, true_and, and_false, false_and, bI_t, e2, r1, l4, r3']
        · rw [rI_ng (by omega), hM2, rI_nk (by decide), rI_nk (by decide), rI_nk (by decide)]; exact (rI_at rfl rfl).trans r4
        · rw [rI_ng (by omega), hM2, rI_nk (by decide), rI_nk (by decide)]; exact (rI_at rfl rfl).trans r5
        · rw [rI_ng (by omega), hM2, rI_nk (by decide)]; exact (rI_at rfl rfl).trans r6
        · rw [rI_ng (by omega), hM2]; exact (rI_at rfl rfl).trans r7
  · refine ⟨-1, 1, F, V, w, fun _ => rfl, fun g y M hd hy I hy9 hoy hY hV => ⟨M, ?_, I, hV, Fr.refl M⟩, fun m M R hY hV => ⟨M, ?_, R, hV, mV.refl m M⟩⟩
    · have e1 := c_isWithin (M := M) (b := 0) (d := 9999) ha (by omega) (by omega)
      rw [decide_eq_false h1] at e1
      unfold fX10_live fX10_refuse
      simp (disch := omega) only [iI_add, iI_sub, iI_mul, iI_neg, iI_nat, addm1, ixkI, ↓sbind, sbind, ↓bdS, bdS, ↓nm_eq, ↓jn_eq, iI_lt, iI_le, iI_eq, k_0, k_1, k_2, k_3, k_4, k_5, k_6, k_7, k_8, k_9, k_10, k_11, k_12, k_13, k_14, k_15, k_16, k_17, k_18, k_19, k_20, k_21, k_22, k_23, k_24, k_27, k_30, k_32, k_48, k_57, k_59, k_60, k_61, k_62, k_63, k_64, k_72, k_78, k_80, k_82, k_97, k_99, k_100, k_122, k_244, k_255, k_268, k_280, k_300, k_432, k_650, k_900, k_901, k_999, k_1700, k_2600, k_2601, k_2602, k_2603, k_2604, k_2610, k_2618, k_2682, k_2777, k_2844, k_2868, k_2880, k_3245, k_3250, k_9551, k_9999, k_65536, k_100000, k_999999, k_1000000, k_2147483647, lt_T, lt_F, le_T, le_F, eq_T, eq_F, ↓reduceIte, not_true_eq_false, not_false_eq_true, or_true, or_false, true_or, false_or, and_true, true_and, and_false, false_and, bI_f, e1]
    · have e1 := m_isFrom (M := M) (a := a) (b := 0) (c := 9999) (by omega) (by omega) (by omega)
      rw [decide_eq_false h1] at e1
      unfold fX11_live fX11_refuse
      rw [iI_l ha, kl_0, kl_9999, e1]
      simp (disch := omega) only [iI_add, iI_sub, iI_mul, iI_neg, iI_nat, addm1, ixkI, ↓sbind, sbind, ↓bdS, bdS, ↓nm_eq, ↓jn_eq, iI_lt, iI_le, iI_eq, k_0, k_1, k_2, k_3, k_4, k_5, k_6, k_7, k_8, k_9, k_10, k_11, k_12, k_13, k_14, k_15, k_16, k_17, k_18, k_19, k_20, k_21, k_22, k_23, k_24, k_27, k_30, k_32, k_48, k_57, k_59, k_60, k_61, k_62, k_63, k_64, k_72, k_78, k_80, k_82, k_97, k_99, k_100, k_122, k_244, k_255, k_268, k_280, k_300, k_432, k_650, k_900, k_901, k_999, k_1700, k_2600, k_2601, k_2602, k_2603, k_2604, k_2610, k_2618, k_2682, k_2777, k_2844, k_2868, k_2880, k_3245, k_3250, k_9551, k_9999, k_65536, k_100000, k_999999, k_1000000, k_2147483647, lt_T, lt_F, le_T, le_F, eq_T, eq_F, ↓reduceIte, not_true_eq_false, not_false_eq_true, or_true, or_false, true_or, false_or, and_true, true_and, and_false, false_and, bI_f]
theorem tl_lived (V : LVS) {a : Int} (ha : -2147483648 ≤ a ∧ a < 2147483648) : ∃ (v : Int32) (st : Int), (∀ M, LVC V M → fX10_lived 0 (iI a) M = some (v, stI M 0 0 (iI st))) ∧ ∀ m M, LVM m V M → fX11_lived m (iI a) M = some (v, stI M m 2 (iI st)) := by
  obtain ⟨tv, r1, r2, r3, r4⟩ := V
  have ew : ∀ M, fX10_isWithin (iI a) (iI 0) (iI 3) M = some (bI (decide (0 ≤ a ∧ a ≤ 3))) := fun M => c_isWithin ha (by omega) (by omega)
  by_cases h1 : 0 ≤ a ∧ a ≤ 3
  · have ewt : ∀ M, fX10_isWithin (iI a) (iI 0) (iI 3) M = some (iI 1) := fun M => by rw [ew, decide_eq_true h1, bI_t]
    cases tv with
    | false =>
      refine ⟨iI (-1), 6, fun M h => ?_, fun m M h => ?_⟩
      · have e1 := h.1
        unfold fX10_lived fX10_refuse
        simp (disch := omega) only [iI_add, iI_sub, iI_mul, iI_neg, iI_nat, addm1, ixkI, ↓sbind, sbind, ↓bdS, bdS, ↓nm_eq, ↓jn_eq, iI_lt, iI_le, iI_eq, k_0, k_1, k_2, k_3, k_4, k_5, k_6, k_7, k_8, k_9, k_10, k_11, k_12, k_13, k_14, k_15, k_16, k_17, k_18, k_19, k_20, k_21, k_22, k_23, k_24, k_27, k_30, k_32, k_48, k_57, k_59, k_60, k_61, k_62, k_63, k_64, k_72, k_78, k_80, k_82, k_97, k_99, k_100, k_122, k_244, k_255, k_268, k_280, k_300, k_432, k_650, k_900, k_901, k_999, k_1700, k_2600, k_2601, k_2602, k_2603, k_2604, k_2610, k_2618, k_2682, k_2777, k_2844, k_2868, k_2880, k_3245, k_3250, k_9551, k_9999, k_65536, k_100000, k_999999, k_1000000, k_2147483647, lt_T, lt_F, le_T, le_F, eq_T, eq_F, ↓reduceIte, not_true_eq_false, not_false_eq_true, or_true, or_false, true_or, false_or, and_true, true_and, and_false, false_and, ewt, bI_f, e1, Nat.zero_add]
      · have e1 := h.1
        unfold fX11_lived fX11_refuse
        simp (disch := omega) only [iI_add, iI_sub, iI_mul, iI_neg, iI_nat, addm1, ixkI, ↓sbind, sbind, ↓bdS, bdS, ↓nm_eq, ↓jn_eq, iI_lt, iI_le, iI_eq, k_0, k_1, k_2, k_3, k_4, k_5, k_6, k_7, k_8, k_9, k_10, k_11, k_12, k_13, k_14, k_15, k_16, k_17, k_18, k_19, k_20, k_21, k_22, k_23, k_24, k_27, k_30, k_32, k_48, k_57, k_59, k_60, k_61, k_62, k_63, k_64, k_72, k_78, k_80, k_82, k_97, k_99, k_100, k_122, k_244, k_255, k_268, k_280, k_300, k_432, k_650, k_900, k_901, k_999, k_1700, k_2600, k_2601, k_2602, k_2603, k_2604, k_2610, k_2618, k_2682, k_2777, k_2844, k_2868, k_2880, k_3245, k_3250, k_9551, k_9999, k_65536, k_100000, k_999999, k_1000000, k_2147483647, lt_T, lt_F, le_T, le_F, eq_T, eq_F, ↓reduceIte, not_true_eq_false, not_false_eq_true, or_true, or_false, true_or, false_or, and_true, true_and, and_false, false_and, bI_t, bI_f, e1]
    | true =>
      have hs : a = 0 ∨ a = 1 ∨ a = 2 ∨ a = 3 := by omega
      rcases hs with rfl | rfl | rfl | rfl
      · refine ⟨iI r1, 0, fun M h => ?_, fun m M h => ?_⟩
        · obtain ⟨e1, e2⟩ := h
          obtain ⟨f1, f2, f3, f4⟩ := e2 rfl
          unfold fX10_lived fX10_answer
          simp (disch := omega) only [iI_add, iI_sub, iI_mul, iI_neg, iI_nat, addm1, ixkI, ↓sbind, sbind, ↓bdS, bdS, ↓nm_eq, ↓jn_eq, iI_lt, iI_le, iI_eq, k_0, k_1, k_2, k_3, k_4, k_5, k_6, k_7, k_8, k_9, k_10, k_11, k_12, k_13, k_14, k_15, k_16, k_17, k_18, k_19, k_20, k_21, k_22, k_23, k_24, k_27, k_30, k_32, k_48, k_57, k_59, k_60, k_61, k_62, k_63, k_64, k_72, k_78, k_80, k_82, k_97, k_99, k_100, k_122, k_244, k_255, k_268, k_280, k_300, k_432, k_650, k_900, k_901, k_999, k_1700, k_2600, k_2601, k_2602, k_2603, k_2604, k_2610, k_2618, k_2682, k_2777, k_2844, k_2868, k_2880, k_3245, k_3250, k_9551, k_9999, k_65536, k_100000, k_999999, k_1000000, k_2147483647, lt_T, lt_F, le_T, le_F, eq_T, eq_F, ↓reduceIte, not_true_eq_false, not_false_eq_true, or_true, or_false, true_or, false_or, and_true, true_and, and_false, false_and, ewt, e1, f1, bI_t, Nat.zero_add]
        · obtain ⟨e1, e2⟩ := h
          obtain ⟨f1, f2, f3, f4⟩ := e2 rfl
          have f1' : M.1 (m + 23) (Int.toNat 0) = iI r1 := f1
          unfold fX11_lived fX11_gives
          simp (disch := omega) only [iI_add, iI_sub, iI_mul, iI_neg, iI_nat, addm1, ixkI, ↓sbind, sbind, ↓bdS, bdS, ↓nm_eq, ↓jn_eq, iI_lt, iI_le, iI_eq, k_0, k_1, k_2, k_3, k_4, k_5, k_6, k_7, k_8, k_9, k_10, k_11, k_12, k_13, k_14, k_15, k_16, k_17, k_18, k_19, k_20, k_21, k_22, k_23, k_24, k_27, k_30, k_32, k_48, k_57, k_59, k_60, k_61, k_62, k_63, k_64, k_72, k_78, k_80, k_82, k_97, k_99, k_100, k_122, k_244, k_255, k_268, k_280, k_300, k_432, k_650, k_900, k_901, k_999, k_1700, k_2600, k_2601, k_2602, k_2603, k_2604, k_2610, k_2618, k_2682, k_2777, k_2844, k_2868, k_2880, k_3245, k_3250, k_9551, k_9999, k_65536, k_100000, k_999999, k_1000000, k_2147483647, lt_T, lt_F, le_T, le_F, eq_T, eq_F, ↓reduceIte, not_true_eq_false, not_false_eq_true, or_true, or_false, true_or, false_or, and_true, true_and, and_false, false_and, bI_t, e1, f1']
      · refine ⟨iI r2, 0, fun M h => ?_, fun m M h => ?_⟩
        · obtain ⟨e1, e2⟩ := h
          obtain ⟨f1, f2, f3, f4⟩ := e2 rfl
          unfold fX10_lived fX10_answer
          simp (disch := omega) only [iI_add, iI_sub, iI_mul, iI_neg, iI_nat, addm1, ixkI, ↓sbind, sbind, ↓bdS, bdS, ↓nm_eq, ↓jn_eq, iI_lt, iI_le, iI_eq, k_0, k_1, k_2, k_3, k_4, k_5, k_6, k_7, k_8, k_9, k_10, k_11, k_12, k_13, k_14, k_15, k_16, k_17, k_18, k_19, k_20, k_21, k_22, k_23, k_24, k_27, k_30, k_32, k_48, k_57, k_59, k_60, k_61, k_62, k_63, k_64, k_72, k_78, k_80, k_82, k_97, k_99, k_100, k_122, k_244, k_255, k_268, k_280, k_300, k_432, k_650, k_900, k_901, k_999, k_1700, k_2600, k_2601, k_2602, k_2603, k_2604, k_2610, k_2618, k_2682, k_2777, k_2844, k_2868, k_2880, k_3245, k_3250, k_9551, k_9999, k_65536, k_100000, k_999999, k_1000000, k_2147483647, lt_T, lt_F, le_T, le_F, eq_T, eq_F, ↓reduceIte, not_true_eq_false, not_false_eq_true, or_true, or_false, true_or, false_or, and_true, true_and, and_false, false_and, ewt, e1, f2, bI_t, Nat.zero_add]
        · obtain ⟨e1, e2⟩ := h
          obtain ⟨f1, f2, f3, f4⟩ := e2 rfl
          have f1' : M.1 (m + 23) (Int.toNat 1) = iI r2 := f2
          unfold fX11_lived fX11_gives
          simp (disch := omega) only [iI_add, iI_sub, iI_mul, iI_neg, iI_nat, addm1, ixkI, ↓sbind, sbind, ↓bdS, bdS, ↓nm_eq, ↓jn_eq, iI_lt, iI_le, iI_eq, k_0, k_1, k_2, k_3, k_4, k_5, k_6, k_7, k_8, k_9, k_10, k_11, k_12, k_13, k_14, k_15, k_16, k_17, k_18, k_19, k_20, k_21, k_22, k_23, k_24, k_27, k_30, k_32, k_48, k_57, k_59, k_60, k_61, k_62, k_63, k_64, k_72, k_78, k_80, k_82, k_97, k_99, k_100, k_122, k_244, k_255, k_268, k_280, k_300, k_432, k_650, k_900, k_901, k_999, k_1700, k_2600, k_2601, k_2602, k_2603, k_2604, k_2610, k_2618, k_2682, k_2777, k_2844, k_2868, k_2880, k_3245, k_3250, k_9551, k_9999, k_65536, k_100000, k_999999, k_1000000, k_2147483647, lt_T, lt_F, le_T, le_F, eq_T, eq_F, ↓reduceIte, not_true_eq_false, not_false_eq_true, or_true, or_false, true_or, false_or, and_true, true_and, and_false, false_and, bI_t, e1, f1']
      · refine ⟨iI r3, 0, fun M h => ?_, fun m M h => ?_⟩
        · obtain ⟨e1, e2⟩ := h
          obtain ⟨f1, f2, f3, f4⟩ := e2 rfl
          unfold fX10_lived fX10_answer
          simp (disch := omega) only [iI_add, iI_sub, iI_mul, iI_neg, iI_nat, addm1, ixkI, ↓sbind, sbind, ↓bdS, bdS, ↓nm_eq, ↓jn_eq, iI_lt, iI_le, iI_eq, k_0, k_1, k_2, k_3, k_4, k_5, k_6, k_7, k_8, k_9, k_10, k_11, k_12, k_13, k_14, k_15, k_16, k_17, k_18, k_19, k_20, k_21, k_22, k_23, k_24, k_27, k_30, k_32, k_48, k_57, k_59, k_60, k_61, k_62, k_63, k_64, k_72, k_78, k_80, k_82, k_97, k_99, k_100, k_122, k_244, k_255, k_268, k_280, k_300, k_432, k_650, k_900, k_901, k_999, k_1700, k_2600, k_2601, k_2602, k_2603, k_2604, k_2610, k_2618, k_2682, k_2777, k_2844, k_2868, k_2880, k_3245, k_3250, k_9551, k_9999, k_65536, k_100000, k_999999, k_1000000, k_2147483647, lt_T, lt_F, le_T, le_F, eq_T, eq_F, ↓reduceIte, not_true_eq_false, not_false_eq_true, or_true, or_false, true_or, false_or, and_true, true_and, and_false, false_and, ewt, e1, f3, bI_t, Nat.zero_add]
        · obtain ⟨e1, e2⟩ := h
          obtain ⟨f1, f2, f3, f4⟩ := e2 rfl
          have f1' : M.1 (m + 23) (Int.toNat 2) = iI r3 := f3
          unfold fX11_lived fX11_gives
          simp (disch := omega) only [iI_add, iI_sub, iI_mul, iI_neg, iI_nat, addm1, ixkI, ↓sbind, sbind, ↓bdS, bdS, ↓nm_eq, ↓jn_eq, iI_lt, iI_le, iI_eq, k_0, k_1, k_2, k_3, k_4, k_5, k_6, k_7, k_8, k_9, k_10, k_11, k_12, k_13, k_14, k_15, k_16, k_17, k_18, k_19, k_20, k_21, k_22, k_23, k_24, k_27, k_30, k_32, k_48, k_57, k_59, k_60, k_61, k_62, k_63, k_64, k_72, k_78, k_80, k_82, k_97, k_99, k_100, k_122, k_244, k_255, k_268, k_280, k_300, k_432, k_650, k_900, k_901, k_999, k_1700, k_2600, k_2601, k_2602, k_2603, k_2604, k_2610, k_2618, k_2682, k_2777, k_2844, k_2868, k_2880, k_3245, k_3250, k_9551, k_9999, k_65536, k_100000, k_999999, k_1000000, k_2147483647, lt_T, lt_F, le_T, le_F, eq_T, eq_F, ↓reduceIte, not_true_eq_false, not_false_eq_true, or_true, or_false, true_or, false_or, and_true, true_and, and_false, false_and, bI_t, e1, f1']
      · refine ⟨bI r4, 0, fun M h => ?_, fun m M h => ?_⟩
        · obtain ⟨e1, e2⟩ := h
          obtain ⟨f1, f2, f3, f4⟩ := e2 rfl
          unfold fX10_lived fX10_answerYes fX10_answer
          cases r4 with
          | true => simp (disch := omega) only [iI_add, iI_sub, iI_mul, iI_neg, iI_nat, addm1, ixkI, ↓sbind, sbind, ↓bdS, bdS, ↓nm_eq, ↓jn_eq, iI_lt, iI_le, iI_eq, k_0, k_1, k_2, k_3, k_4, k_5, k_6, k_7, k_8, k_9, k_10, k_11, k_12, k_13, k_14, k_15, k_16, k_17, k_18, k_19, k_20, k_21, k_22, k_23, k_24, k_27, k_30, k_32, k_48, k_57, k_59, k_60, k_61, k_62, k_63, k_64, k_72, k_78, k_80, k_82, k_97, k_99, k_100, k_122, k_244, k_255, k_268, k_280, k_300, k_432, k_650, k_900, k_901, k_999, k_1700, k_2600, k_2601, k_2602, k_2603, k_2604, k_2610, k_2618, k_2682, k_2777, k_2844, k_2868, k_2880, k_3245, k_3250, k_9551, k_9999, k_65536, k_100000, k_999999, k_1000000, k_2147483647, lt_T, lt_F, le_T, le_F, eq_T, eq_F, ↓reduceIte, not_true_eq_false, not_false_eq_true, or_true, or_false, true_or, false_or, and_true, true_and, and_false, false_and, ewt, e1, f4, bI_t, Nat.zero_add]
          | false => simp (disch := omega) only [iI_add, iI_sub, iI_mul, iI_neg, iI_nat, addm1, ixkI, ↓sbind, sbind, ↓bdS, bdS, ↓nm_eq, ↓jn_eq, iI_lt, iI_le, iI_eq, k_0, k_1, k_2, k_3, k_4, k_5, k_6, k_7, k_8, k_9, k_10, k_11, k_12, k_13, k_14, k_15, k_16, k_17, k_18, k_19, k_20, k_21, k_22, k_23, k_24, k_27, k_30, k_32, k_48, k_57, k_59, k_60, k_61, k_62, k_63, k_64, k_72, k_78, k_80, k_82, k_97, k_99, k_100, k_122, k_244, k_255, k_268, k_280, k_300, k_432, k_650, k_900, k_901, k_999, k_1700, k_2600, k_2601, k_2602, k_2603, k_2604, k_2610, k_2618, k_2682, k_2777, k_2844, k_2868, k_2880, k_3245, k_3250, k_9551, k_9999, k_65536, k_100000, k_999999, k_1000000, k_2147483647, lt_T, lt_F, le_T, le_F, eq_T, eq_F, ↓reduceIte, not_true_eq_false, not_false_eq_true, or_true, or_false, true_or, false_or, and_true, true_and, and_false, false_and, ewt, bI_f, e1, f4, bI_t, Nat.zero_add]
        · obtain ⟨e1, e2⟩ := h
          obtain ⟨f1, f2, f3, f4⟩ := e2 rfl
          have f1' : M.1 (m + 23) (Int.toNat 3) = bI r4 := f4
          unfold fX11_lived fX11_gives
          simp (disch := omega) only [iI_add, iI_sub, iI_mul, iI_neg, iI_nat, addm1, ixkI, ↓sbind, sbind, ↓bdS, bdS, ↓nm_eq, ↓jn_eq, iI_lt, iI_le, iI_eq, k_0, k_1, k_2, k_3, k_4, k_5, k_6, k_7, k_8, k_9, k_10, k_11, k_12, k_13, k_14, k_15, k_16, k_17, k_18, k_19, k_20, k_21, k_22, k_23, k_24, k_27, k_30, k_32, k_48, k_57, k_59, k_60, k_61, k_62, k_63, k_64, k_72, k_78, k_80, k_82, k_97, k_99, k_100, k_122, k_244, k_255, k_268, k_280, k_300, k_432, k_650, k_900, k_901, k_999, k_1700, k_2600, k_2601, k_2602, k_2603, k_2604, k_2610, k_2618, k_2682, k_2777, k_2844, k_2868, k_2880, k_3245, k_3250, k_9551, k_9999, k_65536, k_100000, k_999999, k_1000000, k_2147483647, lt_T, lt_F, le_T, le_F, eq_T, eq_F, ↓reduceIte, not_true_eq_false, not_false_eq_true, or_true, or_false, true_or, false_or, and_true, true_and, and_false, false_and, bI_t, e1, f1']
  · have ewf : ∀ M, fX10_isWithin (iI a) (iI 0) (iI 3) M = some (iI 0) := fun M => by rw [ew, decide_eq_false h1, bI_f]
    refine ⟨iI (-1), 1, fun M h => ?_, fun m M h => ?_⟩
    · unfold fX10_lived fX10_refuse
      simp (disch := omega) only [iI_add, iI_sub, iI_mul, iI_neg, iI_nat, addm1, ixkI, ↓sbind, sbind, ↓bdS, bdS, ↓nm_eq, ↓jn_eq, iI_lt, iI_le, iI_eq, k_0, k_1, k_2, k_3, k_4, k_5, k_6, k_7, k_8, k_9, k_10, k_11, k_12, k_13, k_14, k_15, k_16, k_17, k_18, k_19, k_20, k_21, k_22, k_23, k_24, k_27, k_30, k_32, k_48, k_57, k_59, k_60, k_61, k_62, k_63, k_64, k_72, k_78, k_80, k_82, k_97, k_99, k_100, k_122, k_244, k_255, k_268, k_280, k_300, k_432, k_650, k_900, k_901, k_999, k_1700, k_2600, k_2601, k_2602, k_2603, k_2604, k_2610, k_2618, k_2682, k_2777, k_2844, k_2868, k_2880, k_3245, k_3250, k_9551, k_9999, k_65536, k_100000, k_999999, k_1000000, k_2147483647, lt_T, lt_F, le_T, le_F, eq_T, eq_F, ↓reduceIte, not_true_eq_false, not_false_eq_true, or_true, or_false, true_or, false_or, and_true, true_and, and_false, false_and, ewf]
    · unfold fX11_lived fX11_refuse
      by_cases q : a < 0
      · simp (disch := omega) only [iI_add, iI_sub, iI_mul, iI_neg, iI_nat, addm1, ixkI, ↓sbind, sbind, ↓bdS, bdS, ↓nm_eq, ↓jn_eq, iI_lt, iI_le, iI_eq, k_0, k_1, k_2, k_3, k_4, k_5, k_6, k_7, k_8, k_9, k_10, k_11, k_12, k_13, k_14, k_15, k_16, k_17, k_18, k_19, k_20, k_21, k_22, k_23, k_24, k_27, k_30, k_32, k_48, k_57, k_59, k_60, k_61, k_62, k_63, k_64, k_72, k_78, k_80, k_82, k_97, k_99, k_100, k_122, k_244, k_255, k_268, k_280, k_300, k_432, k_650, k_900, k_901, k_999, k_1700, k_2600, k_2601, k_2602, k_2603, k_2604, k_2610, k_2618, k_2682, k_2777, k_2844, k_2868, k_2880, k_3245, k_3250, k_9551, k_9999, k_65536, k_100000, k_999999, k_1000000, k_2147483647, lt_T, lt_F, le_T, le_F, eq_T, eq_F, ↓reduceIte, not_true_eq_false, not_false_eq_true, or_true, or_false, true_or, false_or, and_true, true_and, and_false, false_and]
      · simp (disch := omega) only [iI_add, iI_sub, iI_mul, iI_neg, iI_nat, addm1, ixkI, ↓sbind, sbind, ↓bdS, bdS, ↓nm_eq, ↓jn_eq, iI_lt, iI_le, iI_eq, k_0, k_1, k_2, k_3, k_4, k_5, k_6, k_7, k_8, k_9, k_10, k_11, k_12, k_13, k_14, k_15, k_16, k_17, k_18, k_19, k_20, k_21, k_22, k_23, k_24, k_27, k_30, k_32, k_48, k_57, k_59, k_60, k_61, k_62, k_63, k_64, k_72, k_78, k_80, k_82, k_97, k_99, k_100, k_122, k_244, k_255, k_268, k_280, k_300, k_432, k_650, k_900, k_901, k_999, k_1700, k_2600, k_2601, k_2602, k_2603, k_2604, k_2610, k_2618, k_2682, k_2777, k_2844, k_2868, k_2880, k_3245, k_3250, k_9551, k_9999, k_65536, k_100000, k_999999, k_1000000, k_2147483647, lt_T, lt_F, le_T, le_F, eq_T, eq_F, ↓reduceIte, not_true_eq_false, not_false_eq_true, or_true, or_false, true_or, false_or, and_true, true_and, and_false, false_and]
end LV
