/-! the ends of years' parts, passed on both sides -/
section EN
variable {m g y t : Nat} {F : Fld} {M : Mem} {Y : Yr} {N : Int}
abbrev y_op (Y : Yr) (o : Int) : Prop := Y o 0 = 18 ∨ 1700 ≤ Y o 0
/-- mates and nesting -/
def YN (N : Int) (Y : Yr) : Prop := (∀ o : Int, 0 ≤ o → o < N → y_op Y o → o < Y o 4 ∧ Y o 4 < N ∧ Y (Y o 4) 0 = 19 ∧ Y (Y o 4) 4 = o) ∧ (∀ e : Int, 0 ≤ e → e < N → Y e 0 = 19 → 0 ≤ Y e 4 ∧ Y e 4 < e ∧ y_op Y (Y e 4) ∧ Y (Y e 4) 4 = e) ∧ ∀ o v : Int, 0 ≤ o → o < v → v < N → y_op Y o → y_op Y v → v < Y o 4 → Y v 4 < Y o 4
/-- loops around row x -/
abbrev y_in (Y : Yr) (x o : Int) : Prop := 0 ≤ o ∧ o < x ∧ Y o 0 = 18 ∧ x ≤ Y o 4
def LL (t : Nat) (Y : Yr) (R : Int → Int) (x : Int) (M : Mem) : Prop := ∀ o, y_in Y x o → M.1 (t + 1) o.toNat = iI (R o + 1)
def LLm (m : Nat) (Y : Yr) (R : Int → Int) (x : Int) (M : Mem) : Prop := ∀ o, y_in Y x o → M.1 (m + 21) o.toNat = iI (R o)
def RB (Y : Yr) (R : Int → Int) (x : Int) : Prop := ∀ o, y_in Y x o → 0 ≤ R o ∧ R o ≤ 9999
theorem y_in_s {x o : Int} (h : y_in Y (x + 1) o) (hx : Y x 0 ≠ 18) : y_in Y x o := by
  obtain ⟨a, b, c, d⟩ := h
  refine ⟨a, ?_, c, by omega⟩
  by_cases ho : o = x
  · exact absurd (ho ▸ c) hx
  · omega
theorem y_in_b (n : YN N Y) {e o : Int} (he : 0 ≤ e ∧ e < N) (hk : Y e 0 = 19) (h : y_in Y (Y e 4 + 1) o) (ho : o ≠ Y e 4) : y_in Y e o := by
  obtain ⟨a, b, c, d⟩ := h
  obtain ⟨v0, v1, v2, v3⟩ := n.2.1 e he.1 he.2 hk
  have h1 := n.2.2 o (Y e 4) a (by omega) (by omega) (Or.inl c) v2 (by omega)
  exact ⟨a, by omega, c, by omega⟩
/-- the class passes ends from x on: it comes to x1 in j turns; the reference comes there too -/
def EndC (Y : Yr) (N x : Int) (R : Int → Int) (x1 : Int) (R1 : Int → Int) (j : Nat) : Prop := ∀ (φ t g y : Nat) (M : Mem) (u : Int), (t + 1 < y ∨ y + 5 < t) → YC y N Y M → LL t Y R x M → M.1 t 6 = iI 0 → 0 ≤ u → u + (j : Int) ≤ 900000 → ∀ k, ∃ M1, lX3_run_41 φ t y g (k + j) (iI x) (iI u) M = lX3_run_41 φ t y g k (iI x1) (iI (u + j)) M1 ∧ LL t Y R1 x1 M1 ∧ Fr (Rg (t + 1) (t + 1)) M M1
def EndM (Y : Yr) (N x : Int) (R : Int → Int) (x1 : Int) (R1 : Int → Int) (d : Nat) : Prop := ∀ m M, YM m N Y M → LLm m Y R x M → ∀ k, d < k → ∃ M1, lX11_behindEnds_2 m k (iI x) M = some (iI x1, M1) ∧ LLm m Y R1 x1 M1 ∧ Fr (Rg (m + 21) (m + 21)) M M1
theorem ends_0 (hN : 0 ≤ N ∧ N ≤ 60) {x : Int} (hx : 0 ≤ x ∧ x ≤ 100) (R : Int → Int) (h : x < N → Y x 0 ≠ 19) (hk : x < N → 0 ≤ Y x 0 ∧ Y x 0 ≤ 9999) (d : Nat) : EndC Y N x R x R 0 ∧ EndM Y N x R x R d := by
  refine ⟨fun φ t g y M u ht hY hL h6 u0 u1 k => ⟨M, by simp only [Nat.add_zero, Int.natCast_zero, Int.add_zero], hL, Fr.refl M⟩, fun m M hY hL k hk' => ⟨M, ?_, hL, Fr.refl M⟩⟩
  obtain ⟨k, rfl⟩ : ∃ q, k = q + 1 := ⟨k - 1, by omega⟩
  have e1 : M.1 (m + 1) (Int.toNat 4) = iI N := hY.1
  rw [lX11_behindEnds_2]
  by_cases hc : N ≤ x
  · simp (disch := omega) only [iI_add, iI_sub, iI_mul, iI_neg, iI_nat, addm1, ixkI, ↓sbind, sbind, ↓bdS, bdS, ↓nm_eq, ↓jn_eq, iI_lt, iI_le, iI_eq, k_0, k_1, k_2, k_3, k_4, k_5, k_6, k_7, k_8, k_9, k_10, k_11, k_12, k_13, k_14, k_15, k_16, k_17, k_18, k_19, k_20, k_21, k_22, k_23, k_24, k_27, k_30, k_32, k_48, k_57, k_59, k_60, k_61, k_62, k_63, k_64, k_72, k_78, k_80, k_82, k_97, k_99, k_100, k_122, k_244, k_255, k_268, k_280, k_300, k_432, k_650, k_900, k_901, k_999, k_1700, k_2600, k_2601, k_2602, k_2603, k_2604, k_2610, k_2618, k_2682, k_2777, k_2844, k_2868, k_2880, k_3245, k_3250, k_9551, k_9999, k_65536, k_100000, k_999999, k_1000000, k_2147483647, lt_T, lt_F, le_T, le_F, eq_T, eq_F, ↓reduceIte, not_true_eq_false, not_false_eq_true, or_true, or_false, true_or, false_or, and_true, true_and, and_false, false_and, e1]
  · have e2 := hY.at0 (x := x) ⟨by omega, by omega⟩
    have b1 := h (by omega)
    have b2 := hk (by omega)
    simp (disch := omega) only [iI_add, iI_sub, iI_mul, iI_neg, iI_nat, addm1, ixkI, ↓sbind, sbind, ↓bdS, bdS, ↓nm_eq, ↓jn_eq, iI_lt, iI_le, iI_eq, k_0, k_1, k_2, k_3, k_4, k_5, k_6, k_7, k_8, k_9, k_10, k_11, k_12, k_13, k_14, k_15, k_16, k_17, k_18, k_19, k_20, k_21, k_22, k_23, k_24, k_27, k_30, k_32, k_48, k_57, k_59, k_60, k_61, k_62, k_63, k_64, k_72, k_78, k_80, k_82, k_97, k_99, k_100, k_122, k_244, k_255, k_268, k_280, k_300, k_432, k_650, k_900, k_901, k_999, k_1700, k_2600, k_2601, k_2602, k_2603, k_2604, k_2610, k_2618, k_2682, k_2777, k_2844, k_2868, k_2880, k_3245, k_3250, k_9551, k_9999, k_65536, k_100000, k_999999, k_1000000, k_2147483647, lt_T, lt_F, le_T, le_F, eq_T, eq_F, ↓reduceIte, not_true_eq_false, not_false_eq_true, or_true, or_false, true_or, false_or, and_true, true_and, and_false, false_and, e1, e2]
theorem y_k_op {k : Int} (h : 1700 ≤ k ∧ k ≤ 9999) : y_k k ≠ 21 ∧ 0 ≤ y_k k ∧ y_k k ≤ 9999 := by
  unfold y_k
  by_cases h1 : k = 1721
  · rw [if_pos h1]; omega
  · rw [if_neg h1]
    by_cases h2 : k = 1722
    · rw [if_pos h2]; omega
    · rw [if_neg h2]
      by_cases h3 : k = 1723
      · rw [if_pos h3]; omega
      · rw [if_neg h3, if_neg (by omega), if_neg (by omega), if_neg (by omega)]; omega
theorem ends_l (n : YN N Y) (hN : 0 ≤ N ∧ N ≤ 60) (hk : ∀ x, 0 ≤ x → x < N → 0 ≤ Y x 0 ∧ Y x 0 ≤ 9999) : ∀ (d : Nat) (x : Int) (R : Int → Int), N - x ≤ d → 0 ≤ x → x ≤ 100 → RB Y R x → (∀ o, y_in Y x o → Y o 4 ≠ o + 1) → ∃ (x1 : Int) (R1 : Int → Int) (j : Nat), (0 ≤ x1 ∧ x1 ≤ 100 ∧ (x1 < N → Y x1 0 ≠ 19)) ∧ j ≤ d + 1 ∧ RB Y R1 x1 ∧ (∀ o, y_in Y x1 o → Y o 4 ≠ o + 1) ∧ EndC Y N x R x1 R1 j ∧ EndM Y N x R x1 R1 (d + 1) := by
  intro d
  induction d with
  | zero =>
    intro x R hd hx hx1 hR hE
    obtain ⟨a, b⟩ := ends_0 (Y := Y) hN ⟨hx, hx1⟩ R (fun h => by omega) (fun h => by omega) (0 + 1)
    exact ⟨x, R, 0, ⟨hx, hx1, fun h => by omega⟩, by omega, hR, hE, a, b⟩
  | succ d ih =>
    intro x R hd hx hx1 hR hE
    by_cases hc : x < N ∧ Y x 0 = 19
    · obtain ⟨c1, c2⟩ := hc
      obtain ⟨v0, v1, v2, v3⟩ := n.2.1 x hx c1 c2
      obtain ⟨v, hv⟩ : ∃ v, v = Y x 4 := ⟨_, rfl⟩
      rw [← hv] at v0 v1 v2 v3
      have kv := hk v v0 (by omega)
      by_cases hj : Y v 0 = 18 ∧ 0 < R v
      · have vin : y_in Y x v := ⟨v0, v1, hj.1, by omega⟩
        have rv := hR v vin
        have ve := hE v vin
        have hne : v + 1 < N → Y (v + 1) 0 ≠ 19 := fun h q => by
          obtain ⟨w0, w1, w2, w3⟩ := n.2.1 (v + 1) (by omega) h q
          by_cases hw : Y (v + 1) 4 = v
          · rw [hw] at w3; omega
          · have := n.2.2 (Y (v + 1) 4) v w0 (by omega) (by omega) w2 v2 (by omega)
            omega
        have sub : ∀ o, y_in Y (v + 1) o → o = v ∨ (o ≠ v ∧ y_in Y x o) := fun o ho => by
          by_cases q : o = v
          · exact Or.inl q
          · exact Or.inr ⟨q, y_in_b n ⟨hx, c1⟩ c2 (by rw [← hv]; exact ho) (by rw [← hv]; exact q)⟩
        obtain ⟨f1, f2⟩ := ends_0 (Y := Y) hN (x := v + 1) (by omega) (fun o => if o = v then R v - 1 else R o) hne (fun h => hk (v + 1) (by omega) h) d
        refine ⟨v + 1, fun o => if o = v then R v - 1 else R o, 1, ⟨by omega, by omega, hne⟩, by omega, fun o ho => ?_, fun o ho => ?_, fun φ t g y M u ht hY hL h6 u0 u1 k => ?_, fun m M hY hL k hk' => ?_⟩
        · show 0 ≤ (if o = v then R v - 1 else R o) ∧ (if o = v then R v - 1 else R o) ≤ 9999
          rcases sub o ho with q | ⟨q, q2⟩
          · rw [if_pos q]; omega
          · rw [if_neg q]; exact hR o q2
        · rcases sub o ho with q | ⟨q, q2⟩
          · rw [q]; exact ve
          · exact hE o q2
        · obtain ⟨e1, e2, e3, e4, e5⟩ := hY.2 x hx c1
          obtain ⟨g1, g2, g3, g4, g5⟩ := hY.2 v v0 (by omega)
          have e5 := e5 (by omega) (by omega)
          rw [show y_k (Y x 0) = 22 from by rw [c2]; rfl] at e1
          rw [show y_k (Y v 0) = 21 from by rw [hj.1]; rfl] at g1
          rw [← hv] at e5
          have l1 := hL v vin
          have n1 := hY.1
          refine ⟨stI M (t + 1) v.toNat (iI (R v + 1 - 1)), ?_, fun o ho => ?_, Fr.stI ⟨by omega, by omega⟩ (Fr.refl M)⟩
          · rw [lX3_run_41]
            unfold fX3_behindEnd
            simp (disch := omega) only [iI_add, iI_sub, iI_mul, iI_neg, iI_nat, addm1, ixkI, ↓sbind, sbind, ↓bdS, bdS, ↓nm_eq, ↓jn_eq, iI_lt, iI_le, iI_eq, k_0, k_1, k_2, k_3, k_4, k_5, k_6, k_7, k_8, k_9, k_10, k_11, k_12, k_13, k_14, k_15, k_16, k_17, k_18, k_19, k_20, k_21, k_22, k_23, k_24, k_27, k_30, k_32, k_48, k_57, k_59, k_60, k_61, k_62, k_63, k_64, k_72, k_78, k_80, k_82, k_97, k_99, k_100, k_122, k_244, k_255, k_268, k_280, k_300, k_432, k_650, k_900, k_901, k_999, k_1700, k_2600, k_2601, k_2602, k_2603, k_2604, k_2610, k_2618, k_2682, k_2777, k_2844, k_2868, k_2880, k_3245, k_3250, k_9551, k_9999, k_65536, k_100000, k_999999, k_1000000, k_2147483647, lt_T, lt_F, le_T, le_F, eq_T, eq_F, ↓reduceIte, not_true_eq_false, not_false_eq_true, or_true, or_false, true_or, false_or, and_true, true_and, and_false, false_and, n1, h6, e1, e5, g1, l1, Int.natCast_one]
          · show _ = iI ((if o = v then R v - 1 else R o) + 1)
            rcases sub o ho with q | ⟨q, q2⟩
            · rw [if_pos q, q, show R v - 1 + 1 = R v + 1 - 1 from by omega]; exact rI_at rfl rfl
            · have := ho.1
              rw [if_neg q, rI_nk (by omega)]; exact hL o q2
        · obtain ⟨k, rfl⟩ : ∃ q, k = q + 1 := ⟨k - 1, by omega⟩
          have e0 : M.1 (m + 1) (Int.toNat 4) = iI N := hY.1
          have e1 := hY.at0 (x := x) ⟨hx, c1⟩
          have e2 := hY.at (x := x) (c := 4) ⟨hx, c1⟩ (by omega)
          have e3 := hY.at0 (x := v) ⟨v0, by omega⟩
          have l1 := hL v vin
          rw [← hv] at e2
          have fr1 : Fr (Rg (m + 21) (m + 21)) M (stI M (m + 21) v.toNat (iI (R v - 1))) := Fr.stI ⟨by omega, by omega⟩ (Fr.refl M)
          obtain ⟨M1, r1, r2, r3⟩ := f2 m (stI M (m + 21) v.toNat (iI (R v - 1))) ⟨by rw [rI_ng (by omega)]; exact hY.1, fun a b a0 a1 b0 b1 => by rw [rI_ng (by omega)]; exact hY.2 a b a0 a1 b0 b1⟩ (fun o ho => by
            show _ = iI (if o = v then R v - 1 else R o)
            rcases sub o ho with q | ⟨q, q2⟩
            · rw [if_pos q, q]; exact rI_at rfl rfl
            · have := ho.1
              rw [if_neg q, rI_nk (by omega)]; exact hL o q2) k (by omega)
          refine ⟨M1, ?_, r2, fr1.trans r3⟩
          have h18 : Y v 0 = 18 := hj.1
          rw [lX11_behindEnds_2]
          simp (disch := omega) only [iI_add, iI_sub, iI_mul, iI_neg, iI_nat, addm1, ixkI, ↓sbind, sbind, ↓bdS, bdS, ↓nm_eq, ↓jn_eq, iI_lt, iI_le, iI_eq, k_0, k_1, k_2, k_3, k_4, k_5, k_6, k_7, k_8, k_9, k_10, k_11, k_12, k_13, k_14, k_15, k_16, k_17, k_18, k_19, k_20, k_21, k_22, k_23, k_24, k_27, k_30, k_32, k_48, k_57, k_59, k_60, k_61, k_62, k_63, k_64, k_72, k_78, k_80, k_82, k_97, k_99, k_100, k_122, k_244, k_255, k_268, k_280, k_300, k_432, k_650, k_900, k_901, k_999, k_1700, k_2600, k_2601, k_2602, k_2603, k_2604, k_2610, k_2618, k_2682, k_2777, k_2844, k_2868, k_2880, k_3245, k_3250, k_9551, k_9999, k_65536, k_100000, k_999999, k_1000000, k_2147483647, lt_T, lt_F, le_T, le_F, eq_T, eq_F, ↓reduceIte, not_true_eq_false, not_false_eq_true, or_true, or_false, true_or, false_or, and_true, true_and, and_false, false_and, e0, e1, e2, e3, l1, r1]
      · have hx18 : Y x 0 ≠ 18 := by omega
        obtain ⟨x1, R1, j, p1, p2, p3, p4, p5, p6⟩ := ih (x + 1) R (by omega) (by omega) (by omega) (fun o ho => hR o (y_in_s ho hx18)) (fun o ho => hE o (y_in_s ho hx18))
        have ov : ∀ o, y_in Y (x + 1) o → o ≠ v := fun o ho q => by
          have := ho.2.2.2
          rw [q] at this
          omega
        refine ⟨x1, R1, j + 1, p1, by omega, p3, p4, fun φ t g y M u ht hY hL h6 u0 u1 k => ?_, fun m M hY hL k hk' => ?_⟩
        · obtain ⟨e1, e2, e3, e4, e5⟩ := hY.2 x hx c1
          obtain ⟨g1, g2, g3, g4, g5⟩ := hY.2 v v0 (by omega)
          have e5 := e5 (by omega) (by omega)
          rw [show y_k (Y x 0) = 22 from by rw [c2]; rfl] at e1
          rw [← hv] at e5
          have n1 := hY.1
          obtain ⟨M1, r1, r2⟩ := p5 φ t g y M (u + 1) ht hY (fun o ho => hL o (y_in_s ho hx18)) h6 (by omega) (by omega) k
          refine ⟨M1, ?_, r2⟩
          rw [show k + (j + 1) = k + j + 1 from by omega, lX3_run_41]
          unfold fX3_behindEnd
          rw [show u + ((j + 1 : Nat) : Int) = u + 1 + (j : Int) from by omega]
          by_cases h18 : Y v 0 = 18
          · have vin : y_in Y x v := ⟨v0, v1, h18, by omega⟩
            have rv := hR v vin
            have l1 := hL v vin
            rw [show y_k (Y v 0) = 21 from by rw [h18]; rfl] at g1
            simp (disch := omega) only [iI_add, iI_sub, iI_mul, iI_neg, iI_nat, addm1, ixkI, ↓sbind, sbind, ↓bdS, bdS, ↓nm_eq, ↓jn_eq, iI_lt, iI_le, iI_eq, k_0, k_1, k_2, k_3, k_4, k_5, k_6, k_7, k_8, k_9, k_10, k_11, k_12, k_13, k_14, k_15, k_16, k_17, k_18, k_19, k_20, k_21, k_22, k_23, k_24, k_27, k_30, k_32, k_48, k_57, k_59, k_60, k_61, k_62, k_63, k_64, k_72, k_78, k_80, k_82, k_97, k_99, k_100, k_122, k_244, k_255, k_268, k_280, k_300, k_432, k_650, k_900, k_901, k_999, k_1700, k_2600, k_2601, k_2602, k_2603, k_2604, k_2610, k_2618, k_2682, k_2777, k_2844, k_2868, k_2880, k_3245, k_3250, k_9551, k_9999, k_65536, k_100000, k_999999, k_1000000, k_2147483647, lt_T, lt_F, le_T, le_F, eq_T, eq_F, ↓reduceIte, not_true_eq_false, not_false_eq_true, or_true, or_false, true_or, false_or, and_true, true_and, and_false, false_and, n1, h6, e1, e5, g1, l1, r1]
          · have h17 : 1700 ≤ Y v 0 := by rcases v2 with q | q <;> omega
            obtain ⟨q1, q2⟩ := y_k_op ⟨h17, kv.2⟩
            simp (disch := omega) only [iI_add, iI_sub, iI_mul, iI_neg, iI_nat, addm1, ixkI, ↓sbind, sbind, ↓bdS, bdS, ↓nm_eq, ↓jn_eq, iI_lt, iI_le, iI_eq, k_0, k_1, k_2, k_3, k_4, k_5, k_6, k_7, k_8, k_9, k_10, k_11, k_12, k_13, k_14, k_15, k_16, k_17, k_18, k_19, k_20, k_21, k_22, k_23, k_24, k_27, k_30, k_32, k_48, k_57, k_59, k_60, k_61, k_62, k_63, k_64, k_72, k_78, k_80, k_82, k_97, k_99, k_100, k_122, k_244, k_255, k_268, k_280, k_300, k_432, k_650, k_900, k_901, k_999, k_1700, k_2600, k_2601, k_2602, k_2603, k_2604, k_2610, k_2618, k_2682, k_2777, k_2844, k_2868, k_2880, k_3245, k_3250, k_9551, k_9999, k_65536, k_100000, k_999999, k_1000000, k_2147483647, lt_T, lt_F, le_T, le_F, eq_T, eq_F, ↓reduceIte, not_true_eq_false, not_false_eq_true, or_true, or_false, true_or, false_or, and_true, true_and, and_false, false_and, n1, h6, e1, e5, g1, r1]
        · obtain ⟨k, rfl⟩ : ∃ q, k = q + 1 := ⟨k - 1, by omega⟩
          have e0 : M.1 (m + 1) (Int.toNat 4) = iI N := hY.1
          have e1 := hY.at0 (x := x) ⟨hx, c1⟩
          have e2 := hY.at (x := x) (c := 4) ⟨hx, c1⟩ (by omega)
          have e3 := hY.at0 (x := v) ⟨v0, by omega⟩
          rw [← hv] at e2
          have step : ∀ z : Int32, ∃ M1, lX11_behindEnds_2 m k (iI (x + 1)) (stI M (m + 21) v.toNat z) = some (iI x1, M1) ∧ LLm m Y R1 x1 M1 ∧ Fr (Rg (m + 21) (m + 21)) M M1 := fun z => by
            have fr1 : Fr (Rg (m + 21) (m + 21)) M (stI M (m + 21) v.toNat z) := Fr.stI ⟨by omega, by omega⟩ (Fr.refl M)
            obtain ⟨M1, r1, r2, r3⟩ := p6 m (stI M (m + 21) v.toNat z) ⟨by rw [rI_ng (by omega)]; exact hY.1, fun a b a0 a1 b0 b1 => by rw [rI_ng (by omega)]; exact hY.2 a b a0 a1 b0 b1⟩ (fun o ho => by
              have := ho.1
              have := ov o ho
              rw [rI_nk (by omega)]; exact hL o (y_in_s ho hx18)) k (by omega)
            exact ⟨M1, r1, r2, fr1.trans r3⟩
          by_cases h18 : Y v 0 = 18
          · have vin : y_in Y x v := ⟨v0, v1, h18, by omega⟩
            have rv := hR v vin
            have l1 := hL v vin
            obtain ⟨M1, r1, r2⟩ := step (iI (R v - 0))
            refine ⟨M1, ?_, r2⟩
            rw [lX11_behindEnds_2]
            simp (disch := omega) only [iI_add, iI_sub, iI_mul, iI_neg, iI_nat, addm1, ixkI, ↓sbind, sbind, ↓bdS, bdS, ↓nm_eq, ↓jn_eq, iI_lt, iI_le, iI_eq, k_0, k_1, k_2, k_3, k_4, k_5, k_6, k_7, k_8, k_9, k_10, k_11, k_12, k_13, k_14, k_15, k_16, k_17, k_18, k_19, k_20, k_21, k_22, k_23, k_24, k_27, k_30, k_32, k_48, k_57, k_59, k_60, k_61, k_62, k_63, k_64, k_72, k_78, k_80, k_82, k_97, k_99, k_100, k_122, k_244, k_255, k_268, k_280, k_300, k_432, k_650, k_900, k_901, k_999, k_1700, k_2600, k_2601, k_2602, k_2603, k_2604, k_2610, k_2618, k_2682, k_2777, k_2844, k_2868, k_2880, k_3245, k_3250, k_9551, k_9999, k_65536, k_100000, k_999999, k_1000000, k_2147483647, lt_T, lt_F, le_T, le_F, eq_T, eq_F, ↓reduceIte, not_true_eq_false, not_false_eq_true, or_true, or_false, true_or, false_or, and_true, true_and, and_false, false_and, e0, e1, e2, e3, l1, r1]
          · obtain ⟨M1, r1, r2⟩ := step (M.1 (m + 21) v.toNat - iI 0)
            refine ⟨M1, ?_, r2⟩
            rw [lX11_behindEnds_2]
            simp (disch := omega) only [iI_add, iI_sub, iI_mul, iI_neg, iI_nat, addm1, ixkI, ↓sbind, sbind, ↓bdS, bdS, ↓nm_eq, ↓jn_eq, iI_lt, iI_le, iI_eq, k_0, k_1, k_2, k_3, k_4, k_5, k_6, k_7, k_8, k_9, k_10, k_11, k_12, k_13, k_14, k_15, k_16, k_17, k_18, k_19, k_20, k_21, k_22, k_23, k_24, k_27, k_30, k_32, k_48, k_57, k_59, k_60, k_61, k_62, k_63, k_64, k_72, k_78, k_80, k_82, k_97, k_99, k_100, k_122, k_244, k_255, k_268, k_280, k_300, k_432, k_650, k_900, k_901, k_999, k_1700, k_2600, k_2601, k_2602, k_2603, k_2604, k_2610, k_2618, k_2682, k_2777, k_2844, k_2868, k_2880, k_3245, k_3250, k_9551, k_9999, k_65536, k_100000, k_999999, k_1000000, k_2147483647, lt_T, lt_F, le_T, le_F, eq_T, eq_F, ↓reduceIte, not_true_eq_false, not_false_eq_true, or_true, or_false, true_or, false_or, and_true, true_and, and_false, false_and, e0, e1, e2, e3, r1]
    · have hx9 : x < N → Y x 0 ≠ 19 := fun h q => hc ⟨h, q⟩
      obtain ⟨a, b⟩ := ends_0 (Y := Y) hN ⟨hx, hx1⟩ R hx9 (fun h => hk x hx h) (d + 1 + 1)
      exact ⟨x, R, 0, ⟨hx, hx1, hx9⟩, by omega, hR, hE, a, b⟩
end EN
