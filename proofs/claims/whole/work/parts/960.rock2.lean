/-! a rock's row of a field: both sides -/
theorem bdP {β γ : Type} (a : β) (M : Mem) (K : β → Mem → Option γ) : bd (some (a, M)) K = K a M := id rfl
theorem i1n : ¬ (iI 1 = (0 : Int32)) := by decide
section RP
variable {t m ft gs g : Nat} {F F' : Fld} {nm nm' : NMs} {M : Mem} {B : Int → Int} {n p s : Int}
theorem RKp.fr {S : Nat → Prop} {M' : Mem} (hF : Fr S M M') (h1 : ¬ S m) (h2 : ¬ S (m + 7)) (h : RKp m B n p M) : RKp m B n p M' := by
  unfold RKp TX RK at h ⊢
  rw [(hF m h1).1, (hF (m + 7) h2).1]
  exact h
theorem RW.at {M1 : Mem} (h : ∀ e : Int, 0 ≤ e → (e < 2600 ∨ e = 2604) → M1.1 (m + 1) e.toNat = M.1 (m + 1) e.toNat) (h2 : M1.2 = M.2) (hF : Fr (Rg (m + 1) (m + 1)) M M1) : RW m M M1 := ⟨fun i _ _ _ _ _ _ _ _ => by rw [(hF m (fun q => by have := q.1; omega)).1], by rw [h2], h, fun e _ _ => by rw [h2], hF.mono (fun z q => Or.inr (Or.inl (by have := q.1; have := q.2; omega)))⟩
theorem m_rock35 (K : Mem → Option (Int32 × Mem)) {R : Int} (hR : 0 ≤ R ∧ R < 8) (M0 : Mem) : ∀ (k : Nat) (i : Int), 0 ≤ i → i ≤ R → R < k + i → ∀ M, (∀ a b, 0 ≤ a → a < 8 → 0 ≤ b → b < 8 → M.1 (m + 1) (2618 + 8 * a + b).toNat = if (a < i ∧ b = R) ∨ (a = R ∧ b < i) then iI 9 else M0.1 (m + 1) (2618 + 8 * a + b).toNat) → ∃ M1, lX11_aRock_35 K m (iI R) k (iI i) M = K M1 ∧ (∀ a b, 0 ≤ a → a < 8 → 0 ≤ b → b < 8 → M1.1 (m + 1) (2618 + 8 * a + b).toNat = if (a < R ∧ b = R) ∨ (a = R ∧ b < R) then iI 9 else M0.1 (m + 1) (2618 + 8 * a + b).toNat) ∧ (∀ e : Int, 0 ≤ e → e < 2618 ∨ 2682 ≤ e → M1.1 (m + 1) e.toNat = M.1 (m + 1) e.toNat) ∧ M1.2 = M.2 ∧ Fr (Rg (m + 1) (m + 1)) M M1 := by
  refine lup (P := fun k i => ∀ M, (∀ a b, 0 ≤ a → a < 8 → 0 ≤ b → b < 8 → M.1 (m + 1) (2618 + 8 * a + b).toNat = if (a < i ∧ b = R) ∨ (a = R ∧ b < i) then iI 9 else M0.1 (m + 1) (2618 + 8 * a + b).toNat) → ∃ M1, lX11_aRock_35 K m (iI R) k (iI i) M = K M1 ∧ (∀ a b, 0 ≤ a → a < 8 → 0 ≤ b → b < 8 → M1.1 (m + 1) (2618 + 8 * a + b).toNat = if (a < R ∧ b = R) ∨ (a = R ∧ b < R) then iI 9 else M0.1 (m + 1) (2618 + 8 * a + b).toNat) ∧ (∀ e : Int, 0 ≤ e → e < 2618 ∨ 2682 ≤ e → M1.1 (m + 1) e.toNat = M.1 (m + 1) e.toNat) ∧ M1.2 = M.2 ∧ Fr (Rg (m + 1) (m + 1)) M M1) (fun k M h => ⟨M, ?_, h, fun _ _ _ => rfl, rfl, Fr.refl M⟩) (fun k i i0 i1 ih M h => ?_)
  · rw [lX11_aRock_35]
    simp (disch := omega) only [iI_add, iI_sub, iI_mul, iI_neg, iI_nat, addm1, ixkI, ↓sbind, sbind, ↓bdS, bdS, ↓nm_eq, ↓jn_eq, iI_lt, iI_le, iI_eq, k_0, k_1, k_2, k_3, k_4, k_5, k_6, k_7, k_8, k_9, k_10, k_11, k_12, k_13, k_14, k_15, k_16, k_17, k_18, k_19, k_20, k_21, k_22, k_23, k_24, k_27, k_30, k_32, k_48, k_57, k_59, k_60, k_61, k_62, k_63, k_64, k_72, k_78, k_80, k_82, k_97, k_99, k_100, k_122, k_244, k_255, k_268, k_280, k_300, k_432, k_650, k_900, k_901, k_999, k_1700, k_2600, k_2601, k_2602, k_2603, k_2604, k_2610, k_2618, k_2682, k_2777, k_2844, k_2868, k_2880, k_3245, k_3250, k_9551, k_9999, k_65536, k_100000, k_999999, k_1000000, k_2147483647, lt_T, lt_F, le_T, le_F, eq_T, eq_F, ↓reduceIte, not_true_eq_false, not_false_eq_true, or_true, or_false, true_or, false_or, and_true, true_and, and_false, false_and]
  · obtain ⟨M1, r1, r2, r3, r4, r5⟩ := ih (stI (stI M (m + 1) (2618 + 8 * R + i).toNat (iI 9)) (m + 1) (2618 + 8 * i + R).toNat (iI 9)) (fun a b a0 a1 b0 b1 => by
      by_cases q1 : a = i ∧ b = R
      · rw [if_pos (by omega), rI_at rfl (by omega)]
      · rw [rI_nk (by omega)]
        by_cases q2 : a = R ∧ b = i
        · rw [if_pos (by omega), rI_at rfl (by omega)]
        · rw [rI_nk (by omega), h a b a0 a1 b0 b1]
          by_cases q3 : (a < i ∧ b = R) ∨ (a = R ∧ b < i)
          · rw [if_pos q3, if_pos (by omega)]
          · rw [if_neg q3, if_neg (by omega)])
    refine ⟨M1, ?_, r2, fun e e0 e1 => by rw [r3 e e0 e1, rI_nk (by omega), rI_nk (by omega)], r4, (Fr.stI ⟨by omega, by omega⟩ (Fr.stI ⟨by omega, by omega⟩ (Fr.refl M))).trans r5⟩
    have z : (2618 : Int32) = iI 2618 := rfl
    rw [lX11_aRock_35]
    simp (disch := omega) only [iI_add, iI_sub, iI_mul, iI_neg, iI_nat, addm1, ixkI, ↓sbind, sbind, ↓bdS, bdS, ↓nm_eq, ↓jn_eq, iI_lt, iI_le, iI_eq, k_0, k_1, k_2, k_3, k_4, k_5, k_6, k_7, k_8, k_9, k_10, k_11, k_12, k_13, k_14, k_15, k_16, k_17, k_18, k_19, k_20, k_21, k_22, k_23, k_24, k_27, k_30, k_32, k_48, k_57, k_59, k_60, k_61, k_62, k_63, k_64, k_72, k_78, k_80, k_82, k_97, k_99, k_100, k_122, k_244, k_255, k_268, k_280, k_300, k_432, k_650, k_900, k_901, k_999, k_1700, k_2600, k_2601, k_2602, k_2603, k_2604, k_2610, k_2618, k_2682, k_2777, k_2844, k_2868, k_2880, k_3245, k_3250, k_9551, k_9999, k_65536, k_100000, k_999999, k_1000000, k_2147483647, lt_T, lt_F, le_T, le_F, eq_T, eq_F, ↓reduceIte, not_true_eq_false, not_false_eq_true, or_true, or_false, true_or, false_or, and_true, true_and, and_false, false_and, z, r1]
theorem MR.rock {M1 : Mem} (w : WF F) (hR : F 0 0 0 < 8) (G : MR m 2600 F M) (h0 : M1.1 (m + 1) (Int.toNat 2600) = iI (F 0 0 0 + 1)) (h1 : M1.1 (m + 1) (2610 + F 0 0 0).toNat = iI s) (h2 : ∀ a b, 0 ≤ a → a < 8 → 0 ≤ b → b < 8 → M1.1 (m + 1) (2618 + 8 * a + b).toNat = if (a < F 0 0 0 ∧ b = F 0 0 0) ∨ (a = F 0 0 0 ∧ b < F 0 0 0) then iI 9 else M.1 (m + 1) (2618 + 8 * a + b).toNat) (h3 : ∀ e : Int, 0 ≤ e → e ≠ 2600 → e ≠ 2610 + F 0 0 0 → e < 2618 ∨ 2682 ≤ e → M1.1 (m + 1) e.toNat = M.1 (m + 1) e.toNat) : MR m 2600 (u_rock F s) M1 := by
  have n0 := w.n0
  obtain ⟨g0, g1, g2, g3, g4, g5, g6⟩ := G
  have k3 := fun (k : Nat) (h : 3 ≤ k) => ur_k F s (k := k) h
  refine ⟨fun w a b => ?_, fun k a b => ?_, fun x y a b c d => ?_, fun h w a b c d => ?_, fun h l a b c d => ⟨?_, ?_⟩, fun t k a b c d => ?_, fun f k a b c d => ?_⟩
  · by_cases q : w = 0
    · rw [q, ur_0]; exact h0
    · rw [ur_w F s q, h3 _ (by omega) (by omega) (by omega) (by omega)]; exact g0 w a b
  · by_cases q : k = F 0 0 0
    · rw [q, ur_1R, show (2600 : Int) + (10 + F 0 0 0) = 2610 + F 0 0 0 from by omega]; exact h1
    · rw [ur_1 F s q, h3 _ (by omega) (by omega) (by omega) (by omega)]; exact g1 k a b
  · have e := g2 x y a b c d
    rw [show (2600 : Int) + (18 + 8 * x + y) = 2618 + 8 * x + y from by omega] at e ⊢
    rw [h2 x y a b c d, ur_2]
    by_cases q : (x < F 0 0 0 ∧ y = F 0 0 0) ∨ (x = F 0 0 0 ∧ y < F 0 0 0)
    · rw [if_pos q, if_pos (by omega)]
    · rw [if_neg q, if_neg (by omega)]; exact e
  · rw [k3 3 (by omega), h3 _ (by omega) (by omega) (by omega) (by omega)]; exact g3 h w a b c d
  · rw [k3 4 (by omega), h3 _ (by omega) (by omega) (by omega) (by omega)]; exact (g4 h l a b c d).1
  · rw [k3 5 (by omega), h3 _ (by omega) (by omega) (by omega) (by omega)]; exact (g4 h l a b c d).2
  · rw [k3 6 (by omega), h3 _ (by omega) (by omega) (by omega) (by omega)]; exact g5 t k a b c d
  · rw [k3 7 (by omega), h3 _ (by omega) (by omega) (by omega) (by omega)]; exact g6 f k a b c d
/-- the reference's row behind the name -/
theorem m_aRock {φ : Nat} (hφ : 2000 < φ) (hB : HB B n) (hp : 0 ≤ p ∧ p ≤ n) (dw : DW F nm) (hR : F 0 0 0 < 8) (S : MSt m B n p F nm M) (hw : nwN F nm (tok B n (nx B n p)) = true) : (wv (tok B n (nx B n (nx B n p))) ≠ 1 → ∃ M1, fX11_aRock φ m M = some (iI 1, M1) ∧ MSt m B n (nx B n (nx B n p)) (u_rock F 5) (u_nm nm 0 (F 0 0 0) (tok B n (nx B n p)).2.2.2.2) M1 ∧ RW m M M1) ∧ (wv (tok B n (nx B n (nx B n p))) = 1 → isNu (tok B n (nx B n (nx B n (nx B n p)))) 0 99 = false → MFail m (fkT (tok B n (nx B n (nx B n (nx B n p)))) (if (tok B n (nx B n (nx B n (nx B n p)))).1 = 2 then 4 else 2)) (tok B n (nx B n (nx B n (nx B n p)))).2.1 M (fX11_aRock φ m M)) ∧ (wv (tok B n (nx B n (nx B n p))) = 1 → isNu (tok B n (nx B n (nx B n (nx B n p)))) 0 99 = true → ∃ M1, fX11_aRock φ m M = some (iI 1, M1) ∧ MSt m B n (nx B n (nx B n (nx B n (nx B n p)))) (u_rock F (tok B n (nx B n (nx B n (nx B n p)))).2.2.1) (u_nm nm 0 (F 0 0 0) (tok B n (nx B n p)).2.2.2.2) M1 ∧ RW m M M1) := by
  have n0 := dw.1.n0
  obtain ⟨p1, hp1⟩ : ∃ p1, p1 = nx B n p := ⟨_, rfl⟩
  have b1 := (nx_b hB hp).1
  rw [← hp1] at hw b1 ⊢
  obtain ⟨p2, hp2⟩ : ∃ p2, p2 = nx B n p1 := ⟨_, rfl⟩
  have b2 := (nx_b hB b1).1
  rw [← hp2] at b2 ⊢
  obtain ⟨p3, hp3⟩ : ∃ p3, p3 = nx B n p2 := ⟨_, rfl⟩
  have b3 := (nx_b hB b2).1
  rw [← hp3] at b3 ⊢
  have n3 := m_new hφ hB hp dw S (w := 0) (most := 8) (b := 0) (by omega) n0
  rw [← hp1] at n3
  obtain ⟨M3, a1, a2, a3⟩ := n3.2.2 (by omega) hw
  rw [← hp2] at a2
  obtain ⟨c, hc⟩ : ∃ c, c = (tok B n p1).2.2.2.2 := ⟨_, rfl⟩
  rw [← hc] at a3 ⊢
  have s0 : M.1 (m + 1) (Int.toNat 2600) = iI (F 0 0 0) := S.cnt (w := 0) (by omega)
  have t1 : M3.1 (m + 1) = M.1 (m + 1) := (a3.2.2 (m + 1) (by omega)).1
  have t2 : ∀ z j, M3.2.1 z j = (stL M (m + 2) (64 + 0 + F 0 0 0).toNat (lI (w8 c))).2.1 z j := fun z j => by rw [a3.2.1]
  obtain ⟨M4, hM4⟩ : ∃ M4, M4 = stI M3 (m + 1) (2610 + F 0 0 0).toNat (iI 5) := ⟨_, rfl⟩
  have loop := fun K => m_rock35 (m := m) K (R := F 0 0 0) ⟨n0.1, hR⟩ M4 φ 0 (by omega) (by omega) (by omega) M4 (fun a b _ _ _ _ => by rw [if_neg (by omega)])
  obtain ⟨K0, hK0⟩ : ∃ K0 : Mem → Option (Int32 × Mem), K0 = fun (M7 : Mem) => bd (fX11_isThere φ m (5 : Int32) M7) fun v8 M9 =>
 jn (fun (M10 : Mem) => ixk (2600 : Int32) 3900 (
 ixk (2600 : Int32) 3900 (some ((1 : Int32), stI M10 (m + 1) (2600 : Int32).toNatClampNeg ((M10.1 (m + 1) (2600 : Int32).toNatClampNeg) + (1 : Int32)))))) (fun J11 => if v8 = 0 then
 J11 M9
 else
 bd (fX11_number φ m ((2610 : Int32) + iI (F 0 0 0)) (0 : Int32) (99 : Int32) M9) fun v13 M14 =>
 if v13 = 0 then
 some ((0 : Int32), M14)
 else
 J11 M14) := ⟨_, rfl⟩
  obtain ⟨M7, l1, l2, l3, l4, l5⟩ := loop K0
  have hh : fX11_aRock φ m M = K0 M7 := by
    rw [← l1, hM4, hK0]
    have z1 : (2600 : Int32) = iI 2600 := rfl
    have z2 : (2610 : Int32) = iI 2610 := rfl
    have a1' : fX11_newOne φ m (0 : Int32) (8 : Int32) (0 : Int32) M = some (iI 1, M3) := a1
    unfold fX11_aRock
    rw [z1, ixkI (by omega), iI_nat (by omega), s0, nm_eq, a1', bdP, if_neg i1n, z2, iI_add, ixkI (by omega), iI_nat (by omega), nm_eq]
    rfl
  have q4 : ∀ e : Int, 0 ≤ e → e ≠ 2610 + F 0 0 0 → M4.1 (m + 1) e.toNat = M.1 (m + 1) e.toNat := fun e e0 e1 => by rw [hM4, rI_nk (by omega), t1]
  have q41 : M4.1 (m + 1) (2610 + F 0 0 0).toNat = iI 5 := by rw [hM4]; exact rI_at rfl rfl
  have fr34 : Fr (Rg (m + 1) (m + 1)) M3 M7 := by
    refine Fr.trans ?_ l5
    rw [hM4]
    exact Fr.stI ⟨by omega, by omega⟩ (Fr.refl M3)
  have rk7 : RKp m B n p2 M7 := a2.fr fr34 (fun q => by have := q.1; omega) (fun q => by have := q.2; omega)
  have m7 : M7.1 m = M3.1 m := (fr34 m (fun q => by have := q.1; omega)).1
  have h18 : M7.1 m 18 = iI 0 := by rw [m7, a3.1 18 (by omega) (by omega) (by omega) (by omega)]; exact S.2.2.2
  have t27 : M7.2 = M3.2 := by rw [l4, hM4]; rfl
  have rw7 : RW m M M7 := ((RW.stN (by omega) M _).trans a3.rw).trans (RW.at (fun e e0 e1 => by rw [l3 e e0 (by omega), q4 e e0 (by omega), t1]) t27 fr34)
  have nbx : ∀ (Mz : Mem) (s : Int), Mz.2 = M7.2 → NB m 64 (u_rock F s) (u_nm nm 0 (F 0 0 0) c) Mz := fun Mz s hz => by
    refine ⟨fun r x y => ?_, fun r x y => ?_, fun r x y => ?_⟩
    · rw [ur_0] at y
      rw [hz, t27, t2]
      by_cases q : r = F 0 0 0
      · rw [rL_at rfl (by omega), q, nm_t]
      · rw [rL_nk (by omega), nm_o nm (Or.inl q)]; exact S.2.2.1.1 r x (by omega)
    · rw [ur_w F s (by omega)] at y
      rw [hz, t27, t2, rL_nk (by omega), nm_o nm (Or.inr (by omega))]; exact S.2.2.1.2.1 r x y
    · rw [ur_w F s (by omega)] at y
      rw [hz, t27, t2, rL_nk (by omega), nm_o nm (Or.inr (by omega))]; exact S.2.2.1.2.2 r x y
  have z5 : (5 : Int32) = iI 5 := rfl
  have th := m_there hφ hB.1 hB.2 rk7 (k := 1) (j := 5) (by omega) (by decide +kernel)
  refine ⟨fun q => ?_, fun q f => ?_, fun q f => ?_⟩
  · have e1 := th.2 q
    have c0 : M7.1 (m + 1) (Int.toNat 2600) = iI (F 0 0 0) := by
      have := (l3 2600 (by omega) (by omega)).trans (q4 2600 (by omega) (by omega))
      exact this.trans s0
    have frx : Fr (Rg (m + 1) (m + 1)) M7 (stI M7 (m + 1) (Int.toNat 2600) (iI (F 0 0 0 + 1))) := Fr.stI ⟨by omega, by omega⟩ (Fr.refl M7)
    refine ⟨stI M7 (m + 1) (Int.toNat 2600) (iI (F 0 0 0 + 1)), ?_, ⟨rk7.fr frx (fun q => by have := q.1; omega) (fun q => by have := q.2; omega), MR.rock dw.1 hR S.2.1 (rI_at rfl rfl) ?_ (fun a b a0 a1 b0 b1 => ?_) (fun e e0 e1 e2 e3 => ?_), nbx _ 5 rfl, by rw [rI_ng (by omega)]; exact h18⟩, rw7.trans (RW.st (e := 2600) (by omega) M7 _)⟩
    · rw [hh, hK0]
      simp (disch := omega) only [iI_add, iI_sub, iI_mul, iI_neg, iI_nat, addm1, ixkI, ↓sbind, sbind, ↓bdS, bdS, ↓nm_eq, ↓jn_eq, iI_lt, iI_le, iI_eq, k_0, k_1, k_2, k_3, k_4, k_5, k_6, k_7, k_8, k_9, k_10, k_11, k_12, k_13, k_14, k_15, k_16, k_17, k_18, k_19, k_20, k_21, k_22, k_23, k_24, k_27, k_30, k_32, k_48, k_57, k_59, k_60, k_61, k_62, k_63, k_64, k_72, k_78, k_80, k_82, k_97, k_99, k_100, k_122, k_244, k_255, k_268, k_280, k_300, k_432, k_650, k_900, k_901, k_999, k_1700, k_2600, k_2601, k_2602, k_2603, k_2604, k_2610, k_2618, k_2682, k_2777, k_2844, k_2868, k_2880, k_3245, k_3250, k_9551, k_9999, k_65536, k_100000, k_999999, k_1000000, k_2147483647, lt_T, lt_F, le_T, le_F, eq_T, eq_F, ↓reduceIte, not_true_eq_false, not_false_eq_true, or_true, or_false, true_or, false_or, and_true, true_and, and_false, false_and, e1, c0]
    · rw [rI_nk (by omega), l3 _ (by omega) (by omega)]; exact q41
    · rw [rI_nk (by omega), l2 a b a0 a1 b0 b1, q4 _ (by omega) (by omega)]
    · rw [rI_nk (by omega), l3 e e0 e3, q4 e e0 e2]
  · obtain ⟨M9, e1, e2, e3⟩ := th.1 q
    rw [← hp3] at e2
    have f18 : M9.1 m 18 = iI 0 := by rw [e3.1 18 (by omega) (by omega) (by omega) (by omega)]; exact h18
    have e4 := (m_num hφ hB.1 hB.2 e2 f18 (to := 2610 + F 0 0 0) (a := 0) (b := 99) (by omega) (by omega) (by omega)).2 f
    refine MFail.le (rw7.trans e3.rw) (MFail.of M9 ?_)
    rw [hh, hK0]
    simp (disch := omega) only [iI_add, iI_sub, iI_mul, iI_neg, iI_nat, addm1, ixkI, ↓sbind, sbind, ↓bdS, bdS, ↓nm_eq, ↓jn_eq, iI_lt, iI_le, iI_eq, k_0, k_1, k_2, k_3, k_4, k_5, k_6, k_7, k_8, k_9, k_10, k_11, k_12, k_13, k_14, k_15, k_16, k_17, k_18, k_19, k_20, k_21, k_22, k_23, k_24, k_27, k_30, k_32, k_48, k_57, k_59, k_60, k_61, k_62, k_63, k_64, k_72, k_78, k_80, k_82, k_97, k_99, k_100, k_122, k_244, k_255, k_268, k_280, k_300, k_432, k_650, k_900, k_901, k_999, k_1700, k_2600, k_2601, k_2602, k_2603, k_2604, k_2610, k_2618, k_2682, k_2777, k_2844, k_2868, k_2880, k_3245, k_3250, k_9551, k_9999, k_65536, k_100000, k_999999, k_1000000, k_2147483647, lt_T, lt_F, le_T, le_F, eq_T, eq_F, ↓reduceIte, not_true_eq_false, not_false_eq_true, or_true, or_false, true_or, false_or, and_true, true_and, and_false, false_and, e1, e4]
  · obtain ⟨M9, e1, e2, e3⟩ := th.1 q
    rw [← hp3] at e2
    have f18 : M9.1 m 18 = iI 0 := by rw [e3.1 18 (by omega) (by omega) (by omega) (by omega)]; exact h18
    obtain ⟨M14, e4, e5, e6⟩ := (m_num hφ hB.1 hB.2 e2 f18 (to := 2610 + F 0 0 0) (a := 0) (b := 99) (by omega) (by omega) (by omega)).1 f
    have u1 : M14.1 (m + 1) = (stI M9 (m + 1) (2610 + F 0 0 0).toNat (iI (tok B n p3).2.2.1)).1 (m + 1) := (e6.2.2 (m + 1) (by omega)).1
    have u2 : M9.1 (m + 1) = M7.1 (m + 1) := (e3.2.2 (m + 1) (by omega)).1
    have u3 : ∀ e : Int, 0 ≤ e → e ≠ 2610 + F 0 0 0 → M14.1 (m + 1) e.toNat = M7.1 (m + 1) e.toNat := fun e e0 e1 => by rw [u1, rI_nk (by omega), u2]
    have c0 : M14.1 (m + 1) (Int.toNat 2600) = iI (F 0 0 0) := (u3 2600 (by omega) (by omega)).trans (((l3 2600 (by omega) (by omega)).trans (q4 2600 (by omega) (by omega))).trans s0)
    have frx : Fr (Rg (m + 1) (m + 1)) M14 (stI M14 (m + 1) (Int.toNat 2600) (iI (F 0 0 0 + 1))) := Fr.stI ⟨by omega, by omega⟩ (Fr.refl M14)
    have g18 : M14.1 m 18 = iI 0 := by rw [e6.1 18 (by omega) (by omega) (by omega) (by omega), rI_ng (by omega)]; exact f18
    refine ⟨stI M14 (m + 1) (Int.toNat 2600) (iI (F 0 0 0 + 1)), ?_, ⟨e5.fr frx (fun q => by have := q.1; omega) (fun q => by have := q.2; omega), MR.rock dw.1 hR S.2.1 (rI_at rfl rfl) ?_ (fun a b a0 a1 b0 b1 => ?_) (fun e e0 e1 e2 e3 => ?_), nbx _ _ ?_, by rw [rI_ng (by omega)]; exact g18⟩, (((rw7.trans e3.rw).trans (RW.st (e := 2610 + F 0 0 0) (by omega) M9 _)).trans e6.rw).trans (RW.st (e := 2600) (by omega) M14 _)⟩
    · rw [hh, hK0]
      simp (disch := omega) only [iI_add, iI_sub, iI_mul, iI_neg, iI_nat, addm1, ixkI, ↓sbind, sbind, ↓bdS, bdS, ↓nm_eq, ↓jn_eq, iI_lt, iI_le, iI_eq, k_0, k_1, k_2, k_3, k_4, k_5, k_6, k_7, k_8, k_9, k_10, k_11, k_12, k_13, k_14, k_15, k_16, k_17, k_18, k_19, k_20, k_21, k_22, k_23, k_24, k_27, k_30, k_32, k_48, k_57, k_59, k_60, k_61, k_62, k_63, k_64, k_72, k_78, k_80, k_82, k_97, k_99, k_100, k_122, k_244, k_255, k_268, k_280, k_300, k_432, k_650, k_900, k_901, k_999, k_1700, k_2600, k_2601, k_2602, k_2603, k_2604, k_2610, k_2618, k_2682, k_2777, k_2844, k_2868, k_2880, k_3245, k_3250, k_9551, k_9999, k_65536, k_100000, k_999999, k_1000000, k_2147483647, lt_T, lt_F, le_T, le_F, eq_T, eq_F, ↓reduceIte, not_true_eq_false, not_false_eq_true, or_true, or_false, true_or, false_or, and_true, true_and, and_false, false_and, e1, e4, c0]
    · rw [rI_nk (by omega), u1]; exact rI_at rfl rfl
    · rw [rI_nk (by omega), u3 _ (by omega) (by omega), l2 a b a0 a1 b0 b1, q4 _ (by omega) (by omega)]
    · rw [rI_nk (by omega), u3 e e0 e2, l3 e e0 e3, q4 e e0 e2]
    · show M14.2 = M7.2
      rw [e6.2.1]
      show M9.2 = M7.2
      exact e3.2.1
end RP
