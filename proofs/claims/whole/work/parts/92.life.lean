/-! all turns of the years -/
section LI
variable {F : Fld} {M : Mem} {Y : Yr} {N : Int}
def mA (m : Nat) (M M1 : Mem) : Prop := (M1.2.1 m = M.2.1 m ∧ ∀ i, i ≠ 39 → i ≠ 40 → M1.1 m i = M.1 m i) ∧ (∀ e : Int, e = 4 ∨ 280 ≤ e → M1.1 (m + 1) e.toNat = M.1 (m + 1) e.toNat) ∧ Fr (mL m) M M1
theorem mB.mA {m : Nat} {M M1 : Mem} (h : mB m M M1) : mA m M M1 := ⟨h.1, h.2.2.1, h.2.2.2⟩
theorem mA.trans {m : Nat} {M M1 M2 : Mem} (a : mA m M M1) (b : mA m M1 M2) : mA m M M2 := ⟨⟨b.1.1.trans a.1.1, fun i h1 h2 => (b.1.2 i h1 h2).trans (a.1.2 i h1 h2)⟩, fun e he => (b.2.1 e he).trans (a.2.1 e he), a.2.2.trans b.2.2⟩
def LEC (φ : Nat) (F : Fld) (Y : Yr) (N x n ch rf la wo : Int) (R : Int → Int) (F1 : Fld) (ch1 rf1 la1 wo1 n1 : Int) (cut : Bool) (d : Nat) : Prop := ∀ (t g y : Nat) (M : Mem) (u : Int), dj t g y → SC t y g F Y N ch rf la wo n R x M → 0 ≤ u → u + (64 * (d + 4) : Int) + 100 ≤ 900000 → ∀ k, 64 * (d + 4) ≤ k → ∃ M1, lX3_run_41 φ t y g k (iI x) (iI u) M = some ((), M1) ∧ GR g F1 M1 ∧ LC t ch1 rf1 la1 wo1 M1 ∧ M1.1 t 2 = iI n1 ∧ M1.1 t 6 = bI cut ∧ (∀ i, i < 2 → M1.1 t i = M.1 t i) ∧ Fr (cL t g) M M1
def LEM (φ : Nat) (F : Fld) (Y : Yr) (N x n ch rf la wo : Int) (R : Int → Int) (F1 : Fld) (ch1 rf1 la1 wo1 n1 : Int) (cut : Bool) (d : Nat) : Prop := ∀ (m : Nat) (M : Mem) (K : Mem → Option (Unit × Mem)), SM m F Y N ch rf la wo n R x M → (∀ M', K M' = some ((), stI M' (m + 22) (Int.toNat 3) (iI 1))) → M.1 (m + 22) 3 = iI 0 → ∀ k, d + 4 ≤ k → ∃ M1, lX11_lives_32 K φ m k (iI x) M = some ((), M1) ∧ MR m 0 F1 M1 ∧ LR m ch1 rf1 la1 wo1 M1 ∧ M1.1 m 40 = iI n1 ∧ M1.1 (m + 22) 3 = bI cut ∧ mA m M M1
theorem life_e (hN : 0 ≤ N ∧ N ≤ 60) {φ : Nat} {x n ch rf la wo : Int} {R : Int → Int} (hx : N ≤ x ∧ x ≤ 100) (d : Nat) : LEC φ F Y N x n ch rf la wo R F ch rf la wo n false d ∧ LEM φ F Y N x n ch rf la wo R F ch rf la wo n false d := by
  refine ⟨fun t g y M u dd S u0 u1 k hk => ?_, fun m M K S hK h3 k hk => ?_⟩
  · obtain ⟨G, hY, L, l, h6, h2⟩ := S
    obtain ⟨k, rfl⟩ : ∃ q, k = q + 1 := ⟨k - 1, by omega⟩
    exact ⟨M, cy_turn_end hY hN.2 (by omega) hN.1 (by omega) k, G, L, h2, h6, fun _ _ => rfl, Fr.refl M⟩
  · obtain ⟨G, hY, L, l, h2⟩ := S
    obtain ⟨k, rfl⟩ : ∃ q, k = q + 1 := ⟨k - 1, by omega⟩
    exact ⟨M, my_turn_end hY hN (by omega) K k, G, L, h2, h3, (mB.refl m M).mA⟩
theorem life_l (yn : YN N Y) (hN : 0 ≤ N ∧ N ≤ 60) {φ : Nat} (hφ : 30000 < φ) : ∀ (d : Nat) (F : Fld) (x n ch rf la wo : Int) (R : Int → Int), 300 - n = d → 0 ≤ n → WF F → (∀ x, 0 ≤ x → x < N → WS F Y x) → (0 ≤ ch ∧ ch < 65536) → RG Y N R x → ∃ F1 ch1 rf1 la1 wo1 n1 cut, WF F1 ∧ (∀ a, F1 0 a 0 = F 0 a 0) ∧ LEC φ F Y N x n ch rf la wo R F1 ch1 rf1 la1 wo1 n1 cut d ∧ LEM φ F Y N x n ch rf la wo R F1 ch1 rf1 la1 wo1 n1 cut d := by
  intro d
  induction d with
  | zero =>
    intro F x n ch rf la wo R hd h0 w hW hc rg
    by_cases hx : N ≤ x
    · obtain ⟨a, b⟩ := life_e (F := F) (Y := Y) (n := n) (ch := ch) (rf := rf) (la := la) (wo := wo) (R := R) hN (φ := φ) ⟨hx, rg.1.2.1⟩ 0
      exact ⟨F, ch, rf, la, wo, n, false, w, fun _ => rfl, a, b⟩
    · have kx := (hW x rg.1.1 (by omega)).k
      have k9 := rg.1.2.2 (by omega)
      have hxx : 0 ≤ x ∧ x < N := ⟨rg.1.1, by omega⟩
      refine ⟨F, ch, rf, la, wo, n, true, w, fun _ => rfl, fun t g y M u dd S u0 u1 k hk => ?_, fun m M K S hK h3 k hk => ?_⟩
      · obtain ⟨G, hY, L, l, h6, h2⟩ := S
        obtain ⟨d1, d2, d3⟩ := dd
        obtain ⟨k, rfl⟩ : ∃ q, k = q + 2 := ⟨k - 2, by omega⟩
        rw [show n = 300 from by omega] at h2
        have fr0 : Fr (cL t g) M (stI M t 6 (iI 1)) := Fr.stI (Or.inl rfl) (Fr.refl M)
        refine ⟨stI M t 6 (iI 1), cy_turn_full hY hN.2 hxx (by omega) (by omega) h6 h2 (by omega) k, G.fr (S := fun z => z = t) (Fr.stI rfl (Fr.refl M)) (fun z a b q => by omega), ⟨?_, ?_, ?_, ?_⟩, ?_, ?_, fun i hi => rI_nk (by omega), fr0⟩
        · rw [rI_nk (by omega)]; exact L.1
        · rw [rI_nk (by omega)]; exact L.2.1
        · rw [rI_nk (by omega)]; exact L.2.2.1
        · rw [rI_nk (by omega)]; exact L.2.2.2
        · rw [rI_nk (by omega), show n = 300 from by omega]; exact h2
        · rw [bI_t]; exact rI_at rfl rfl
      · obtain ⟨G, hY, L, l, h2⟩ := S
        obtain ⟨k, rfl⟩ : ∃ q, k = q + 1 := ⟨k - 1, by omega⟩
        rw [show n = 300 from by omega] at h2
        refine ⟨stI M (m + 22) (Int.toNat 3) (iI 1), (my_turn_full hY hN hxx h2 K k).trans (hK M), G.fr (S := fun z => z = m + 22) (Fr.stI rfl (Fr.refl M)) (fun q => by omega), ⟨?_, ?_, ?_, ?_⟩, ?_, ?_, ⟨rfl, fun i _ _ => rI_ng (by omega)⟩, fun e _ => rI_ng (by omega), Fr.stI (Or.inr (Or.inr (Or.inr rfl))) (Fr.refl M)⟩
        · rw [rI_ng (by omega)]; exact L.1
        · rw [rI_nk (by decide)]; exact L.2.1
        · rw [rI_nk (by decide)]; exact L.2.2.1
        · rw [rI_nk (by decide)]; exact L.2.2.2
        · rw [rI_ng (by omega), show n = 300 from by omega]; exact h2
        · rw [bI_t]; exact rI_at rfl rfl
  | succ d ih =>
    intro F x n ch rf la wo R hd h0 w hW hc rg
    by_cases hx : N ≤ x
    · obtain ⟨a, b⟩ := life_e (F := F) (Y := Y) (n := n) (ch := ch) (rf := rf) (la := la) (wo := wo) (R := R) hN (φ := φ) ⟨hx, rg.1.2.1⟩ (d + 1)
      exact ⟨F, ch, rf, la, wo, n, false, w, fun _ => rfl, a, b⟩
    have kx := (hW x rg.1.1 (by omega)).k
    have k9 := rg.1.2.2 (by omega)
    have hxx : 0 ≤ x ∧ x < N := ⟨rg.1.1, by omega⟩
    by_cases h20 : Y x 0 = 20
    · refine ⟨F, ch, rf, la, wo, n + 1, false, w, fun _ => rfl, fun t g y M u dd S u0 u1 k hk => ?_, fun m M K S hK h3 k hk => ?_⟩
      · obtain ⟨G, hY, L, l, h6, h2⟩ := S
        obtain ⟨d1, d2, d3⟩ := dd
        obtain ⟨k, rfl⟩ : ∃ q, k = q + 2 := ⟨k - 2, by omega⟩
        have fr0 : Fr (fun z => z = t) M (stI M t 2 (iI (n + 1))) := Fr.stI rfl (Fr.refl M)
        have Y0 : YC y N Y (stI M t 2 (iI (n + 1))) := hY.fr fr0 (fun z a b q => by omega)
        have c1 := cy_turn hY hN.2 hxx (by omega) h6 h2 (by omega) (u := u) (by omega) (c_stop (g := g) (t := t) (φ := φ) Y0 hN.2 hxx h20) (k + 1)
        have c2 := cy_turn_end (g := g) (t := t) (φ := φ) Y0 hN.2 (x := N) (u := u + 1) (by omega) hN.1 (by omega) k
        refine ⟨stI M t 2 (iI (n + 1)), c1.trans c2, G.fr fr0 (fun z a b q => by omega), ⟨?_, ?_, ?_, ?_⟩, rI_at rfl rfl, ?_, fun i hi => rI_nk (by omega), fr0.mono (fun z q => Or.inl q)⟩
        · rw [rI_nk (by omega)]; exact L.1
        · rw [rI_nk (by omega)]; exact L.2.1
        · rw [rI_nk (by omega)]; exact L.2.2.1
        · rw [rI_nk (by omega)]; exact L.2.2.2
        · rw [rI_nk (by omega)]; exact h6
      · obtain ⟨G, hY, L, l, h2⟩ := S
        obtain ⟨k, rfl⟩ : ∃ q, k = q + 1 := ⟨k - 1, by omega⟩
        have fr0 : Fr (fun z => z = m) M (stI M m 40 (iI (n + 1))) := Fr.stI rfl (Fr.refl M)
        refine ⟨stI M m 40 (iI (n + 1)), my_turn_stop hY hN.2 hxx h20 h2 (by omega) K k, G.fr fr0 (fun q => by omega), L.eq (rI_nk (by omega)) (by funext b; exact rI_ng (by omega)), rI_at rfl rfl, by rw [rI_ng (by omega)]; exact h3, (mB.st40 m M _).mA⟩
    · obtain ⟨F1, x1, ch1, rf1, la1, wo1, R1, j, w1, f1, hc1, rg1, hj, tc, tm⟩ := turn_l (rf := rf) (la := la) (wo := wo) (n := n) w yn hN hW hxx h20 (by omega) hc rg hφ
      obtain ⟨F2, ch2, rf2, la2, wo2, n2, cut, w2, f2, ec, em⟩ := ih F1 x1 (n + 1) ch1 rf1 la1 wo1 R1 (by omega) (by omega) w1 (fun z a b => (hW z a b).cn f1) hc1 rg1
      refine ⟨F2, ch2, rf2, la2, wo2, n2, cut, w2, fun a => (f2 a).trans (f1 a), fun t g y M u dd S u0 u1 k hk => ?_, fun m M K S hK h3 k hk => ?_⟩
      · obtain ⟨M1, a1, a2, a3, a4⟩ := tc t g y M u dd S u0 (by omega) (k - j)
        rw [show k - j + j = k from by omega] at a1
        obtain ⟨M2, b1, b2, b3, b4, b5, b6, b7⟩ := ec t g y M1 (u + j) dd a2 (by omega) (by omega) (k - j) (by omega)
        exact ⟨M2, a1.trans b1, b2, b3, b4, b5, fun i hi => (b6 i hi).trans (a3 i hi), a4.trans b7⟩
      · obtain ⟨k, rfl⟩ : ∃ q, k = q + 1 := ⟨k - 1, by omega⟩
        obtain ⟨M1, a1, a2, a3⟩ := tm m M K S k
        obtain ⟨M2, b1, b2, b3, b4, b5, b6⟩ := em m M1 K a2 hK (by rw [a3.2.1]; exact h3) k (by omega)
        exact ⟨M2, a1.trans b1, b2, b3, b4, b5, a3.mA.trans b6⟩
theorem m_l12s {m : Nat} {K : Mem → Option (Unit × Mem)} {x : Int} (hx : 0 ≤ x ∧ x < 4) (M : Mem) (k : Nat) : lX11_lives_12 K m (k + 1) (iI x) M = lX11_lives_12 K m k (iI (x + 1)) (stI M (m + 22) x.toNat (iI 0)) := by
  rw [lX11_lives_12]
  simp (disch := omega) only [iI_add, iI_sub, iI_mul, iI_neg, iI_nat, addm1, ixkI, ↓sbind, sbind, ↓bdS, bdS, ↓nm_eq, ↓jn_eq, iI_lt, iI_le, iI_eq, k_0, k_1, k_2, k_3, k_4, k_5, k_6, k_7, k_8, k_9, k_10, k_11, k_12, k_13, k_14, k_15, k_16, k_17, k_18, k_19, k_20, k_21, k_22, k_23, k_24, k_27, k_30, k_32, k_48, k_57, k_59, k_60, k_61, k_62, k_63, k_64, k_72, k_78, k_80, k_82, k_97, k_99, k_100, k_122, k_244, k_255, k_268, k_280, k_300, k_432, k_650, k_900, k_901, k_999, k_1700, k_2600, k_2601, k_2602, k_2603, k_2604, k_2610, k_2618, k_2682, k_2777, k_2844, k_2868, k_2880, k_3245, k_3250, k_9551, k_9999, k_65536, k_100000, k_999999, k_1000000, k_2147483647, lt_T, lt_F, le_T, le_F, eq_T, eq_F, ↓reduceIte, not_true_eq_false, not_false_eq_true, or_true, or_false, true_or, false_or, and_true, true_and, and_false, false_and]
theorem m_l12e {m : Nat} {K : Mem → Option (Unit × Mem)} (M : Mem) (k : Nat) : lX11_lives_12 K m (k + 1) (iI 4) M = K M := by
  rw [lX11_lives_12]
  simp (disch := omega) only [iI_add, iI_sub, iI_mul, iI_neg, iI_nat, addm1, ixkI, ↓sbind, sbind, ↓bdS, bdS, ↓nm_eq, ↓jn_eq, iI_lt, iI_le, iI_eq, k_0, k_1, k_2, k_3, k_4, k_5, k_6, k_7, k_8, k_9, k_10, k_11, k_12, k_13, k_14, k_15, k_16, k_17, k_18, k_19, k_20, k_21, k_22, k_23, k_24, k_27, k_30, k_32, k_48, k_57, k_59, k_60, k_61, k_62, k_63, k_64, k_72, k_78, k_80, k_82, k_97, k_99, k_100, k_122, k_244, k_255, k_268, k_280, k_300, k_432, k_650, k_900, k_901, k_999, k_1700, k_2600, k_2601, k_2602, k_2603, k_2604, k_2610, k_2618, k_2682, k_2777, k_2844, k_2868, k_2880, k_3245, k_3250, k_9551, k_9999, k_65536, k_100000, k_999999, k_1000000, k_2147483647, lt_T, lt_F, le_T, le_F, eq_T, eq_F, ↓reduceIte, not_true_eq_false, not_false_eq_true, or_true, or_false, true_or, false_or, and_true, true_and, and_false, false_and]
theorem m_l12 {m : Nat} {K : Mem → Option (Unit × Mem)} (M : Mem) (k : Nat) : lX11_lives_12 K m (k + 5) (iI 0) M = K (stI (stI (stI (stI M (m + 22) (Int.toNat 0) (iI 0)) (m + 22) (Int.toNat 1) (iI 0)) (m + 22) (Int.toNat 2) (iI 0)) (m + 22) (Int.toNat 3) (iI 0)) := by
  have a := m_l12s (m := m) (K := K) (x := 0) (by omega) M (k + 4)
  have b := m_l12s (m := m) (K := K) (x := 1) (by omega) (stI M (m + 22) (Int.toNat 0) (iI 0)) (k + 3)
  have c := m_l12s (m := m) (K := K) (x := 2) (by omega) (stI (stI M (m + 22) (Int.toNat 0) (iI 0)) (m + 22) (Int.toNat 1) (iI 0)) (k + 2)
  have d := m_l12s (m := m) (K := K) (x := 3) (by omega) (stI (stI (stI M (m + 22) (Int.toNat 0) (iI 0)) (m + 22) (Int.toNat 1) (iI 0)) (m + 22) (Int.toNat 2) (iI 0)) (k + 1)
  exact a.trans (b.trans (c.trans (d.trans (m_l12e _ k))))
/-- what a run of the years leaves, on both sides -/
theorem live_b (w : WF F) (yn : YN N Y) (hN : 0 ≤ N ∧ N ≤ 60) (hW : ∀ x, 0 ≤ x → x < N → WS F Y x) {sd : Int} (hs : 0 ≤ sd ∧ sd ≤ 9999) {φ : Nat} (hφ : 30000 < φ) : ∃ F1 rf1 la1 wo1 n1 cut, WF F1 ∧ (∀ a, F1 0 a 0 = F 0 a 0) ∧ (∀ (t g y : Nat) (M : Mem), dj t g y → GR g F M → YC y N Y M → ∃ M1, fX3_run φ t y g (iI sd) M = some ((), M1) ∧ GR g F1 M1 ∧ M1.1 t 1 = iI 1 ∧ M1.1 t 2 = iI n1 ∧ M1.1 t 3 = iI rf1 ∧ M1.1 t 4 = iI la1 ∧ M1.1 t 5 = iI wo1 ∧ M1.1 t 6 = bI cut ∧ Fr (cL t g) M M1) ∧ ∀ (m : Nat) (M : Mem), MR m 0 F M → YM m N Y M → ∃ M1, fX11_lives φ m (iI sd) M = some ((), M1) ∧ MR m 0 F1 M1 ∧ M1.1 m 40 = iI n1 ∧ M1.1 (m + 22) 0 = iI rf1 ∧ M1.1 (m + 22) 1 = iI la1 ∧ M1.1 (m + 22) 2 = iI wo1 ∧ M1.1 (m + 22) 3 = bI cut ∧ mA m M M1 := by
  have rg : RG Y N (fun _ => 0) 0 := ⟨⟨by omega, by omega, fun h q => by have := yn.2.1 0 (by omega) h q; omega⟩, fun o ho => by have := ho.1; have := ho.2.1; omega, fun o ho => by have := ho.1; have := ho.2.1; omega⟩
  obtain ⟨F1, ch1, rf1, la1, wo1, n1, cut, w1, f1, ec, em⟩ := life_l yn hN hφ 300 F 0 0 sd 0 0 0 (fun _ => 0) (by omega) (by omega) w hW (by omega) rg
  refine ⟨F1, rf1, la1, wo1, n1, cut, w1, f1, fun t g y M d G hY => ?_, fun m M G hY => ?_⟩
  · have fr0 : Fr (fun z => z = t) M (stI (stI (stI (stI (stI (stI (stI M t 1 (iI 1)) t 2 (iI 0)) t 3 (iI 0)) t 4 (iI 0)) t 5 (iI 0)) t 6 (iI 0)) t 7 (iI sd)) := Fr.stI rfl (Fr.stI rfl (Fr.stI rfl (Fr.stI rfl (Fr.stI rfl (Fr.stI rfl (Fr.stI rfl (Fr.refl M)))))))
    obtain ⟨d1, d2, d3⟩ := d
    obtain ⟨M1, a1, a2, a3, a4, a5, a6, a7⟩ := ec t g y (stI (stI (stI (stI (stI (stI (stI M t 1 (iI 1)) t 2 (iI 0)) t 3 (iI 0)) t 4 (iI 0)) t 5 (iI 0)) t 6 (iI 0)) t 7 (iI sd)) 0 ⟨d1, d2, d3⟩ ⟨G.fr fr0 (fun z a b q => by omega), hY.fr fr0 (fun z a b q => by omega), ⟨rI_at rfl rfl, by rw [rI_nk (by omega), rI_nk (by omega), rI_nk (by omega), rI_nk (by omega)]; exact rI_at rfl rfl, by rw [rI_nk (by omega), rI_nk (by omega), rI_nk (by omega)]; exact rI_at rfl rfl, by rw [rI_nk (by omega), rI_nk (by omega)]; exact rI_at rfl rfl⟩, fun o ho => by have := ho.1; have := ho.2.1; omega, by rw [rI_nk (by omega)]; exact rI_at rfl rfl, by rw [rI_nk (by omega), rI_nk (by omega), rI_nk (by omega), rI_nk (by omega), rI_nk (by omega)]; exact rI_at rfl rfl⟩ (by omega) (by omega) φ (by omega)
    refine ⟨M1, ?_, a2, ?_, a4, a3.2.1, a3.2.2.1, a3.2.2.2, a5, (fr0.mono (fun z q => Or.inl q)).trans a7⟩
    · unfold fX3_run
      simp (disch := omega) only [iI_add, iI_sub, iI_mul, iI_neg, iI_nat, addm1, ixkI, ↓sbind, sbind, ↓bdS, bdS, ↓nm_eq, ↓jn_eq, iI_lt, iI_le, iI_eq, k_0, k_1, k_2, k_3, k_4, k_5, k_6, k_7, k_8, k_9, k_10, k_11, k_12, k_13, k_14, k_15, k_16, k_17, k_18, k_19, k_20, k_21, k_22, k_23, k_24, k_27, k_30, k_32, k_48, k_57, k_59, k_60, k_61, k_62, k_63, k_64, k_72, k_78, k_80, k_82, k_97, k_99, k_100, k_122, k_244, k_255, k_268, k_280, k_300, k_432, k_650, k_900, k_901, k_999, k_1700, k_2600, k_2601, k_2602, k_2603, k_2604, k_2610, k_2618, k_2682, k_2777, k_2844, k_2868, k_2880, k_3245, k_3250, k_9551, k_9999, k_65536, k_100000, k_999999, k_1000000, k_2147483647, lt_T, lt_F, le_T, le_F, eq_T, eq_F, ↓reduceIte, not_true_eq_false, not_false_eq_true, or_true, or_false, true_or, false_or, and_true, true_and, and_false, false_and, a1]
    · rw [a6 1 (by omega), rI_nk (by omega), rI_nk (by omega), rI_nk (by omega), rI_nk (by omega), rI_nk (by omega), rI_nk (by omega)]; exact rI_at rfl rfl
  · obtain ⟨M2, hM2⟩ : ∃ M2, M2 = stI (stI (stI (stI (stI (stI M m 39 (iI sd)) m 40 (iI 0)) (m + 22) (Int.toNat 0) (iI 0)) (m + 22) (Int.toNat 1) (iI 0)) (m + 22) (Int.toNat 2) (iI 0)) (m + 22) (Int.toNat 3) (iI 0) := ⟨_, rfl⟩
    have fr0 : Fr (fun z => z = m ∨ z = m + 22) M M2 := by
      rw [hM2]
      exact Fr.stI (Or.inr rfl) (Fr.stI (Or.inr rfl) (Fr.stI (Or.inr rfl) (Fr.stI (Or.inr rfl) (Fr.stI (Or.inl rfl) (Fr.stI (Or.inl rfl) (Fr.refl M))))))
    have q39 : M2.1 m 39 = iI sd := by rw [hM2, rI_ng (by omega), rI_ng (by omega), rI_ng (by omega), rI_ng (by omega), rI_nk (by omega)]; exact rI_at rfl rfl
    have q40 : M2.1 m 40 = iI 0 := by rw [hM2, rI_ng (by omega), rI_ng (by omega), rI_ng (by omega), rI_ng (by omega)]; exact rI_at rfl rfl
    have r0 : M2.1 (m + 22) (Int.toNat 0) = iI 0 := by rw [hM2, rI_nk (by decide), rI_nk (by decide), rI_nk (by decide)]; exact rI_at rfl rfl
    have r1 : M2.1 (m + 22) (Int.toNat 1) = iI 0 := by rw [hM2, rI_nk (by decide), rI_nk (by decide)]; exact rI_at rfl rfl
    have r2 : M2.1 (m + 22) (Int.toNat 2) = iI 0 := by rw [hM2, rI_nk (by decide)]; exact rI_at rfl rfl
    have r3 : M2.1 (m + 22) 3 = iI 0 := by rw [hM2]; exact rI_at rfl rfl
    have A0 : mA m M M2 := ⟨⟨by rw [hM2]; rfl, fun i h1 h2 => by rw [hM2, rI_ng (by omega), rI_ng (by omega), rI_ng (by omega), rI_ng (by omega), rI_nk h2, rI_nk h1]⟩, fun e _ => by rw [(fr0 (m + 1) (fun q => by omega)).1], fr0.mono (fun z q => by rcases q with q | q; exact Or.inl q; exact Or.inr (Or.inr (Or.inr q)))⟩
    obtain ⟨M1, a1, a2, a3, a4, a5, a6⟩ := em m M2 (fun (M18 : Mem) => ixk (3 : Int32) 4 (nm (stI M18 (m + 22) (3 : Int32).toNatClampNeg (1 : Int32)) (fun M19 => some ((), M19)))) ⟨G.fr fr0 (fun q => by omega), hY.fr fr0 (fun q => by omega), ⟨q39, r0, r1, r2⟩, fun o ho => by have := ho.1; have := ho.2.1; omega, q40⟩ (fun M' => by simp (disch := omega) only [iI_add, iI_sub, iI_mul, iI_neg, iI_nat, addm1, ixkI, ↓sbind, sbind, ↓bdS, bdS, ↓nm_eq, ↓jn_eq, iI_lt, iI_le, iI_eq, k_0, k_1, k_2, k_3, k_4, k_5, k_6, k_7, k_8, k_9, k_10, k_11, k_12, k_13, k_14, k_15, k_16, k_17, k_18, k_19, k_20, k_21, k_22, k_23, k_24, k_27, k_30, k_32, k_48, k_57, k_59, k_60, k_61, k_62, k_63, k_64, k_72, k_78, k_80, k_82, k_97, k_99, k_100, k_122, k_244, k_255, k_268, k_280, k_300, k_432, k_650, k_900, k_901, k_999, k_1700, k_2600, k_2601, k_2602, k_2603, k_2604, k_2610, k_2618, k_2682, k_2777, k_2844, k_2868, k_2880, k_3245, k_3250, k_9551, k_9999, k_65536, k_100000, k_999999, k_1000000, k_2147483647]) r3 φ (by omega)
    refine ⟨M1, ?_, a2, a4, a3.2.1, a3.2.2.1, a3.2.2.2, a5, A0.trans a6⟩
    obtain ⟨ψ, hψ⟩ : ∃ ψ, φ = ψ + 5 := ⟨φ - 5, by omega⟩
    have l12 := m_l12 (m := m) (K := fun (M4 : Mem) => lX11_lives_32 (fun (M18 : Mem) => ixk (3 : Int32) 4 (nm (stI M18 (m + 22) (3 : Int32).toNatClampNeg (1 : Int32)) (fun M19 => some ((), M19)))) φ m φ (0 : Int32) M4) (stI (stI M m 39 (iI sd)) m 40 (iI 0)) ψ
    rw [← hψ, ← hM2] at l12
    have a1' : lX11_lives_32 (fun (M18 : Mem) => ixk (3 : Int32) 4 (nm (stI M18 (m + 22) (3 : Int32).toNatClampNeg (1 : Int32)) (fun M19 => some ((), M19)))) φ m φ (0 : Int32) M2 = some ((), M1) := a1
    unfold fX11_lives
    rw [nm_eq, nm_eq]
    exact l12.trans a1'
end LI
