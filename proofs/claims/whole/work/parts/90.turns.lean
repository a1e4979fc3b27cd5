/-! a turn of a year on both sides -/
section TL
variable {m g y t : Nat} {F F1 : Fld} {M : Mem} {Y : Yr} {N : Int}
theorem my_turn_loop (hY : YM m N Y M) (hN : N ≤ 60) {x n : Int} (hx : 0 ≤ x ∧ x < N) (hk : Y x 0 = 18) (h1 : 1 ≤ Y x 1 ∧ Y x 1 ≤ 9999) (h2 : M.1 m 40 = iI n) (hn : 0 ≤ n ∧ n < 300) {φ : Nat} {z : Int} {M9 : Mem} (hb : fX11_behindEnds φ m (iI (x + 1)) (stI (stI M m 40 (iI (n + 1))) (m + 21) x.toNat (iI (Y x 1 - 1))) = some (iI z, M9)) (K : Mem → Option (Unit × Mem)) (k : Nat) : lX11_lives_32 K φ m (k + 1) (iI x) M = lX11_lives_32 K φ m k (iI z) M9 := by
  have e0 : M.1 (m + 1) (Int.toNat 4) = iI N := hY.1
  have z3 : (300 : Int32) = iI 300 := rfl
  have e2 := (hY.st40 (iI (n + 1))).at0 hx
  have e1 := (hY.st40 (iI (n + 1))).at (c := 1) hx (by omega)
  have e5 := m_does_no (φ := φ) (hY.st40 (iI (n + 1))) hN hx (by omega)
  have e6 : (stI (stI M m 40 (iI (n + 1))) (m + 21) x.toNat (iI (Y x 1 - 1))).1 (m + 1) (280 + 6 * x).toNat = iI (Y x 0) := by rw [rI_ng (by omega)]; exact e2
  rw [hk] at e2 e6
  rw [lX11_lives_32]
  simp (disch := omega) only [iI_add, iI_sub, iI_mul, iI_neg, iI_nat, addm1, ixkI, ↓sbind, sbind, ↓bdS, bdS, ↓nm_eq, ↓jn_eq, iI_lt, iI_le, iI_eq, k_0, k_1, k_2, k_3, k_4, k_5, k_6, k_7, k_8, k_9, k_10, k_11, k_12, k_13, k_14, k_15, k_16, k_17, k_18, k_19, k_20, k_21, k_22, k_23, k_24, k_27, k_30, k_32, k_48, k_57, k_59, k_60, k_61, k_62, k_63, k_64, k_72, k_78, k_80, k_82, k_97, k_99, k_100, k_122, k_244, k_255, k_268, k_280, k_300, k_432, k_650, k_900, k_901, k_999, k_1700, k_2600, k_2601, k_2602, k_2603, k_2604, k_2610, k_2618, k_2682, k_2777, k_2844, k_2868, k_2880, k_3245, k_3250, k_9551, k_9999, k_65536, k_100000, k_999999, k_1000000, k_2147483647, lt_T, lt_F, le_T, le_F, eq_T, eq_F, ↓reduceIte, not_true_eq_false, not_false_eq_true, or_true, or_false, true_or, false_or, and_true, true_and, and_false, false_and, z3, e0, h2, e1, e2, e5, e6, hb]
theorem YC.fr {S : Nat → Prop} {M' : Mem} (hF : Fr S M M') (hS : ∀ z, y ≤ z → z ≤ y + 5 → ¬ S z) (h : YC y N Y M) : YC y N Y M' := by
  unfold YC at h ⊢
  rw [(hF y (hS y (by omega) (by omega))).1, (hF (y + 1) (hS (y + 1) (by omega) (by omega))).1, (hF (y + 2) (hS (y + 2) (by omega) (by omega))).1, (hF (y + 3) (hS (y + 3) (by omega) (by omega))).1, (hF (y + 4) (hS (y + 4) (by omega) (by omega))).1, (hF (y + 5) (hS (y + 5) (by omega) (by omega))).1]
  exact h
theorem YM.ce {M' : Mem} (he : ∀ e : Int, e = 4 ∨ 280 ≤ e → M'.1 (m + 1) e.toNat = M.1 (m + 1) e.toNat) (h : YM m N Y M) : YM m N Y M' := ⟨(he 4 (Or.inl rfl)).trans h.1, fun x c a b d e => by rw [he _ (by omega)]; exact h.2 x c a b d e⟩
theorem YM.fr {S : Nat → Prop} {M' : Mem} (hF : Fr S M M') (hS : ¬ S (m + 1)) (h : YM m N Y M) : YM m N Y M' := h.ce fun e _ => by rw [(hF (m + 1) hS).1]
theorem LC.eq {M' : Mem} {ch rf la wo : Int} (he : M'.1 t = M.1 t) (h : LC t ch rf la wo M) : LC t ch rf la wo M' := by
  unfold LC at h ⊢
  rw [he]; exact h
theorem LR.eq {M' : Mem} {ch rf la wo : Int} (h0 : M'.1 m 39 = M.1 m 39) (he : M'.1 (m + 22) = M.1 (m + 22)) (h : LR m ch rf la wo M) : LR m ch rf la wo M' := by
  unfold LR at h ⊢
  rw [he, h0]; exact h
theorem WS.cn {x : Int} (h : ∀ a, F1 0 a 0 = F 0 a 0) (w : WS F Y x) : WS F1 Y x := by
  unfold WS at w ⊢
  rw [h 0, h 1, h 3]; exact w
theorem WS.k {x : Int} (w : WS F Y x) : 13 ≤ Y x 0 ∧ Y x 0 ≤ 1723 ∧ (20 < Y x 0 → 1700 ≤ Y x 0) ∧ Y x 0 ≠ 17 := by
  unfold WS at w
  omega
abbrev dj (t g y : Nat) : Prop := (t + 1 < g ∨ g + 13 < t) ∧ (t + 1 < y ∨ y + 5 < t) ∧ (y + 5 < g ∨ g + 13 < y)
abbrev cL (t g : Nat) : Nat → Prop := fun z => z = t ∨ z = t + 1 ∨ (g + 7 ≤ z ∧ z ≤ g + 9) ∨ z = g + 13
abbrev mL (m : Nat) : Nat → Prop := fun z => z = m ∨ z = m + 1 ∨ z = m + 21 ∨ z = m + 22
def SC (t y g : Nat) (F : Fld) (Y : Yr) (N ch rf la wo n : Int) (R : Int → Int) (x : Int) (M : Mem) : Prop := GR g F M ∧ YC y N Y M ∧ LC t ch rf la wo M ∧ LL t Y R x M ∧ M.1 t 6 = iI 0 ∧ M.1 t 2 = iI n
def SM (m : Nat) (F : Fld) (Y : Yr) (N ch rf la wo n : Int) (R : Int → Int) (x : Int) (M : Mem) : Prop := MR m 0 F M ∧ YM m N Y M ∧ LR m ch rf la wo M ∧ LLm m Y R x M ∧ M.1 m 40 = iI n
def mB (m : Nat) (M M1 : Mem) : Prop := (M1.2.1 m = M.2.1 m ∧ ∀ i, i ≠ 39 → i ≠ 40 → M1.1 m i = M.1 m i) ∧ M1.1 (m + 22) 3 = M.1 (m + 22) 3 ∧ (∀ e : Int, e = 4 ∨ 280 ≤ e → M1.1 (m + 1) e.toNat = M.1 (m + 1) e.toNat) ∧ Fr (mL m) M M1
theorem mB.refl (m : Nat) (M : Mem) : mB m M M := ⟨⟨rfl, fun _ _ _ => rfl⟩, rfl, fun _ _ => rfl, Fr.refl M⟩
theorem mB.trans {M1 M2 : Mem} (a : mB m M M1) (b : mB m M1 M2) : mB m M M2 := ⟨⟨b.1.1.trans a.1.1, fun i h1 h2 => (b.1.2 i h1 h2).trans (a.1.2 i h1 h2)⟩, b.2.1.trans a.2.1, fun e he => (b.2.2.1 e he).trans (a.2.2.1 e he), a.2.2.2.trans b.2.2.2⟩
theorem mB.st40 (m : Nat) (M : Mem) (v : Int32) : mB m M (stI M m 40 v) := ⟨⟨rfl, fun i _ h => rI_nk h⟩, rI_ng (by omega), fun e _ => rI_ng (by omega), Fr.stI (Or.inl rfl) (Fr.refl M)⟩
theorem mB.r21 {M1 : Mem} (h : Fr (Rg (m + 21) (m + 21)) M M1) : mB m M M1 := ⟨⟨(h m (fun q => by have := q.1; omega)).2.1, fun i _ _ => by rw [(h m (fun q => by have := q.1; omega)).1]⟩, by rw [(h (m + 22) (fun q => by have := q.2; omega)).1], fun e _ => by rw [(h (m + 1) (fun q => by have := q.1; omega)).1], h.mono (fun z q => Or.inr (Or.inr (Or.inl (by have := q.1; have := q.2; omega))))⟩
theorem TC_of {φ : Nat} {x n u z x1 ch rf la wo ch1 rf1 la1 wo1 : Int} {R R' R1 : Int → Int} (hN : N ≤ 60) (hx : 0 ≤ x ∧ x < N) (hk : 0 ≤ Y x 0 ∧ Y x 0 ≤ 9999 ∧ Y x 0 ≠ 19 ∧ Y x 0 ≠ 22) (hn : 0 ≤ n ∧ n < 300) {j : Nat} (hj : j ≤ 61) (hE : EndC Y N z R' x1 R1 j) (d : dj t g y) (S : SC t y g F Y N ch rf la wo n R x M) (u0 : 0 ≤ u) (u1 : u + 100 ≤ 900000) {M8 : Mem} (hs : fX3_behindStep φ t y (iI x) g (stI M t 2 (iI (n + 1))) = some (iI z, M8)) (G8 : GR g F1 M8) (L8 : LC t ch1 rf1 la1 wo1 M8) (l8 : LL t Y R' z M8) (t2 : M8.1 t 2 = iI (n + 1)) (t6 : M8.1 t 6 = iI 0) (ti : ∀ i, i < 2 → M8.1 t i = M.1 t i) (f8 : Fr (cL t g) M M8) (k : Nat) : ∃ M1, lX3_run_41 φ t y g (k + (j + 1)) (iI x) (iI u) M = lX3_run_41 φ t y g k (iI x1) (iI (u + ((j + 1 : Nat) : Int))) M1 ∧ SC t y g F1 Y N ch1 rf1 la1 wo1 (n + 1) R1 x1 M1 ∧ (∀ i, i < 2 → M1.1 t i = M.1 t i) ∧ Fr (cL t g) M M1 := by
  obtain ⟨G, hY, L, l, h6, h2⟩ := S
  obtain ⟨d1, d2, d3⟩ := d
  have Y8 : YC y N Y M8 := hY.fr f8 (fun z a b q => by rcases q with q | q | q <;> omega)
  obtain ⟨M1, r1, r2, r3⟩ := hE φ t g y M8 (u + 1) d2 Y8 l8 t6 (by omega) (by omega) k
  have c1 := cy_turn hY hN hx hk h6 h2 hn (u := u) (by omega) hs (k + j)
  have tt : M1.1 t = M8.1 t := (r3 t (fun q => by have := q.1; omega)).1
  refine ⟨M1, ?_, ⟨G8.fr r3 (fun z a b q => by have := q.1; have := q.2; omega), Y8.fr r3 (fun z a b q => by have := q.1; have := q.2; omega), L8.eq tt, r2, by rw [tt]; exact t6, by rw [tt]; exact t2⟩, fun i hi => by rw [tt]; exact ti i hi, f8.trans (r3.mono (fun z q => Or.inr (Or.inl (by have := q.1; have := q.2; omega))))⟩
  rw [show k + (j + 1) = k + j + 1 from by omega, c1, r1, show u + ((j + 1 : Nat) : Int) = u + 1 + (j : Int) from by omega]
theorem TM_of {φ : Nat} {n z x1 ch1 rf1 la1 wo1 : Int} {R' R1 : Int → Int} {d : Nat} (hE : EndM Y N z R' x1 R1 d) (hφ : d < φ) {M8 : Mem} (hY : YM m N Y M8) (G8 : MR m 0 F1 M8) (L8 : LR m ch1 rf1 la1 wo1 M8) (l8 : LLm m Y R' z M8) (t2 : M8.1 m 40 = iI (n + 1)) (b8 : mB m M M8) : ∃ M9, fX11_behindEnds φ m (iI z) M8 = some (iI x1, M9) ∧ SM m F1 Y N ch1 rf1 la1 wo1 (n + 1) R1 x1 M9 ∧ mB m M M9 := by
  obtain ⟨M9, r1, r2, r3⟩ := hE m M8 hY l8 φ hφ
  have tt : M9.1 m = M8.1 m := (r3 m (fun q => by have := q.1; omega)).1
  have t22 : M9.1 (m + 22) = M8.1 (m + 22) := (r3 (m + 22) (fun q => by have := q.2; omega)).1
  exact ⟨M9, r1, ⟨G8.fr r3 (fun q => by have := q.1; omega), hY.fr r3 (fun q => by have := q.1; omega), L8.eq (by rw [tt]) t22, r2, by rw [tt]; exact t2⟩, b8.trans (mB.r21 r3)⟩
end TL
