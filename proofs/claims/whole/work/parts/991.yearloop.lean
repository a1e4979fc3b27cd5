/-! all rows of years' text, on both sides -/
def YLo (φ : Nat) (dd : Nat) (B : Int → Int) (n p : Int) (F : Fld) (nn : NMs) (N c d : Int) (Y : Yr) (U : Int → Int) : Prop := (∃ fk fp : Int, (1 ≤ fk ∧ fk ≤ 99) ∧ (∀ t yt g ys M K, EY t yt g ys → CYs t yt g ys B n p F nn N c d Y U M → ∀ (k : Nat) (x : Int), dd < k → 0 ≤ x → x ≤ p → CFail t yt ys 5 fk fp M (lX9_isTaken_30 K φ yt k (iI x) M)) ∧ ∀ m M K, MYs m B n p F nn N c d Y U M → ∀ k : Nat, dd + 1 < k → ∃ M1, lX11_years_38 K φ m k (iI 1) M = K M1 ∧ M1.1 m 18 = iI fk ∧ M1.1 m 17 = iI fp ∧ mYw m M M1) ∨ ∃ (N' c' d' : Int) (Y' : Yr) (U' : Int → Int) (p' : Int), ((p ≤ p' ∧ p' ≤ n) ∧ (tok B n p').1 = 0) ∧ YDw F Y' N' c' d' U' ∧ (∀ t yt g ys M K, EY t yt g ys → CYs t yt g ys B n p F nn N c d Y U M → ∀ (k : Nat) (x : Int), dd < k → 0 ≤ x → x ≤ p → ∃ M1, lX9_isTaken_30 K φ yt k (iI x) M = K M1 ∧ CYs t yt g ys B n p' F nn N' c' d' Y' U' M1 ∧ RCw t yt ys 5 M M1) ∧ ∀ m M K, MYs m B n p F nn N c d Y U M → ∀ k : Nat, dd + 1 < k → ∃ M1, lX11_years_38 K φ m k (iI 1) M = K M1 ∧ MYs m B n p' F nn N' c' d' Y' U' M1 ∧ mYx m M M1
section YLP
variable {B : Int → Int} {n : Int} {F : Fld} {nn : NMs}
theorem ylo_0 {φ dd : Nat} {p N c d : Int} {Y : Yr} {U : Int → Int} (hB : HB B n) (hp : 0 ≤ p ∧ p ≤ n) (D : YDw F Y N c d U) (h0 : (tok B n p).1 = 0) : YLo φ dd B n p F nn N c d Y U := by
  have w := hB.w hp
  refine Or.inr ⟨N, c, d, Y, U, p, ⟨⟨by omega, hp.2⟩, h0⟩, D, fun t yt g ys M K e S k x hk x0 xp => ?_, fun m M K S k hk => ?_⟩
  · obtain ⟨k, rfl⟩ : ∃ q, k = q + 1 := ⟨k - 1, by omega⟩
    refine ⟨M, ?_, S, RCw.refl t yt ys 5 M⟩
    rw [lX9_isTaken_30]
    by_cases q : (900 : Int32) ≤ iI x
    · rw [if_pos q]
    · have e1 := c_atEnd w S.1.1
      rw [decide_eq_true h0, bI_t] at e1
      rw [if_neg q, S.1.2.2.2.1, ldr_ok e.1.1, sbind, e1, sbind, if_neg i1n]
  · obtain ⟨k, rfl⟩ : ∃ q, k = q + 1 := ⟨k - 1, by omega⟩
    refine ⟨M, ?_, S, mYx.refl m M⟩
    have r1 := S.1.1.2.2.2.1
    rw [h0] at r1
    rw [lX11_years_38, if_neg i1n, r1, if_pos (show iI (rkd 0) = (0 : Int32) from rfl)]
theorem y_parts {φ : Nat} (hφ : 2000 < φ) (hB : HB B n) (dw : DX F nn) : ∀ (dd : Nat) (p N c d : Int) (Y : Yr) (U : Int → Int), n - p ≤ dd → 0 ≤ p → p ≤ n → YDw F Y N c d U → YLo φ dd B n p F nn N c d Y U := by
  intro dd
  induction dd with
  | zero =>
    intro p N c d Y U hd p0 pn D
    have : p = n := by omega
    subst this
    exact ylo_0 hB ⟨p0, pn⟩ D (by rw [tok_n])
  | succ dd ih =>
    intro p N c d Y U hd p0 pn D
    by_cases h0 : (tok B n p).1 = 0
    · exact ylo_0 hB ⟨p0, pn⟩ D h0
    have w := hB.w ⟨p0, pn⟩
    have lt := (nx_b hB ⟨p0, pn⟩).2.2 h0
    have nb := (nx_b hB ⟨p0, pn⟩).1
    have cs : ∀ t yt g ys M K, EY t yt g ys → CYs t yt g ys B n p F nn N c d Y U M → ∀ (k : Nat) (x : Int), 0 ≤ x → x ≤ p → lX9_isTaken_30 K φ yt (k + 1) (iI x) M = bd (fX9_passStep φ yt M) fun v8 M9 => if v8 = 0 then some ((0 : Int32), M9) else lX9_isTaken_30 K φ yt k (iI (x + 1)) M9 := fun t yt g ys M K e S k x x0 xp => by
      have hb := hB.1
      have e1 := c_atEnd w S.1.1
      rw [decide_eq_false h0, bI_f] at e1
      have nx9 : ¬ ((900 : Int32) ≤ iI x) := by
        show ¬ (iI 900 ≤ iI x)
        rw [iI_le (by omega) (by omega)]
        omega
      rw [lX9_isTaken_30, if_neg nx9, S.1.2.2.2.1, ldr_ok e.1.1, sbind, e1, sbind, if_pos i0e, ← iI_add]
      rfl
    have ms : ∀ m M K, MYs m B n p F nn N c d Y U M → ∀ k : Nat, lX11_years_38 K φ m (k + 1) (iI 1) M = bd (fX11_step φ m M) fun v6 M7 => lX11_years_38 K φ m k v6 M7 := fun m M K S k => by
      have r1 := S.1.1.2.2.2.1
      have w1 := w.1
      have rk := rkd_v w1
      have nz : ¬ (iI (rkd (tok B n p).1) = (0 : Int32)) := by
        obtain ⟨z0, z1, z2, z3, z4⟩ := rk
        have : (tok B n p).1 = 1 ∨ (tok B n p).1 = 2 ∨ (tok B n p).1 = 3 ∨ (tok B n p).1 = 4 := by omega
        rcases this with z | z | z | z
        · rw [z1 z]; decide
        · rw [z2 z]; decide
        · rw [z3 z]; decide
        · rw [z4 z]; decide
      rw [lX11_years_38, if_neg i1n, r1, if_neg nz]
    rcases y_step (nn := nn) hφ hB ⟨p0, pn⟩ dw D with ⟨fk, fp, h1, h2, h3⟩ | ⟨N', c', d', Y', U', p', hp', D', h2, h3⟩
    · refine Or.inl ⟨fk, fp, h1, fun t yt g ys M K e S k x hk x0 xp => ?_, fun m M K S k hk => ?_⟩
      · obtain ⟨k, rfl⟩ : ∃ q, k = q + 1 := ⟨k - 1, by omega⟩
        obtain ⟨M1, r, s⟩ := h2 t yt g ys M _ ⟨e, S, rfl⟩
        refine ⟨M1, ?_, s⟩
        rw [cs t yt g ys M K e S k x x0 xp, r, bdP, if_pos i0e]
        rfl
      · obtain ⟨k, rfl⟩ : ∃ q, k = q + 2 := ⟨k - 2, by omega⟩
        obtain ⟨M1, r, s⟩ := h3 m M _ ⟨S, rfl⟩
        refine ⟨M1, ?_, s⟩
        rw [ms m M K S (k + 1), r, bdP, lX11_years_38, if_pos i0e]
    · rcases ih p' N' c' d' Y' U' (by omega) (by omega) hp'.2 D' with ⟨fk, fp, g1, g2, g3⟩ | ⟨N2, c2, d2, Y2, U2, p2, hp2, D2, g2, g3⟩
      · refine Or.inl ⟨fk, fp, g1, fun t yt g ys M K e S k x hk x0 xp => ?_, fun m M K S k hk => ?_⟩
        · obtain ⟨k, rfl⟩ : ∃ q, k = q + 1 := ⟨k - 1, by omega⟩
          obtain ⟨M1, r, s1, s2⟩ := h2 t yt g ys M _ ⟨e, S, rfl⟩
          obtain ⟨M2, q1, q2, q3, q4⟩ := g2 t yt g ys M1 K e s1 k (x + 1) (by omega) (by omega) (by omega)
          refine ⟨M2, ?_, q2, q3, s2.trans q4⟩
          rw [cs t yt g ys M K e S k x x0 xp, r, bdP, if_neg i1n]
          exact q1
        · obtain ⟨k, rfl⟩ : ∃ q, k = q + 1 := ⟨k - 1, by omega⟩
          obtain ⟨M1, r, s1, s2⟩ := h3 m M _ ⟨S, rfl⟩
          obtain ⟨M2, q1, q2, q3, q4⟩ := g3 m M1 K s1 k (by omega)
          refine ⟨M2, ?_, q2, q3, s2.yw.trans q4⟩
          rw [ms m M K S k, r, bdP]
          exact q1
      · refine Or.inr ⟨N2, c2, d2, Y2, U2, p2, ⟨⟨by omega, hp2.1.2⟩, hp2.2⟩, D2, fun t yt g ys M K e S k x hk x0 xp => ?_, fun m M K S k hk => ?_⟩
        · obtain ⟨k, rfl⟩ : ∃ q, k = q + 1 := ⟨k - 1, by omega⟩
          obtain ⟨M1, r, s1, s2⟩ := h2 t yt g ys M _ ⟨e, S, rfl⟩
          obtain ⟨M2, q1, q2, q3⟩ := g2 t yt g ys M1 K e s1 k (x + 1) (by omega) (by omega) (by omega)
          refine ⟨M2, ?_, q2, s2.trans q3⟩
          rw [cs t yt g ys M K e S k x x0 xp, r, bdP, if_neg i1n]
          exact q1
        · obtain ⟨k, rfl⟩ : ∃ q, k = q + 1 := ⟨k - 1, by omega⟩
          obtain ⟨M1, r, s1, s2⟩ := h3 m M _ ⟨S, rfl⟩
          obtain ⟨M2, q1, q2, q3⟩ := g3 m M1 K s1 k (by omega)
          refine ⟨M2, ?_, q2, s2.trans q3⟩
          rw [ms m M K S k, r, bdP]
          exact q1
end YLP
