/-! a field's rows -/
section PA
variable {t m ft gs : Nat} {F F' : Fld} {nm nm' : NMs} {M : Mem} {B : Int → Int} {n p : Int}
theorem Part.to {fc fc' : Nat → Mem → Option (Int32 × Mem)} {fm fm' : Nat → Mem → Option (Int32 × Mem)} (P : Part fc fm B n p F nm) (hc : ∀ t ft gs M, ENV t ft gs → CSt t ft gs B n p F nm M → fc' ft M = bd (fc ft M) fun v M => if v = 0 ∨ v = 1 then some (v, M) else none) (hm : ∀ m M, MSt m B n p F nm M → fm' m M = fm m M) : Part fc' fm' B n p F nm := by
  rcases P with ⟨fk, fp, h1, h2, h3⟩ | ⟨F', nm', p', d, a, b, h2, h3⟩
  · refine Or.inl ⟨fk, fp, h1, fun t ft gs M e S => ?_, fun m M S => ?_⟩
    · obtain ⟨M1, r, s⟩ := h2 t ft gs M e S
      exact ⟨M1, by rw [hc _ _ _ _ e S, r, bdP, if_pos (Or.inl i0e)], s⟩
    · rw [hm m M S]
      exact h3 m M S
  · refine Or.inr ⟨F', nm', p', d, a, b, fun t ft gs M e S => ?_, fun m M S => ?_⟩
    · obtain ⟨M1, r, s⟩ := h2 t ft gs M e S
      exact ⟨M1, by rw [hc _ _ _ _ e S, r, bdP, if_pos (Or.inr (show iI 1 = (1 : Int32) from rfl))], s⟩
    · rw [hm m M S]
      exact h3 m M S
theorem p_part {φ : Nat} (hφ : 2000 < φ) (hB : HB B n) (hp : 0 ≤ p ∧ p ≤ n) (dw : DW F nm) : Part (fX1_passPart φ) (fX11_fieldPart φ) B n p F nm := by
  have w := hB.w hp
  have kb := wv_bd w
  obtain ⟨k, hk⟩ : ∃ k, wv (tok B n p) = k := ⟨_, rfl⟩
  rw [hk] at kb
  by_cases c0 : k = 0
  · rw [c0] at hk
    refine (p_rock hφ hB hp dw hk).to (fun t ft gs M e S => ?_) (fun m M S => ?_)
    · unfold fX1_passPart
      rw [S.2.2.2.1, ldr_ok e.2.2.1, sbind, c_word w S.1, sbind, hk, if_pos i0e]
    · unfold fX11_fieldPart
      rw [m_words hφ hB.1 hB.2 S.1, sbind, hk, show pr 0 = 0 from rfl, jn_eq, if_pos i0e]
      rfl
  by_cases c2 : k = 2
  · rw [c2] at hk
    refine (p_unlike hφ hB hp dw hk).to (fun t ft gs M e S => ?_) (fun m M S => ?_)
    · unfold fX1_passPart
      rw [S.2.2.2.1, ldr_ok e.2.2.1, sbind, c_word w S.1, sbind, hk, if_neg (by decide), if_neg (by decide), if_pos (show iI 2 = (2 : Int32) from rfl)]
    · unfold fX11_fieldPart
      rw [m_words hφ hB.1 hB.2 S.1, sbind, hk, show pr 2 = 1 from rfl, jn_eq, if_neg i1n, if_pos (show iI 1 = (1 : Int32) from rfl)]
      rfl
  by_cases c4 : k = 4
  · rw [c4] at hk
    refine (p_hole hφ hB hp dw hk).to (fun t ft gs M e S => ?_) (fun m M S => ?_)
    · unfold fX1_passPart
      rw [S.2.2.2.1, ldr_ok e.2.2.1, sbind, c_word w S.1, sbind, hk, if_neg (by decide), if_neg (by decide), if_neg (by decide), if_neg (by decide), if_pos (show iI 4 = (4 : Int32) from rfl)]
    · unfold fX11_fieldPart
      rw [m_words hφ hB.1 hB.2 S.1, sbind, hk, show pr 4 = 2 from rfl, jn_eq, if_neg (by decide), if_neg (by decide), if_pos (show iI 2 = (2 : Int32) from rfl)]
      rfl
  by_cases c8 : k = 8
  · rw [c8] at hk
    refine (p_tri hφ hB hp dw hk).to (fun t ft gs M e S => ?_) (fun m M S => ?_)
    · unfold fX1_passPart
      rw [S.2.2.2.1, ldr_ok e.2.2.1, sbind, c_word w S.1, sbind, hk, if_neg (by decide), if_neg (by decide), if_neg (by decide), if_neg (by decide), if_neg (by decide), if_neg (by decide), if_neg (by decide), if_neg (by decide), if_pos (show iI 8 = (8 : Int32) from rfl)]
    · unfold fX11_fieldPart
      rw [m_words hφ hB.1 hB.2 S.1, sbind, hk, show pr 8 = 3 from rfl, jn_eq, if_neg (by decide), if_neg (by decide), if_neg (by decide), if_pos (show iI 3 = (3 : Int32) from rfl)]
      rfl
  by_cases c9 : k = 9
  · rw [c9] at hk
    refine (p_fault hφ hB hp dw hk).to (fun t ft gs M e S => ?_) (fun m M S => ?_)
    · unfold fX1_passPart
      rw [S.2.2.2.1, ldr_ok e.2.2.1, sbind, c_word w S.1, sbind, hk, if_neg (by decide), if_neg (by decide), if_neg (by decide), if_neg (by decide), if_neg (by decide), if_neg (by decide), if_neg (by decide), if_neg (by decide), if_neg (by decide), if_pos (show iI 9 = (9 : Int32) from rfl)]
    · unfold fX11_fieldPart
      rw [m_words hφ hB.1 hB.2 S.1, sbind, hk, show pr 9 = 4 from rfl, jn_eq, if_neg (by decide), if_neg (by decide), if_neg (by decide), if_neg (by decide), if_pos (show iI 4 = (4 : Int32) from rfl)]
      rfl
  have ne : ∀ a : Int, k ≠ a → (0 ≤ a ∧ a < 24) → ¬ (iI k = iI a) := fun a h b => by
    rw [iI_eq (by omega) (by omega)]
    exact h
  have pb := pr_bd kb
  have np : ∀ a b : Int, (-1 ≤ a ∧ a < 24) → k ≠ a → pr a = b → ¬ (iI (pr k) = iI b) := fun a b ha h e => by
    have := pr_bd ha
    rw [← e, iI_eq (by omega) (by omega), pr_inj kb ha]
    exact h
  refine Or.inl ⟨fkT (tok B n p) 2, (tok B n p).2.1, fkT_1 (tok B n p) (by omega), fun t ft gs M e S => CFail.of M ?_, fun m M S => MFail.of M ?_⟩
  · have n0 : ¬ (iI k = (0 : Int32)) := ne 0 c0 (by omega)
    have n2 : ¬ (iI k = (2 : Int32)) := ne 2 c2 (by omega)
    have n4 : ¬ (iI k = (4 : Int32)) := ne 4 c4 (by omega)
    have n8 : ¬ (iI k = (8 : Int32)) := ne 8 c8 (by omega)
    have n9 : ¬ (iI k = (9 : Int32)) := ne 9 c9 (by omega)
    have cr : fX6_refuseToken t (2 : Int32) M = _ := c_refuse w S.1 2
    unfold fX1_passPart
    rw [S.2.2.2.1, ldr_ok e.2.2.1, sbind, c_word w S.1, sbind, hk]
    simp only [if_neg n0, if_neg n2, if_neg n4, if_neg n8, if_neg n9, ite_self, sbind]
    rw [cr, bdP, if_pos (Or.inl i0e)]
  · have n0 : ¬ (iI (pr k) = (0 : Int32)) := np 0 0 (by omega) c0 rfl
    have n2 : ¬ (iI (pr k) = (1 : Int32)) := np 2 1 (by omega) c2 rfl
    have n4 : ¬ (iI (pr k) = (2 : Int32)) := np 4 2 (by omega) c4 rfl
    have n8 : ¬ (iI (pr k) = (3 : Int32)) := np 8 3 (by omega) c8 rfl
    have n9 : ¬ (iI (pr k) = (4 : Int32)) := np 9 4 (by omega) c9 rfl
    have cr : fX11_fails m (2 : Int32) M = _ := m_fails hB.2 S.1 S.2.2.2 2
    unfold fX11_fieldPart
    rw [m_words hφ hB.1 hB.2 S.1, sbind, hk, jn_eq, if_neg n0, if_neg n2, if_neg n4, if_neg n8, if_neg n9, cr, bdP, if_pos (Or.inl i0e)]
def FRes (φ : Nat) (d : Nat) (B : Int → Int) (n p : Int) (F : Fld) (nm : NMs) : Prop := (∃ fk fp, (1 ≤ fk ∧ fk ≤ 99) ∧ (∀ t ft gs M, ENV t ft gs → CSt t ft gs B n p F nm M → ∀ (k : Nat) (x : Int), d < k → 0 ≤ x → x ≤ p → CFail t ft gs 13 fk fp M (lX1_isTaken_19 φ ft k (iI x) M)) ∧ ∀ m M K, MSt m B n p F nm M → ∀ k : Nat, d + 1 < k → ∃ M1, lX11_field_54 K φ m k (iI 1) M = K M1 ∧ M1.1 m 18 = iI fk ∧ M1.1 m 17 = iI fp ∧ RW m M M1) ∨ ∃ F' nm' p', DW F' nm' ∧ (∀ t ft gs M, ENV t ft gs → CSt t ft gs B n p F nm M → ∀ (k : Nat) (x : Int), d < k → 0 ≤ x → x ≤ p → ∃ M1, lX1_isTaken_19 φ ft k (iI x) M = some (iI 1, M1) ∧ CSt t ft gs B n p' F' nm' M1 ∧ RCw t ft gs 13 M M1) ∧ ∀ m M K, MSt m B n p F nm M → ∀ k : Nat, d + 1 < k → ∃ M1, lX11_field_54 K φ m k (iI 1) M = K M1 ∧ MSt m B n p' F' nm' M1 ∧ RW m M M1
theorem fres_0 {φ d : Nat} (hB : HB B n) (hp : 0 ≤ p ∧ p ≤ n) (dw : DW F nm) (h0 : (tok B n p).1 = 0) : FRes φ d B n p F nm := by
  have w := hB.w hp
  refine Or.inr ⟨F, nm, p, dw, fun t ft gs M e S k x hk x0 xp => ?_, fun m M K S k hk => ?_⟩
  · obtain ⟨k, rfl⟩ : ∃ q, k = q + 1 := ⟨k - 1, by omega⟩
    refine ⟨M, ?_, S, RCw.refl t ft gs 13 M⟩
    rw [lX1_isTaken_19]
    by_cases q : (900 : Int32) ≤ iI x
    · rw [if_pos q]
      rfl
    · have e1 := c_atEnd w S.1
      rw [decide_eq_true h0, bI_t] at e1
      rw [if_neg q, S.2.2.2.1, ldr_ok e.2.2.1, sbind, e1, sbind, if_neg i1n]
      rfl
  · obtain ⟨k, rfl⟩ : ∃ q, k = q + 1 := ⟨k - 1, by omega⟩
    refine ⟨M, ?_, S, RW.refl m M⟩
    have r1 := S.1.2.2.2.1
    rw [h0] at r1
    rw [lX11_field_54, if_neg i1n, r1, if_pos (show iI (rkd 0) = (0 : Int32) from rfl)]
theorem p_parts {φ : Nat} (hφ : 2000 < φ) (hB : HB B n) : ∀ (d : Nat) (p : Int) (F : Fld) (nm : NMs), n - p ≤ d → 0 ≤ p → p ≤ n → DW F nm → FRes φ d B n p F nm := by
  intro d
  induction d with
  | zero =>
    intro p F nm hd p0 pn dw
    have : p = n := by omega
    subst this
    exact fres_0 hB ⟨p0, pn⟩ dw (by rw [tok_n])
  | succ d ih =>
    intro p F nm hd p0 pn dw
    by_cases h0 : (tok B n p).1 = 0
    · exact fres_0 hB ⟨p0, pn⟩ dw h0
    have w := hB.w ⟨p0, pn⟩
    have lt := (nx_b hB ⟨p0, pn⟩).2.2 h0
    have nb := (nx_b hB ⟨p0, pn⟩).1
    have cs : ∀ t ft gs M, ENV t ft gs → CSt t ft gs B n p F nm M → ∀ (k : Nat) (x : Int), 0 ≤ x → x ≤ p → lX1_isTaken_19 φ ft (k + 1) (iI x) M = bd (fX1_passPart φ ft M) fun v8 M9 => if v8 = 0 then some ((0 : Int32), M9) else lX1_isTaken_19 φ ft k (iI (x + 1)) M9 := fun t ft gs M e S k x x0 xp => by
      have hb := hB.1
      have e1 := c_atEnd w S.1
      rw [decide_eq_false h0, bI_f] at e1
      have nx9 : ¬ ((900 : Int32) ≤ iI x) := by
        show ¬ (iI 900 ≤ iI x)
        rw [iI_le (by omega) (by omega)]
        omega
      rw [lX1_isTaken_19, if_neg nx9, S.2.2.2.1, ldr_ok e.2.2.1, sbind, e1, sbind, if_pos i0e, ← iI_add]
      rfl
    have ms : ∀ m M K, MSt m B n p F nm M → ∀ k : Nat, lX11_field_54 K φ m (k + 1) (iI 1) M = bd (fX11_fieldPart φ m M) fun v6 M7 => lX11_field_54 K φ m k v6 M7 := fun m M K S k => by
      have r1 := S.1.2.2.2.1
      have w1 := w.1
      have rk := rkd_v w1
      have nz : ¬ (iI (rkd (tok B n p).1) = (0 : Int32)) := by
        obtain ⟨z0, z1, z2, z3, z4⟩ := rk
        have : (tok B n p).1 = 1 ∨ (tok B n p).1 = 2 ∨ (tok B n p).1 = 3 ∨ (tok B n p).1 = 4 := by omega
        rcases this with z | z | z | z
        · rw [z1 z]; decide
        · rw [z2 z]; decide
        · rw [z3 z]; decide
        · rw [z4 z]; decide
      rw [lX11_field_54, if_neg i1n, r1, if_neg nz]
    rcases p_part hφ hB ⟨p0, pn⟩ dw with ⟨fk, fp, h1, h2, h3⟩ | ⟨F', nm', p', d', a, b, h2, h3⟩
    · refine Or.inl ⟨fk, fp, h1, fun t ft gs M e S k x hk x0 xp => ?_, fun m M K S k hk => ?_⟩
      · obtain ⟨k, rfl⟩ : ∃ q, k = q + 1 := ⟨k - 1, by omega⟩
        obtain ⟨M1, r, s⟩ := h2 t ft gs M e S
        refine ⟨M1, ?_, s⟩
        rw [cs t ft gs M e S k x x0 xp, r, bdP, if_pos i0e]
        rfl
      · obtain ⟨k, rfl⟩ : ∃ q, k = q + 2 := ⟨k - 2, by omega⟩
        obtain ⟨M1, r, s⟩ := h3 m M S
        refine ⟨M1, ?_, s⟩
        rw [ms m M K S (k + 1), r, bdP, lX11_field_54, if_pos i0e]
    · rcases ih p' F' nm' (by omega) (by omega) b d' with ⟨fk, fp, g1, g2, g3⟩ | ⟨F2, nm2, p2, d2, g2, g3⟩
      · refine Or.inl ⟨fk, fp, g1, fun t ft gs M e S k x hk x0 xp => ?_, fun m M K S k hk => ?_⟩
        · obtain ⟨k, rfl⟩ : ∃ q, k = q + 1 := ⟨k - 1, by omega⟩
          obtain ⟨M1, r, s1, s2⟩ := h2 t ft gs M e S
          obtain ⟨M2, q1, q2, q3, q4⟩ := g2 t ft gs M1 e s1 k (x + 1) (by omega) (by omega) (by omega)
          refine ⟨M2, ?_, q2, q3, s2.trans q4⟩
          rw [cs t ft gs M e S k x x0 xp, r, bdP, if_neg i1n]
          exact q1
        · obtain ⟨k, rfl⟩ : ∃ q, k = q + 1 := ⟨k - 1, by omega⟩
          obtain ⟨M1, r, s1, s2⟩ := h3 m M S
          obtain ⟨M2, q1, q2, q3, q4⟩ := g3 m M1 K s1 k (by omega)
          refine ⟨M2, ?_, q2, q3, s2.trans q4⟩
          rw [ms m M K S k, r, bdP]
          exact q1
      · refine Or.inr ⟨F2, nm2, p2, d2, fun t ft gs M e S k x hk x0 xp => ?_, fun m M K S k hk => ?_⟩
        · obtain ⟨k, rfl⟩ : ∃ q, k = q + 1 := ⟨k - 1, by omega⟩
          obtain ⟨M1, r, s1, s2⟩ := h2 t ft gs M e S
          obtain ⟨M2, q1, q2, q3⟩ := g2 t ft gs M1 e s1 k (x + 1) (by omega) (by omega) (by omega)
          refine ⟨M2, ?_, q2, s2.trans q3⟩
          rw [cs t ft gs M e S k x x0 xp, r, bdP, if_neg i1n]
          exact q1
        · obtain ⟨k, rfl⟩ : ∃ q, k = q + 1 := ⟨k - 1, by omega⟩
          obtain ⟨M1, r, s1, s2⟩ := h3 m M S
          obtain ⟨M2, q1, q2, q3⟩ := g3 m M1 K s1 k (by omega)
          refine ⟨M2, ?_, q2, s2.trans q3⟩
          rw [ms m M K S k, r, bdP]
          exact q1
end PA
