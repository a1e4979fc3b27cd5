/-! years on both sides -/
section TLY
variable {m : Nat} {M : Mem} {n : Int} {F : Fld} {nn : NMs}
theorem mYw.fe {M M5 M8 : Mem} (h : mFe m 0 0 M M5) (r : mYw m M5 M8) : mFe m 0 0 M M8 := ⟨fun i q => by rw [r.1 i (by omega) (by omega) (by omega) (by omega) (by omega) (by omega) (by omega) (by omega)]; exact h.1 i q, r.2.1.trans h.2.1, fun e e0 e1 => (r.2.2.1 e e0 e1).trans (h.2.2.1 e e0 e1), fun e e0 e1 => (r.2.2.2.1 e e0 e1).trans (h.2.2.2.1 e e0 e1), h.2.2.2.2.trans (r.2.2.2.2.mono (fun z q => by omega))⟩
theorem c_yearsOpen {t yt g ys : Nat} {B : Int → Int} {p N c d : Int} {Y : Yr} {U : Int → Int} (hB : HB B n) (hp : 0 ≤ p ∧ p ≤ n) (hd : 0 < d ∧ d ≤ 3) (e : EY t yt g ys) (S : CYs t yt g ys B n p F nn N c d Y U M) : CFail t yt ys 5 (fkT (tok B n p) 2) (tok B n p).2.1 M (kYC yt M) := by
  have n0 : ¬ (iI d ≤ (0 : Int32)) := by
    show ¬ (iI d ≤ iI 0)
    rw [iI_le (by omega) (by omega)]
    omega
  have := c_cF (k := 2) hB hp e S.1
  unfold kYC
  rw [S.2.2.1, if_neg n0]
  exact this
theorem tl_years {φ : Nat} (hφ : 2000 < φ) {Q : TPS} (wq : WTp Q) (hb : -2147483648 ≤ n ∧ n < 2147483648) (dw : DX F nn) : ((∀ M, TpC (0 + 2) Q M → fX10_years φ 0 (iI n) M = some (iI (-1), stI M 0 0 (iI 1))) ∧ ∀ m M, TpM m Q M → fX11_years φ m (iI n) M = some (iI (-1), stI M m 2 (iI 1))) ∨ (∃ fk fp : Int, (∀ M g y ys, CEy g y ys M → GR g F M → NCn g F nn M → TpC (0 + 2) Q M → ∃ M1, fX10_years φ 0 (iI n) M = some (iI (-1), stI M1 0 0 (iI 9)) ∧ FC (0 + 2) (true, fk, fp) M1 ∧ M1.1 (0 + 2) 1 = iI 0 ∧ cYd ys M M1 ∧ M1.2.2 0 = M.2.2 0) ∧ ∀ m M, MR m 0 F M → NB m 0 F nn M → TpM m Q M → ∃ M1, fX11_years φ m (iI n) M = some (iI (-1), stI M1 m 2 (iI 9)) ∧ FMd m (true, fk, fp) M1 ∧ M1.1 m 10 = iI 0 ∧ mFe m 0 0 M M1) ∨ ∃ (N c : Int) (Y : Yr), (YI F N Y ∧ 0 ≤ N) ∧ (∀ M g y ys, CEy g y ys M → GR g F M → NCn g F nn M → TpC (0 + 2) Q M → ∃ M1, fX10_years φ 0 (iI n) M = some (iI c, stI M1 0 0 (iI 0)) ∧ FC (0 + 2) (true, 0, -1) M1 ∧ M1.1 (0 + 2) 1 = iI 0 ∧ YW ys N Y M1 ∧ M1.2.2 0 9 = some ys ∧ M1.2.2 0 10 = some y ∧ cYd ys M M1) ∧ ∀ m M, MR m 0 F M → NB m 0 F nn M → TpM m Q M → ∃ M1, fX11_years φ m (iI n) M = some (iI c, stI M1 m 2 (iI 0)) ∧ FMd m (true, 0, -1) M1 ∧ M1.1 m 10 = iI 0 ∧ YS m 0 N Y M1 ∧ (∀ e : Int, 0 ≤ e → e < 280 → e ≠ 4 → M1.1 (m + 1) e.toNat = M.1 (m + 1) e.toNat) ∧ mFe m 650 0 M M1 := by
  have q0 := wq.1
  by_cases hn : (0 ≤ n ∧ n ≤ Q.1) ∧ n ≤ 300
  · refine Or.inr ?_
    have hB : HB Q.2 n := ⟨by omega, wq.2⟩
    rcases y_parts (nn := nn) hφ hB dw n.toNat 0 0 0 0 Y00 U00 (by omega) (by omega) hn.1.1 (YDw.zero F Y00 U00) with ⟨fk, fp, h1, h2, h3⟩ | ⟨N', c', d', Y', U', p', hp', D, h2, h3⟩
    · refine Or.inl ⟨fk, fp, fun M g y ys E G H hq => c_yearsNo hφ wq hq hn E G H (fun t yt g ys M e S => h2 t yt g ys M (kYC yt) e S φ 0 (by omega) (by omega) (by omega)), fun m M G H hq => ?_⟩
      obtain ⟨M5, S, c10, fd, e5⟩ := m_yearsSt (m := m) hφ wq hq hn G H
      obtain ⟨M8, s1, s2, s3, s4⟩ := h3 m M5 (kYM φ m) S φ (by omega)
      refine ⟨stI M8 m 16 (iI fk), ?_, ⟨(fun h => by cases h), fun _ => ⟨rI_at rfl rfl, by rw [rI_nk (by omega)]; exact s3⟩⟩, by rw [rI_nk (by omega), s4.1 10 (by omega) (by omega) (by omega) (by omega) (by omega) (by omega) (by omega) (by omega)]; exact c10, (s4.fe fd).st16 _⟩
      rw [e5, s1, m_yearsNo s2 h1]
    · have nb := D.1
      have hq' : 0 ≤ p' ∧ p' ≤ n := ⟨by omega, hp'.1.2⟩
      by_cases d0 : d' = 0
      · subst d0
        refine Or.inr ⟨N', c', Y', ⟨D.done rfl, by omega⟩, fun M g y ys E G H hq => c_yearsYes hφ wq hq hn E G H D (fun t yt g ys M e S => h2 t yt g ys M (kYC yt) e S φ 0 (by omega) (by omega) (by omega)), fun m M G H hq => ?_⟩
        obtain ⟨M5, S, c10, fd, e5⟩ := m_yearsSt (m := m) hφ wq hq hn G H
        obtain ⟨M8, s1, S8, s4⟩ := h3 m M5 (kYM φ m) S φ (by omega)
        obtain ⟨M9, k1, k2, k3, k4, k5⟩ := m_yearsYes hφ D S8
        have t := k5 m (fun q => by have := q.1; omega)
        have k5' : Fr (Rg (m + 1) (m + 2)) M8 M9 := k5.mono (fun z q => ⟨q.1, by have := q.2; omega⟩)
        refine ⟨stI M9 m 16 (iI 0), ?_, ⟨(fun h => by cases h), fun _ => ⟨rI_at rfl rfl, by rw [rI_nk (by omega), t.1]; exact S8.1.1.pl⟩⟩, by rw [rI_nk (by omega), t.1, s4.1 10 (by omega) (by omega) (by omega) (by omega) (by omega) (by omega)]; exact c10, ?_, fun e e0 e1 e4 => ?_, ((((s4.yw).fe fd).le (by omega) (by omega)).then k4 (fun e _ => by rw [(k5 (m + 2) (fun q => by have := q.2; omega)).2.1]) k5').st16 _⟩
        · rw [e5, s1, k1]
        · unfold YS at k2 ⊢
          refine ⟨by rw [rI_ng (by omega)]; exact k2.1, fun x k a b c d => by rw [rI_ng (by omega)]; exact k2.2 x k a b c d⟩
        · rw [rI_ng (by omega), k3 e e0 e1 e4, s4.2.2.1 e e0 (by omega)]
          exact fd.2.2.1 e e0 (by omega)
      · have hd : 0 < d' ∧ d' ≤ 3 := by omega
        refine Or.inl ⟨fkT (tok Q.2 n p') 2, (tok Q.2 n p').2.1, fun M g y ys E G H hq => c_yearsNo hφ wq hq hn E G H (fun t yt g ys M e S => ?_), fun m M G H hq => ?_⟩
        · obtain ⟨M1, r1, r2, r3⟩ := h2 t yt g ys M (kYC yt) e S φ 0 (by omega) (by omega) (by omega)
          rw [r1]
          exact CFail.le r3 (c_yearsOpen hB hq' hd e r2)
        · obtain ⟨M5, S, c10, fd, e5⟩ := m_yearsSt (m := m) hφ wq hq hn G H
          obtain ⟨M8, s1, S8, s4⟩ := h3 m M5 (kYM φ m) S φ (by omega)
          obtain ⟨M9, k1, k2, k3, k4⟩ := m_yearsOpen (φ := φ) hB hd S8
          have s9 := s4.yw.trans k4.yw
          have f1 := fkT_1 (tok Q.2 n p') (k := 2) (by omega)
          refine ⟨stI M9 m 16 (iI (fkT (tok Q.2 n p') 2)), ?_, ⟨(fun h => by cases h), fun _ => ⟨rI_at rfl rfl, by rw [rI_nk (by omega)]; exact k3⟩⟩, by rw [rI_nk (by omega), s9.1 10 (by omega) (by omega) (by omega) (by omega) (by omega) (by omega) (by omega) (by omega)]; exact c10, (s9.fe fd).st16 _⟩
          rw [e5, s1, k1, m_yearsNo k2 f1]
  · exact Or.inl ⟨fun M hq => c_yearsOut wq hq hn hb, fun m M hq => m_yearsOut wq hq hn hb⟩
end TLY
