/-! the field on both sides -/
def mFe (m : Nat) (a b : Int) (M M1 : Mem) : Prop := (∀ i, (i < 10 ∨ i = 20 ∨ 22 < i) → M1.1 m i = M.1 m i) ∧ M1.2.1 m = M.2.1 m ∧ (∀ e : Int, a ≤ e → e < 2600 → M1.1 (m + 1) e.toNat = M.1 (m + 1) e.toNat) ∧ (∀ e : Int, b ≤ e → e < 64 → M1.2.1 (m + 2) e.toNat = M.2.1 (m + 2) e.toNat) ∧ Fr (fun z => z = m ∨ z = m + 1 ∨ z = m + 2 ∨ z = m + 7 ∨ z = m + 8) M M1
theorem mFd.fe {m : Nat} {M M5 M8 : Mem} (h : mFd m M M5) (r : RW m M5 M8) : mFe m 0 0 M M8 := by
  obtain ⟨h1, h2, h3, h4⟩ := h
  obtain ⟨r1, r2, r3, r4, r5⟩ := r
  refine ⟨fun i q => ?_, r2.trans h2, fun e e0 e1 => (r3 e e0 (Or.inl e1)).trans (h3 e e0 e1), fun e e0 e1 => ?_, (h4.mono (fun z q => by omega)).trans (r5.mono (fun z q => by omega))⟩
  · rw [r1 i (by omega) (by omega) (by omega) (by omega) (by omega) (by omega) (by omega) (by omega)]
    exact h1 i (by omega) (by omega) (by omega) (by omega) (by omega) (by omega) (by omega) (by omega) (by omega)
  · rw [r4 e e0 e1, (h4 (m + 2) (by omega)).2.1]
theorem mFe.le {m : Nat} {a b a' b' : Int} {M M1 : Mem} (ha : a ≤ a') (hb : b ≤ b') (h : mFe m a b M M1) : mFe m a' b' M M1 := ⟨h.1, h.2.1, fun e e0 e1 => h.2.2.1 e (by omega) e1, fun e e0 e1 => h.2.2.2.1 e (by omega) e1, h.2.2.2.2⟩
theorem mFe.then {m : Nat} {a b : Int} {M M1 M2 : Mem} (h : mFe m a b M M1) (h1 : ∀ e : Int, a ≤ e → M2.1 (m + 1) e.toNat = M1.1 (m + 1) e.toNat) (h2 : ∀ e : Int, b ≤ e → M2.2.1 (m + 2) e.toNat = M1.2.1 (m + 2) e.toNat) (hF : Fr (Rg (m + 1) (m + 2)) M1 M2) : mFe m a b M M2 := by
  have t := hF m (fun q => by have := q.1; omega)
  exact ⟨fun i q => by rw [t.1]; exact h.1 i q, t.2.1.trans h.2.1, fun e e0 e1 => (h1 e e0).trans (h.2.2.1 e e0 e1), fun e e0 e1 => (h2 e e0).trans (h.2.2.2.1 e e0 e1), h.2.2.2.2.trans (hF.mono (fun z q => by have := q.1; have := q.2; omega))⟩
theorem mFe.st16 {m : Nat} {a b : Int} {M M1 : Mem} (h : mFe m a b M M1) (v : Int32) : mFe m a b M (stI M1 m 16 v) :=
  ⟨fun i q => by rw [rI_nk (by omega)]; exact h.1 i q, h.2.1, fun e e0 e1 => by rw [rI_ng (by omega)]; exact h.2.2.1 e e0 e1, fun e e0 e1 => h.2.2.2.1 e e0 e1, h.2.2.2.2.trans (Fr.stI (Or.inl rfl) (Fr.refl M1))⟩
theorem tl_field {φ : Nat} (hφ : 2000 < φ) {Q : TPS} (wq : WTp Q) {n : Int} (hb : -2147483648 ≤ n ∧ n < 2147483648) : ((∀ M, TpC (0 + 2) Q M → fX10_field φ 0 (iI n) M = some (iI (-1), stI M 0 0 (iI 1))) ∧ ∀ m M, TpM m Q M → fX11_field φ m (iI n) M = some (iI (-1), stI M m 2 (iI 1))) ∨ (∃ fk fp : Int, (∀ M g gs y, CE g gs y M → TpC (0 + 2) Q M → ∃ M1, fX10_field φ 0 (iI n) M = some (iI (-1), stI M1 0 0 (iI 9)) ∧ FC (0 + 2) (true, fk, fp) M1 ∧ M1.1 (0 + 2) 1 = iI 0 ∧ cFn gs M M1) ∧ ∀ m M, TpM m Q M → ∃ M1, fX11_field φ m (iI n) M = some (iI (-1), stI M1 m 2 (iI 9)) ∧ FMd m (true, fk, fp) M1 ∧ M1.1 m 10 = iI 0 ∧ mFe m 0 0 M M1) ∨ ∃ F' nn', DW F' nn' ∧ (∀ M g gs y, CE g gs y M → TpC (0 + 2) Q M → ∃ M1, fX10_field φ 0 (iI n) M = some (iI (F' 0 1 0), stI M1 0 0 (iI 0)) ∧ FC (0 + 2) (true, 0, -1) M1 ∧ M1.1 (0 + 2) 1 = iI 0 ∧ GR gs F' M1 ∧ NCn gs F' nn' M1 ∧ M1.2.2 0 7 = some gs ∧ M1.2.2 0 8 = some g ∧ M1.1 y 0 = iI 0 ∧ M1.1 57 1 = iI 1 ∧ cFd gs y M M1) ∧ ∀ m M, TpM m Q M → ∃ M1, fX11_field φ m (iI n) M = some (iI (F' 0 1 0), stI M1 m 2 (iI 0)) ∧ FMd m (true, 0, -1) M1 ∧ M1.1 m 10 = iI 0 ∧ MR m 0 F' M1 ∧ NB m 0 F' nn' M1 ∧ M1.1 (m + 1) (Int.toNat 4) = iI (-1) ∧ mFe m 650 16 M M1 := by
  have q0 := wq.1
  by_cases hn : 0 ≤ n ∧ n ≤ Q.1
  · refine Or.inr ?_
    have hB : HB Q.2 n := ⟨by omega, wq.2⟩
    rcases p_parts hφ hB n.toNat 0 F00 (fun _ _ => 0) (by omega) (by omega) hn.1 (dw00 _) with ⟨fk, fp, h1, h2, h3⟩ | ⟨F', nn', p', d, h2, h3⟩
    · refine Or.inl ⟨fk, fp, fun M g gs y E hq => c_fieldNo hφ wq hq hn E (fun _ _ => 0) (fun t ft gs M e S => h2 t ft gs M e S φ 0 (by omega) (by omega) (by omega)), fun m M hq => ?_⟩
      obtain ⟨M5, S, c10, c4, fd, e5⟩ := m_field (m := m) hφ wq hq hn (fun _ _ => 0)
      obtain ⟨M8, s1, s2, s3, s4⟩ := h3 m M5 (kFM φ m) S φ (by omega)
      refine ⟨stI M8 m 16 (iI fk), ?_, ⟨(fun h => by cases h), fun _ => ⟨rI_at rfl rfl, by rw [rI_nk (by omega)]; exact s3⟩⟩, by rw [rI_nk (by omega), s4.1 10 (by omega) (by omega) (by omega) (by omega) (by omega) (by omega) (by omega) (by omega)]; exact c10, (fd.fe s4).st16 _⟩
      rw [e5, s1, m_fieldNo s2 h1]
    · refine Or.inr ⟨F', nn', d, fun M g gs y E hq => c_fieldYes hφ wq hq hn E (fun _ _ => 0) (fun t ft gs M e S => h2 t ft gs M e S φ 0 (by omega) (by omega) (by omega)), fun m M hq => ?_⟩
      obtain ⟨M5, S, c10, c4, fd, e5⟩ := m_field (m := m) hφ wq hq hn (fun _ _ => 0)
      obtain ⟨M8, s1, S8, s4⟩ := h3 m M5 (kFM φ m) S φ (by omega)
      obtain ⟨M9, k1, k2, k3, k4, k5, k6, k7⟩ := m_fieldYes hφ d S8
      have t := k7 m (fun q => by have := q.1; omega)
      have c26 : M8.1 (m + 1) (Int.toNat 2604) = iI (-1) := (s4.2.2.1 2604 (by omega) (Or.inr rfl)).trans c4
      have fr16 : Fr (fun z => z = m) M9 (stI M9 m 16 (iI 0)) := Fr.stI rfl (Fr.refl M9)
      refine ⟨stI M9 m 16 (iI 0), ?_, ⟨(fun h => by cases h), fun _ => ⟨rI_at rfl rfl, by rw [rI_nk (by omega), t.1]; exact S8.1.pl⟩⟩, by rw [rI_nk (by omega), t.1, s4.1 10 (by omega) (by omega) (by omega) (by omega) (by omega) (by omega) (by omega) (by omega)]; exact c10, k2.fr fr16 (by omega), k3.fr fr16 (by omega), by rw [rI_ng (by omega), k4]; exact c26, (((fd.fe s4).le (by omega) (by omega)).then k5 k6 k7).st16 _⟩
      rw [e5, s1, k1]
  · exact Or.inl ⟨fun M hq => c_fieldOut wq hq hn hb, fun m M hq => m_fieldOut wq hq hn hb⟩
