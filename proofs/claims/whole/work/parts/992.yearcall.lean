/-! the call years, on both sides -/
def Y00 : Yr := fun _ _ => 0
def U00 : Int → Int := fun _ => 0
def kYC (yt : Nat) (M12 : Mem) : Option (Int32 × Mem) := if (M12.1 yt 1) ≤ 0 then
 (ldr 8 (M12.2.2 yt 4)).bind fun vr13 =>
 nm (stI M12 vr13 0 (1 : Int32)) (fun M14 =>
 some ((1 : Int32), M14))
 else
 (ldr 6 (M12.2.2 yt 2)).bind fun vr15 =>
 bd (fX6_refuseToken vr15 (2 : Int32) M12) fun v16 M17 =>
 if v16 = 0 ∨ v16 = 1 then some (v16, M17) else none
def kYD (f : Option (Int32 × Mem)) : Option (Int32 × Mem) := bd f fun v9 M10 =>
 if v9 = 0 then
 bd (fX10_refuse 0 (9 : Int32) M10) fun v18 M19 =>
 some (v18, M19)
 else
 (ldr 8 (M10.2.2 0 9)).bind fun vr11 =>
 (ldr 8 (M10.2.2 0 10)).bind fun vr12 =>
 nm (stR M10 0 9 vr12) (fun M13 =>
 nm (stR M13 0 10 vr11) (fun M14 =>
 (ldr 8 (M14.2.2 0 9)).bind fun vr15 =>
 bd (fX10_answer 0 (M14.1 vr15 1) M14) fun v16 M17 =>
 some (v16, M17)))
def kYM (φ t : Nat) (M8 : Mem) : Option (Int32 × Mem) := jn (fun (M9 : Mem) => if (M9.1 t 18) = 0 then
 ixk (2604 : Int32) 3900 (
 ixk (4 : Int32) 3900 (nm (stI M9 (t + 1) (4 : Int32).toNatClampNeg (M9.1 (t + 1) (2604 : Int32).toNatClampNeg)) (fun M13 =>
 lX11_years_102 t φ (280 : Int32) M13)))
 else
 bd (fX11_taken t (M9.1 t 22) M9) fun v11 M12 =>
 some (v11, M12)) (fun J10 => if (M8.1 t 18) = 0 then
 if (M8.1 t 21) ≤ 0 then
 J10 M8
 else
 bd (fX11_fails t (2 : Int32) M8) fun v17 M18 =>
 J10 M18
 else
 J10 M8)
/-- the class's objects that years' text goes through -/
def CEy (g y ys : Nat) (M : Mem) : Prop := (M.2.2 0 7 = some g ∧ M.2.2 0 9 = some y ∧ M.2.2 0 10 = some ys) ∧ (isO 2 g ∧ isO 8 y ∧ isO 8 ys) ∧ (11 < g ∧ g + 13 < 40) ∧ (40 ≤ y ∧ y + 5 < 57) ∧ (40 ≤ ys ∧ ys + 5 < 57) ∧ (y + 5 < ys ∨ ys + 5 < y)
/-- what the class's call years leaves as it was -/
def cYd (ys : Nat) (M M1 : Mem) : Prop := (∀ i, i ≠ 0 → M1.1 0 i = M.1 0 i) ∧ M1.2.1 0 = M.2.1 0 ∧ (∀ i, i ≠ 9 → i ≠ 10 → M1.2.2 0 i = M.2.2 0 i) ∧ Fr (fun z => z = 0 ∨ (2 ≤ z ∧ z ≤ 7) ∨ z = 10 ∨ z = 11 ∨ (ys ≤ z ∧ z ≤ ys + 5)) M M1
section YCL
variable {g y ys m : Nat} {M : Mem} {n : Int} {F : Fld} {nn : NMs}
theorem ey_of (E : CEy g y ys M) : EY (0 + 2) (0 + 10) g ys := by
  obtain ⟨_, ⟨o7, o9, o10⟩, g1, y1, s1, _⟩ := E
  exact ⟨⟨o6_2, o7, o10⟩, by omega, by omega, by omega⟩
theorem c_yearsSt {φ : Nat} (hφ : 2000 < φ) {Q : TPS} (wq : WTp Q) (hq : TpC (0 + 2) Q M) (hn : (0 ≤ n ∧ n ≤ Q.1) ∧ n ≤ 300) (E : CEy g y ys M) (G : GR g F M) (H : NCn g F nn M) : ∃ M7, CYs (0 + 2) (0 + 10) g ys Q.2 n 0 F nn 0 0 0 Y00 U00 M7 ∧ M7.1 (0 + 2) 8 = iI 1 ∧ M7.1 (0 + 2) 1 = iI 0 ∧ (∀ i, M7.2.2 0 i = M.2.2 0 i) ∧ Fr (fun z => (2 ≤ z ∧ z ≤ 7) ∨ z = 10 ∨ z = ys) M M7 ∧ fX10_years φ 0 (iI n) M = kYD (lX9_isTaken_30 (kYC (0 + 10)) φ (0 + 10) φ (iI 0) M7) := by
  have q0 := wq.1
  have ee := ey_of E
  obtain ⟨⟨e7, e9, e10⟩, ⟨o7, o9, o10⟩, g1, y1, s1, ys1⟩ := E
  obtain ⟨M1, r1, r2, r3, r4, r5, r6, r7⟩ := c_begin hφ (t := 0 + 2) (M := M) (B := Q.2) (n := n) (by omega) wq.2 (fun k k0 k1 => hq.2 k k0 (by omega))
  have t0 := r7 0 (fun q => by have := q.1; omega)
  have l7 : M1.2.2 0 7 = some g := by rw [t0.2.2]; exact e7
  have l10 : M1.2.2 0 10 = some ys := by rw [t0.2.2]; exact e10
  obtain ⟨M4, hM4⟩ : ∃ M4, M4 = stI (stR (stR (stR M1 (0 + 10) 2 (0 + 2)) (0 + 10) 3 g) (0 + 10) 4 ys) (0 + 10) 1 (iI 0) := ⟨_, rfl⟩
  obtain ⟨M7, hM7⟩ : ∃ M7, M7 = stI (stI (stI M4 ys 0 (iI 0)) ys 1 (iI 0)) ys 2 (iI 0) := ⟨_, rfl⟩
  have f4 : Fr (fun z => z = 10 ∨ z = ys) M1 M4 := by
    rw [hM4]
    exact Fr.stI (Or.inl (by omega)) (Fr.stR (Or.inl (by omega)) (Fr.stR (Or.inl (by omega)) (Fr.stR (Or.inl (by omega)) (Fr.refl M1))))
  have f7 : Fr (fun z => z = 10 ∨ z = ys) M1 M7 := by
    refine f4.trans ?_
    rw [hM7]
    exact Fr.stI (Or.inr rfl) (Fr.stI (Or.inr rfl) (Fr.stI (Or.inr rfl) (Fr.refl M4)))
  have fr : Fr (fun z => (2 ≤ z ∧ z ≤ 7) ∨ z = 10 ∨ z = ys) M M7 := (r7.mono (fun z q => Or.inl ⟨by have := q.1; omega, by have := q.2; omega⟩)).trans (f7.mono (fun z q => by omega))
  have p4 : M4.2.2 (0 + 10) 4 = some ys := by
    rw [hM4]
    show (stR (stR (stR M1 (0 + 10) 2 (0 + 2)) (0 + 10) 3 g) (0 + 10) 4 ys).2.2 (0 + 10) 4 = some ys
    exact rR_at rfl rfl
  have p3 : M4.2.2 (0 + 10) 3 = some g := by
    rw [hM4]
    show (stR (stR (stR M1 (0 + 10) 2 (0 + 2)) (0 + 10) 3 g) (0 + 10) 4 ys).2.2 (0 + 10) 3 = some g
    rw [rR_nk (by omega)]
    exact rR_at rfl rfl
  have p2 : M4.2.2 (0 + 10) 2 = some (0 + 2) := by
    rw [hM4]
    show (stR (stR (stR M1 (0 + 10) 2 (0 + 2)) (0 + 10) 3 g) (0 + 10) 4 ys).2.2 (0 + 10) 2 = some (0 + 2)
    rw [rR_nk (by omega), rR_nk (by omega)]
    exact rR_at rfl rfl
  have e72 : M7.2 = M4.2 := by rw [hM7]; rfl
  have y1' : M7.1 (0 + 10) 1 = iI 0 := by
    rw [hM7, rI_ng (by omega), rI_ng (by omega), rI_ng (by omega), hM4]
    exact rI_at rfl rfl
  have c1 : M7.1 ys 1 = iI 0 := by
    rw [hM7, rI_nk (by omega)]
    exact rI_at rfl rfl
  have c2 : M7.1 ys 2 = iI 0 := by
    rw [hM7]
    exact rI_at rfl rfl
  have t2 := f7 (0 + 2) (by omega)
  have t00 := f7 0 (by omega)
  have fG : Fr (fun z => (2 ≤ z ∧ z ≤ 7) ∨ z = 10 ∨ z = ys) M M7 := fr
  refine ⟨M7, ⟨⟨r2.fr f7 (fun z hz q => by omega), G.fr fG (fun z a b q => by omega), H.fr fG (by omega) (by omega) (by omega), by rw [e72]; exact p2, by rw [e72]; exact p3, by rw [e72]; exact p4⟩, ⟨⟨c1, c2⟩, fun x a b => by omega⟩, y1', fun k a b => by omega⟩, by rw [t2.1]; exact r4, by rw [t2.1]; exact r3, fun i => by rw [t00.2.2, t0.2.2], fr, ?_⟩
  have eT : fX9_isTaken φ (0 + 10) (0 + 2) g ys M1 = lX9_isTaken_30 (kYC (0 + 10)) φ (0 + 10) φ (iI 0) M7 := by
    have hM4' : stI (stR (stR (stR M1 (0 + 10) 2 (0 + 2)) (0 + 10) 3 g) (0 + 10) 4 ys) (0 + 10) 1 (0 : Int32) = M4 := hM4.symm
    unfold fX9_isTaken fX8_forget
    rw [nm_eq, nm_eq, nm_eq, nm_eq, hM4', p4, ldr_ok o10, sbind, nm_eq, nm_eq, nm_eq, bdP, hM7]
    rfl
  have h3 : iI n ≤ (300 : Int32) := by
    show iI n ≤ iI 300
    rw [iI_le (by omega) (by omega)]
    exact hn.2
  unfold fX10_years
  rw [if_neg (ng0 (by omega)), hq.1, if_neg (by rw [iI_lt (by omega) (by omega)]; omega), if_pos h3, r1, bdP, l7, ldr_ok o7, sbind, l10, ldr_ok o10, sbind, eT]
  rfl
theorem c_yearsNo {φ : Nat} (hφ : 2000 < φ) {Q : TPS} (wq : WTp Q) (hq : TpC (0 + 2) Q M) (hn : (0 ≤ n ∧ n ≤ Q.1) ∧ n ≤ 300) {fk fp : Int} (E : CEy g y ys M) (G : GR g F M) (H : NCn g F nn M) (h : ∀ t yt g ys M, EY t yt g ys → CYs t yt g ys Q.2 n 0 F nn 0 0 0 Y00 U00 M → CFail t yt ys 5 fk fp M (lX9_isTaken_30 (kYC yt) φ yt φ (iI 0) M)) : ∃ M1, fX10_years φ 0 (iI n) M = some (iI (-1), stI M1 0 0 (iI 9)) ∧ FC (0 + 2) (true, fk, fp) M1 ∧ M1.1 (0 + 2) 1 = iI 0 ∧ cYd ys M M1 ∧ M1.2.2 0 = M.2.2 0 := by
  obtain ⟨M7, S, c8, c1, k0, fr, e7⟩ := c_yearsSt hφ wq hq hn E G H
  obtain ⟨M9, s1, s2, s3, s4⟩ := h _ _ _ _ M7 (ey_of E) S
  obtain ⟨_, _, g1, y1, z1, _⟩ := E
  have t0 := s4.2.2 0 (by omega)
  have t1 := fr 0 (by omega)
  refine ⟨M9, ?_, ⟨by rw [s4.1 8 (by omega) (by omega) (by omega), bI_t]; exact c8, fun _ => ⟨s2, s3⟩⟩, by rw [s4.1 1 (by omega) (by omega) (by omega)]; exact c1, ⟨fun i _ => by rw [t0.1, t1.1], t0.2.1.trans t1.2.1, fun i _ _ => by rw [t0.2.2, t1.2.2], (fr.mono (fun z q => by omega)).trans (s4.2.2.mono (fun z q => by omega))⟩, t0.2.2.trans t1.2.2⟩
  rw [e7, s1]
  unfold kYD
  rw [bdP, if_pos i0e]
  rfl
theorem c_yearsYes {φ : Nat} (hφ : 2000 < φ) {Q : TPS} (wq : WTp Q) (hq : TpC (0 + 2) Q M) (hn : (0 ≤ n ∧ n ≤ Q.1) ∧ n ≤ 300) {p' N' c' : Int} {Y' : Yr} {U' : Int → Int} (E : CEy g y ys M) (G : GR g F M) (H : NCn g F nn M) (D : YDw F Y' N' c' 0 U') (h : ∀ t yt g ys M, EY t yt g ys → CYs t yt g ys Q.2 n 0 F nn 0 0 0 Y00 U00 M → ∃ M1, lX9_isTaken_30 (kYC yt) φ yt φ (iI 0) M = kYC yt M1 ∧ CYs t yt g ys Q.2 n p' F nn N' c' 0 Y' U' M1 ∧ RCw t yt ys 5 M M1) : ∃ M1, fX10_years φ 0 (iI n) M = some (iI c', stI M1 0 0 (iI 0)) ∧ FC (0 + 2) (true, 0, -1) M1 ∧ M1.1 (0 + 2) 1 = iI 0 ∧ YW ys N' Y' M1 ∧ M1.2.2 0 9 = some ys ∧ M1.2.2 0 10 = some y ∧ cYd ys M M1 := by
  obtain ⟨M7, S, c8, c1, k0, fr, e7⟩ := c_yearsSt hφ wq hq hn E G H
  obtain ⟨M9, s1, s2, s4⟩ := h _ _ _ _ M7 (ey_of E) S
  have ee := ey_of E
  obtain ⟨⟨l7, l9, l10⟩, ⟨o7, o9, o10⟩, g1, y1, z1, ys1⟩ := E
  have nb := D.1
  obtain ⟨u1, u2, u3, u4⟩ := s2
  obtain ⟨M10, hM10⟩ : ∃ M10, M10 = stI M9 ys 0 (iI 1) := ⟨_, rfl⟩
  obtain ⟨M14, hM14⟩ : ∃ M14, M14 = stR (stR M10 0 9 ys) 0 10 y := ⟨_, rfl⟩
  have t0 := s4.2.2 0 (by omega)
  have t1 := fr 0 (by omega)
  have f10 : Fr (fun z => z = ys) M9 M10 := by rw [hM10]; exact Fr.stI rfl (Fr.refl M9)
  have f14 : Fr (fun z => z = 0) M10 M14 := by
    rw [hM14]
    exact Fr.stR rfl (Fr.stR rfl (Fr.refl M10))
  have e10 : M10.2 = M9.2 := by rw [hM10]; rfl
  have k9 : M10.2.2 0 9 = some y := by rw [e10, t0.2.2, t1.2.2]; exact l9
  have k10 : M10.2.2 0 10 = some ys := by rw [e10, t0.2.2, t1.2.2]; exact l10
  have k9' : M14.2.2 0 9 = some ys := by
    rw [hM14, rR_nk (by omega)]
    exact rR_at rfl rfl
  have d0 : ¬ ((0 : Int32) < iI 0) := by decide
  have q0 : M9.1 (0 + 10) 1 ≤ (0 : Int32) := by
    rw [u3]
    decide
  have eK : kYC (0 + 10) M9 = some (iI 1, M10) := by
    unfold kYC
    rw [if_pos q0, u1.2.2.2.2.2, ldr_ok o10, sbind, nm_eq, hM10]
    rfl
  have cy : M14.1 ys 1 = iI c' := by
    rw [(f14 ys (by omega)).1, hM10, rI_nk (by omega)]
    exact u2.1.1
  have yc : YC ys N' Y' M9 := u2.done
  have t2 : M14.1 (0 + 2) = M9.1 (0 + 2) := by rw [(f14 (0 + 2) (by omega)).1, (f10 (0 + 2) (by omega)).1]
  have pl := u1.1.pl
  have hi : ∀ j, 1 ≤ j → M14.1 (ys + j) = M9.1 (ys + j) := fun j j1 => by rw [(f14 (ys + j) (by omega)).1, (f10 (ys + j) (by omega)).1]
  refine ⟨M14, ?_, ⟨by rw [t2, s4.1 8 (by omega) (by omega) (by omega), bI_t]; exact c8, fun _ => ⟨by rw [t2]; exact pl.1, by rw [t2]; exact pl.2⟩⟩, by rw [t2, s4.1 1 (by omega) (by omega) (by omega)]; exact c1, ⟨?_, fun _ => ⟨?_, fun x a b => ?_⟩⟩, k9', by rw [hM14]; exact rR_at rfl rfl, ⟨fun i _ => ?_, ?_, fun i i9 i10 => by rw [hM14, rR_nk i10, rR_nk i9, e10, t0.2.2, t1.2.2], ((fr.mono (fun z q => by omega)).trans (s4.2.2.mono (fun z q => by omega))).trans ((f10.mono (fun z q => by omega)).trans (f14.mono (fun z q => Or.inl q)))⟩⟩
  · rw [e7, s1, eK]
    unfold kYD fX10_answer
    rw [bdP, if_neg i1n, k9, ldr_ok o9, sbind, k10, ldr_ok o10, sbind, nm_eq, nm_eq, ← hM14, k9', ldr_ok o10, sbind, cy, nm_eq, bdP]
    rfl
  · rw [decide_eq_true (show N' ≠ -1 by omega), bI_t, (f14 ys (by omega)).1, hM10]
    exact rI_at rfl rfl
  · rw [(f14 ys (by omega)).1, hM10, rI_nk (by omega)]
    exact yc.1
  · have := yc.2 x a b
    rw [hi 1 (by omega), hi 2 (by omega), hi 3 (by omega), hi 4 (by omega), hi 5 (by omega)]
    exact this
  · rw [hM14]
    show M10.1 0 i = _
    rw [(f10 0 (by omega)).1, t0.1, t1.1]
  · rw [hM14]
    show M10.2.1 0 = _
    rw [e10, t0.2.1, t1.2.1]
theorem c_yearsOut {φ : Nat} {Q : TPS} (wq : WTp Q) (hq : TpC (0 + 2) Q M) (hn : ¬ ((0 ≤ n ∧ n ≤ Q.1) ∧ n ≤ 300)) (hb : -2147483648 ≤ n ∧ n < 2147483648) : fX10_years φ 0 (iI n) M = some (iI (-1), stI M 0 0 (iI 1)) := by
  have q0 := wq.1
  unfold fX10_years fX10_refuse
  by_cases h : n < 0
  · rw [if_pos (lt0 (by omega)), nm_eq, bdP]
    rfl
  · rw [if_neg (ng0 (by omega)), hq.1]
    by_cases h2 : n ≤ Q.1
    · have n3 : ¬ (iI n ≤ (300 : Int32)) := by
        show ¬ (iI n ≤ iI 300)
        rw [iI_le (by omega) (by omega)]
        omega
      rw [if_neg (by rw [iI_lt (by omega) (by omega)]; omega), if_neg n3, nm_eq, bdP]
      rfl
    · rw [if_pos (by rw [iI_lt (by omega) (by omega)]; omega), nm_eq, bdP]
      rfl
/-! the reference -/
theorem m_yearsOut {φ : Nat} {Q : TPS} (wq : WTp Q) (hq : TpM m Q M) (hn : ¬ ((0 ≤ n ∧ n ≤ Q.1) ∧ n ≤ 300)) (hb : -2147483648 ≤ n ∧ n < 2147483648) : fX11_years φ m (iI n) M = some (iI (-1), stI M m 2 (iI 1)) := by
  have e1 : fX11_begins φ m (iI n) (300 : Int32) M = some (iI 0, M) := by
    by_cases h : 0 ≤ n ∧ n ≤ Q.1
    · exact m_beginsBig wq hq h (l := 300) (by omega)
    · exact m_beginsNo wq hq h hb 300
  unfold fX11_years
  rw [e1, bdP, if_pos i0e]
  rfl
theorem m_yearsSt {φ : Nat} (hφ : 2000 < φ) {Q : TPS} (wq : WTp Q) (hq : TpM m Q M) (hn : (0 ≤ n ∧ n ≤ Q.1) ∧ n ≤ 300) (G : MR m 0 F M) (H : NB m 0 F nn M) : ∃ M5, MYs m Q.2 n 0 F nn 0 0 0 Y00 U00 M5 ∧ M5.1 m 10 = iI 0 ∧ mFe m 0 0 M M5 ∧ fX11_years φ m (iI n) M = lX11_years_38 (kYM φ m) φ m φ (iI 1) M5 := by
  have q0 := wq.1
  obtain ⟨M2, r1, r2, r3, r4, r5⟩ := m_begins hφ wq hq hn.1 (l := 300) (by omega)
  obtain ⟨M5, hM5⟩ : ∃ M5, M5 = stI (stI (stI M2 (m + 1) (Int.toNat 2604) (iI 0)) m 21 (iI 0)) m 22 (iI 0) := ⟨_, rfl⟩
  have f5 : Fr (fun z => z = m ∨ z = m + 1) M2 M5 := by
    rw [hM5]
    exact Fr.stI (Or.inl rfl) (Fr.stI (Or.inl rfl) (Fr.stI (Or.inr rfl) (Fr.refl M2)))
  have o5 : ∀ i, i ≠ 21 → i ≠ 22 → M5.1 m i = M2.1 m i := fun i a b => by rw [hM5, rI_nk b, rI_nk a, rI_ng (by omega)]
  have p5 : ∀ e : Int, 0 ≤ e → e ≠ 2604 → M5.1 (m + 1) e.toNat = M.1 (m + 1) e.toNat := fun e e0 e1 => by
    rw [hM5, rI_ng (by omega), rI_ng (by omega), rI_nk (by omega), (r5.2.2 (m + 1) (by omega)).1]
  have e2 : M5.2 = M2.2 := by rw [hM5]; rfl
  have t2 : M5.2.1 (m + 2) = M.2.1 (m + 2) := by rw [e2, (r5.2.2 (m + 2) (by omega)).2.1]
  refine ⟨M5, ⟨⟨r2.eq (fun i a b => o5 i (by omega) (by omega)) (f5 (m + 7) (by omega)).1, G.sh (fun k k0 k1 => p5 _ (by omega) (by omega)), ⟨fun z a b => by rw [t2]; exact H.1 z a b, fun z a b => by rw [t2]; exact H.2.1 z a b, fun z a b => by rw [t2]; exact H.2.2 z a b⟩, by rw [o5 18 (by omega) (by omega)]; exact r3⟩, ⟨by rw [hM5, rI_ng (by omega), rI_ng (by omega)]; exact rI_at rfl rfl, fun x k a b => by omega⟩, ⟨by rw [hM5, rI_nk (by omega)]; exact rI_at rfl rfl, by rw [hM5]; exact rI_at rfl rfl⟩, fun k a b => by omega⟩, by rw [o5 10 (by omega) (by omega)]; exact r4, ⟨fun i q => by rw [o5 i (by omega) (by omega)]; exact r5.1 i (by omega) (by omega) (by omega) (by omega) (by omega) (by omega) (by omega) (by omega) (by omega), by rw [e2]; exact r5.2.1, fun e e0 e1 => p5 e e0 (by omega), fun e e0 e1 => by rw [t2], (r5.2.2.mono (fun z q => by omega)).trans (f5.mono (fun z q => by omega))⟩, ?_⟩
  have r1' : fX11_begins φ m (iI n) (300 : Int32) M = some (iI 1, M2) := r1
  have ix : ∀ E : Option (Int32 × Mem), ixk (2604 : Int32) 3900 E = E := fun E => ixkI (i := 2604) (by omega)
  unfold fX11_years
  rw [r1', bdP, if_neg i1n, ix, nm_eq, nm_eq, nm_eq, hM5]
  rfl
theorem m_years102 (M0 : Mem) {c : Int} (hc : 0 ≤ c ∧ c < 100) : ∀ (k : Nat) (i : Int), 0 ≤ i → i ≤ 645 → 645 < k + i → 280 ≤ i → ∀ M, M.1 m 18 = iI 0 → M.1 m 22 = iI c → (∀ e : Int, 0 ≤ e → M.1 (m + 1) e.toNat = if 280 ≤ e ∧ e < i then M0.1 (m + 1) (2600 + e).toNat else M0.1 (m + 1) e.toNat) → ∃ M1, lX11_years_102 m k (iI i) M = some (iI c, stI (stI M1 m 16 (iI 0)) m 2 (iI 0)) ∧ M1.1 m 18 = iI 0 ∧ Fr (Rg (m + 1) (m + 1)) M M1 ∧ ∀ e : Int, 0 ≤ e → M1.1 (m + 1) e.toNat = if 280 ≤ e ∧ e < 645 then M0.1 (m + 1) (2600 + e).toNat else M0.1 (m + 1) e.toNat := by
  have z6 : (645 : Int32) = iI 645 := rfl
  have z26 : (2600 : Int32) = iI 2600 := rfl
  refine lup (P := fun k i => 280 ≤ i → ∀ M, M.1 m 18 = iI 0 → M.1 m 22 = iI c → (∀ e : Int, 0 ≤ e → M.1 (m + 1) e.toNat = if 280 ≤ e ∧ e < i then M0.1 (m + 1) (2600 + e).toNat else M0.1 (m + 1) e.toNat) → ∃ M1, lX11_years_102 m k (iI i) M = some (iI c, stI (stI M1 m 16 (iI 0)) m 2 (iI 0)) ∧ M1.1 m 18 = iI 0 ∧ Fr (Rg (m + 1) (m + 1)) M M1 ∧ ∀ e : Int, 0 ≤ e → M1.1 (m + 1) e.toNat = if 280 ≤ e ∧ e < 645 then M0.1 (m + 1) (2600 + e).toNat else M0.1 (m + 1) e.toNat) (fun k _ M h18 h22 h => ⟨M, ?_, h18, Fr.refl M, h⟩) (fun k i i0 i1 ih i2 M h18 h22 h => ?_)
  · rw [lX11_years_102, z6, if_pos (by rw [iI_le (by omega) (by omega)]; omega), h22, m_taken h18 (by omega), if_pos rfl, bdP]
  · obtain ⟨M1, r1, r2, r3, r4⟩ := ih (by omega) (stI M (m + 1) i.toNat (M.1 (m + 1) (2600 + i).toNat)) (by rw [rI_ng (by omega)]; exact h18) (by rw [rI_ng (by omega)]; exact h22) (fun e e0 => by
      by_cases q : e = i
      · rw [if_pos (by omega), q, rI_at rfl rfl, h (2600 + i) (by omega), if_neg (by omega)]
      · rw [rI_nk (by omega), h e e0]
        by_cases q2 : 280 ≤ e ∧ e < i
        · rw [if_pos q2, if_pos (by omega)]
        · rw [if_neg q2, if_neg (by omega)])
    refine ⟨M1, ?_, r2, (Fr.stI ⟨by omega, by omega⟩ (Fr.refl M)).trans r3, r4⟩
    rw [lX11_years_102, z6, if_neg (by rw [iI_le (by omega) (by omega)]; omega), z26, iI_add, ixkI (by omega), ixkI (by omega), iI_nat (by omega), iI_nat (by omega), nm_eq, k_1, iI_add]
    exact r1
theorem m_yearsNo {φ : Nat} {fk : Int} (h : M.1 m 18 = iI fk) (hf : 1 ≤ fk ∧ fk ≤ 99) : kYM φ m M = some (iI (-1), stI (stI M m 16 (iI fk)) m 2 (iI 9)) := by
  have nz : ¬ (iI fk = (0 : Int32)) := by
    show ¬ (iI fk = iI 0)
    rw [iI_eq (by omega) (by omega)]
    omega
  unfold kYM
  rw [jn_eq, h, if_neg nz]
  show (if M.1 m 18 = 0 then _ else bd (fX11_taken m (M.1 m 22) M) fun v11 M12 => some (v11, M12)) = _
  rw [h, if_neg nz, m_taken h (by omega), if_neg (by omega), bdP]
theorem m_yearsOpen {φ : Nat} {B : Int → Int} {p N c d : Int} {Y : Yr} {U : Int → Int} (hB : HB B n) (hd : 0 < d ∧ d ≤ 3) (S : MYs m B n p F nn N c d Y U M) : ∃ M1, kYM φ m M = kYM φ m M1 ∧ M1.1 m 18 = iI (fkT (tok B n p) 2) ∧ M1.1 m 17 = iI (tok B n p).2.1 ∧ RW m M M1 := by
  have e0 := m_fails hB.2 S.1.1 S.1.2.2.2 2
  have e0' : fX11_fails m (2 : Int32) M = _ := e0
  have f1 := fkT_1 (tok B n p) (k := 2) (by omega)
  have g18 : (stI (stI M m 18 (iI (fkT (tok B n p) 2))) m 17 (iI (tok B n p).2.1)).1 m 18 = iI (fkT (tok B n p) 2) := by rw [rI_nk (by omega)]; exact rI_at rfl rfl
  refine ⟨_, ?_, g18, rI_at rfl rfl, RW.fl M _ _⟩
  have n0 : ¬ (iI d ≤ (0 : Int32)) := by
    show ¬ (iI d ≤ iI 0)
    rw [iI_le (by omega) (by omega)]
    omega
  rw [m_yearsNo g18 f1]
  have nz : ¬ (iI (fkT (tok B n p) 2) = (0 : Int32)) := by
    show ¬ (iI (fkT (tok B n p) 2) = iI 0)
    rw [iI_eq (by omega) (by omega)]
    omega
  unfold kYM
  rw [jn_eq, S.1.2.2.2, if_pos i0e, S.2.2.1.1, if_neg n0, e0', bdP]
  show (if (stI (stI M m 18 (iI (fkT (tok B n p) 2))) m 17 (iI (tok B n p).2.1)).1 m 18 = 0 then _ else bd (fX11_taken m ((stI (stI M m 18 (iI (fkT (tok B n p) 2))) m 17 (iI (tok B n p).2.1)).1 m 22) (stI (stI M m 18 (iI (fkT (tok B n p) 2))) m 17 (iI (tok B n p).2.1))) fun v11 M12 => some (v11, M12)) = _
  rw [g18, if_neg nz, m_taken g18 (by omega), if_neg (by omega), bdP]
theorem m_yearsYes {φ : Nat} (hφ : 2000 < φ) {B : Int → Int} {p N c : Int} {Y : Yr} {U : Int → Int} (D : YDw F Y N c 0 U) (S : MYs m B n p F nn N c 0 Y U M) : ∃ M1, kYM φ m M = some (iI c, stI (stI M1 m 16 (iI 0)) m 2 (iI 0)) ∧ YS m 0 N Y M1 ∧ (∀ e : Int, 0 ≤ e → e < 280 → e ≠ 4 → M1.1 (m + 1) e.toNat = M.1 (m + 1) e.toNat) ∧ (∀ e : Int, 650 ≤ e → M1.1 (m + 1) e.toNat = M.1 (m + 1) e.toNat) ∧ Fr (Rg (m + 1) (m + 1)) M M1 := by
  have nb := D.1
  obtain ⟨s1, s2, ⟨s3, s4⟩, s5⟩ := S
  obtain ⟨M3, hM3⟩ : ∃ M3, M3 = stI M (m + 1) (Int.toNat 4) (iI N) := ⟨_, rfl⟩
  have h18 : M3.1 m 18 = iI 0 := by rw [hM3, rI_ng (by omega)]; exact s1.2.2.2
  have h22 : M3.1 m 22 = iI c := by rw [hM3, rI_ng (by omega)]; exact s4
  obtain ⟨M1, r1, r2, r3, r4⟩ := m_years102 (m := m) M3 (c := c) (by omega) φ 280 (by omega) (by omega) (by omega) (by omega) M3 h18 h22 (fun e e0 => by rw [if_neg (by omega)])
  have p3 : ∀ e : Int, 0 ≤ e → e ≠ 4 → M3.1 (m + 1) e.toNat = M.1 (m + 1) e.toNat := fun e e0 e1 => by rw [hM3, rI_nk (by omega)]
  refine ⟨M1, ?_, ⟨?_, fun x k x0 x1 k0 k1 => ?_⟩, fun e e0 e1 e4 => by rw [r4 e e0, if_neg (by omega)]; exact p3 e e0 e4, fun e e0 => by rw [r4 e (by omega), if_neg (by omega)]; exact p3 e (by omega) (by omega), (show Fr (Rg (m + 1) (m + 1)) M M3 by rw [hM3]; exact Fr.stI ⟨by omega, by omega⟩ (Fr.refl M)).trans r3⟩
  · have ix : ∀ E : Option (Int32 × Mem), ixk (2604 : Int32) 3900 E = E := fun E => ixkI (i := 2604) (by omega)
    have ix4 : ∀ E : Option (Int32 × Mem), ixk (4 : Int32) 3900 E = E := fun E => ixkI (i := 4) (by omega)
    have e26 : M.1 (m + 1) (2604 : Int32).toNatClampNeg = iI N := s2.1
    have h3 : stI M (m + 1) (4 : Int32).toNatClampNeg (iI N) = M3 := hM3.symm
    have q0 : (iI 0 : Int32) ≤ (0 : Int32) := by decide
    unfold kYM
    rw [jn_eq, s1.2.2.2, if_pos i0e, s3, if_pos q0]
    show (if M.1 m 18 = 0 then ixk (2604 : Int32) 3900 (ixk (4 : Int32) 3900 (nm (stI M (m + 1) (4 : Int32).toNatClampNeg (M.1 (m + 1) (2604 : Int32).toNatClampNeg)) (fun M13 => lX11_years_102 m φ (280 : Int32) M13))) else _) = _
    rw [s1.2.2.2, if_pos i0e, ix, ix4, e26, h3, nm_eq]
    exact r1
  · have := r4 4 (by omega)
    rw [if_neg (by omega), hM3, rI_at rfl rfl] at this
    exact this
  · rw [r4 _ (by omega), if_pos (by omega), p3 _ (by omega) (by omega), show 2600 + (0 + (280 + 6 * x + k)) = 2880 + 6 * x + k by omega]
    exact s2.2 x k x0 x1 k0 k1
end YCL
