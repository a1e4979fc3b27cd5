/-! the class's field -/
def kFC (M7 : Mem) : Option (Int32 × Mem) := (ldr 2 (M7.2.2 0 7)).bind fun vr8 =>
 (ldr 2 (M7.2.2 0 8)).bind fun vr9 =>
 nm (stR M7 0 7 vr9) (fun M10 =>
 nm (stR M10 0 8 vr8) (fun M11 =>
 (ldr 8 (M11.2.2 0 9)).bind fun vr12 =>
 bd (fX8_forget vr12 M11) fun vu13 M14 =>
 bd (fX0_turnStale (0 + 57) M14) fun vu15 M16 =>
 (ldr 2 (M16.2.2 0 7)).bind fun vr17 =>
 bd (fX10_answer 0 (M16.1 vr17 4) M16) fun v18 M19 =>
 some (v18, M19)))
section CFD
variable {M : Mem} {B : Int → Int} {n p : Int} {F : Fld} {nn : NMs} {g gs y : Nat}
/-- the class's objects: its ground, the spare one, its years -/
def CE (g gs y : Nat) (M : Mem) : Prop := (M.2.2 0 7 = some g ∧ M.2.2 0 8 = some gs ∧ M.2.2 0 9 = some y) ∧ (isO 2 g ∧ isO 2 gs ∧ isO 8 y) ∧ 9 < gs ∧ gs + 13 < 40 ∧ 40 ≤ y ∧ y + 5 < 57
def cFd (gs y : Nat) (M M1 : Mem) : Prop := (∀ i, i ≠ 0 → M1.1 0 i = M.1 0 i) ∧ M1.2.1 0 = M.2.1 0 ∧ (∀ i, i ≠ 7 → i ≠ 8 → M1.2.2 0 i = M.2.2 0 i) ∧ Fr (fun z => z = 0 ∨ (2 ≤ z ∧ z ≤ 9) ∨ (gs ≤ z ∧ z ≤ gs + 13) ∨ z = y ∨ z = 57) M M1
/-- and where the text is refused -/
def cFn (gs : Nat) (M M1 : Mem) : Prop := (∀ i, i ≠ 0 → M1.1 0 i = M.1 0 i) ∧ M1.2.1 0 = M.2.1 0 ∧ M1.2.2 0 = M.2.2 0 ∧ Fr (fun z => z = 0 ∨ (2 ≤ z ∧ z ≤ 9) ∨ (gs ≤ z ∧ z ≤ gs + 13)) M M1
theorem o6_2 : isO 6 (0 + 2) := rfl
theorem c_env (E : CE g gs y M) : ENV (0 + 2) (0 + 8) gs := ⟨by omega, by have := E.2.2.1; omega, o6_2, E.2.1.2.1⟩
theorem c_fieldSt {φ : Nat} (hφ : 2000 < φ) {Q : TPS} (wq : WTp Q) (hq : TpC (0 + 2) Q M) {n : Int} (hn : 0 ≤ n ∧ n ≤ Q.1) (E : CE g gs y M) (nn : NMs) : ∃ M5, CSt (0 + 2) (0 + 8) gs Q.2 n 0 F00 nn M5 ∧ M5.1 (0 + 2) 8 = iI 1 ∧ M5.1 (0 + 2) 1 = iI 0 ∧ Fr (fun z => (2 ≤ z ∧ z ≤ 8) ∨ z = gs) M M5 ∧ fX10_field φ 0 (iI n) M = bd (lX1_isTaken_19 φ (0 + 8) φ (iI 0) M5) fun v6 M7 => if v6 = 0 then bd (fX10_refuse 0 (9 : Int32) M7) fun v20 M21 => some (v20, M21) else kFC M7 := by
  have q0 := wq.1
  obtain ⟨⟨e7, e8, e9⟩, ⟨o7, o8, o9⟩, g1, g2, y1, y2⟩ := E
  obtain ⟨M1, r1, r2, r3, r4, r5, r6, r7⟩ := c_begin hφ (t := 0 + 2) (M := M) (B := Q.2) (n := n) (by omega) wq.2 (fun k k0 k1 => hq.2 k k0 (by omega))
  have l8 : M1.2.2 0 8 = some gs := by rw [(r7 0 (fun q => by have := q.1; omega)).2.2]; exact e8
  obtain ⟨M3, hM3⟩ : ∃ M3, M3 = stR (stR M1 (0 + 8) 1 (0 + 2)) (0 + 8) 2 gs := ⟨_, rfl⟩
  obtain ⟨M5, hM5⟩ : ∃ M5, M5 = stI (stI (stI (stI M3 gs 0 (iI 0)) gs 4 (iI 0)) gs 11 (iI 0)) gs 13 (iI 0) := ⟨_, rfl⟩
  have fr3 : Fr (fun z => z = 8 ∨ z = gs) M1 M3 := by
    rw [hM3]
    exact Fr.stR (Or.inl (by omega)) (Fr.stR (Or.inl (by omega)) (Fr.refl M1))
  have fr5 : Fr (fun z => z = 8 ∨ z = gs) M1 M5 := by
    refine fr3.trans ?_
    rw [hM5]
    exact Fr.stI (Or.inr rfl) (Fr.stI (Or.inr rfl) (Fr.stI (Or.inr rfl) (Fr.stI (Or.inr rfl) (Fr.refl M3))))
  have t2 := fr5 (0 + 2) (by omega)
  have p2 : M3.2.2 (0 + 8) 2 = some gs := by rw [hM3]; exact rR_at rfl rfl
  have p1 : M5.2.2 (0 + 8) 1 = some (0 + 2) := by
    rw [hM5]
    show M3.2.2 (0 + 8) 1 = some (0 + 2)
    rw [hM3, rR_nk (by omega)]
    exact rR_at rfl rfl
  have p2' : M5.2.2 (0 + 8) 2 = some gs := by rw [hM5]; exact p2
  have c0 : M5.1 gs 0 = iI 0 := by
    rw [hM5, rI_nk (by omega), rI_nk (by omega), rI_nk (by omega)]
    exact rI_at rfl rfl
  have c4 : M5.1 gs 4 = iI 0 := by
    rw [hM5, rI_nk (by omega), rI_nk (by omega)]
    exact rI_at rfl rfl
  have c11 : M5.1 gs 11 = iI 0 := by
    rw [hM5, rI_nk (by omega)]
    exact rI_at rfl rfl
  have c13 : M5.1 gs 13 = iI 0 := by
    rw [hM5]
    exact rI_at rfl rfl
  refine ⟨M5, ⟨r2.fr fr5 (fun z hz q => by omega), ?_, ⟨fun r a b => by rw [f00] at b; omega, fun r a b => by rw [f00] at b; omega, fun r a b => by rw [f00] at b; omega⟩, p1, p2'⟩, by rw [t2.1]; exact r4, by rw [t2.1]; exact r3, (r7.mono (fun z q => Or.inl ⟨by have := q.1; omega, by have := q.2; omega⟩)).trans (fr5.mono (fun z q => by omega)), ?_⟩
  · unfold GR
    simp only [f00]
    exact ⟨⟨c0, c4, c11, c13⟩, fun r a b => by omega, fun a b h1 h2 => by omega, fun h h1 h2 => by omega, fun h l h1 h2 => by omega, fun t k h1 h2 => by omega, fun f k h1 h2 => by omega, fun f h1 h2 => by omega⟩
  · have eT : fX1_isTaken φ (0 + 8) (0 + 2) gs M1 = lX1_isTaken_19 φ (0 + 8) φ (iI 0) M5 := by
      unfold fX1_isTaken fX2_clear
      simp only [nm_eq]
      rw [← hM3, p2, ldr_ok o8, sbind, bdP, hM5]
      rfl
    unfold fX10_field
    rw [if_neg (ng0 (by omega)), hq.1, if_pos (by rw [iI_le (by omega) (by omega)]; omega), r1, bdP, l8, ldr_ok o8, sbind, eT]
    rfl
theorem c_fieldNo {φ : Nat} (hφ : 2000 < φ) {Q : TPS} (wq : WTp Q) (hq : TpC (0 + 2) Q M) {n fk fp : Int} (hn : 0 ≤ n ∧ n ≤ Q.1) (E : CE g gs y M) (nn : NMs) (h : ∀ t ft gs M, ENV t ft gs → CSt t ft gs Q.2 n 0 F00 nn M → CFail t ft gs 13 fk fp M (lX1_isTaken_19 φ ft φ (iI 0) M)) : ∃ M1, fX10_field φ 0 (iI n) M = some (iI (-1), stI M1 0 0 (iI 9)) ∧ FC (0 + 2) (true, fk, fp) M1 ∧ M1.1 (0 + 2) 1 = iI 0 ∧ cFn gs M M1 := by
  obtain ⟨M5, S, c8, c1, fr, e5⟩ := c_fieldSt hφ wq hq hn E nn
  obtain ⟨M7, s1, s2, s3, s4⟩ := h _ _ _ M5 (c_env E) S
  obtain ⟨g1, g2, y1, y2⟩ := E.2.2
  have t0 := s4.2.2 0 (by omega)
  have t1 := fr 0 (by omega)
  refine ⟨M7, ?_, ⟨by rw [s4.1 8 (by omega) (by omega) (by omega), bI_t]; exact c8, fun _ => ⟨s2, s3⟩⟩, by rw [s4.1 1 (by omega) (by omega) (by omega)]; exact c1, ⟨fun i _ => by rw [t0.1, t1.1], t0.2.1.trans t1.2.1, t0.2.2.trans t1.2.2, (fr.mono (fun z q => by omega)).trans (s4.2.2.mono (fun z q => by omega))⟩⟩
  rw [e5, s1, bdP, if_pos i0e]
  rfl
theorem c_fieldYes {φ : Nat} (hφ : 2000 < φ) {Q : TPS} (wq : WTp Q) (hq : TpC (0 + 2) Q M) {n p' : Int} {F' : Fld} {nn' : NMs} (hn : 0 ≤ n ∧ n ≤ Q.1) (E : CE g gs y M) (nn : NMs) (h : ∀ t ft gs M, ENV t ft gs → CSt t ft gs Q.2 n 0 F00 nn M → ∃ M1, lX1_isTaken_19 φ ft φ (iI 0) M = some (iI 1, M1) ∧ CSt t ft gs Q.2 n p' F' nn' M1 ∧ RCw t ft gs 13 M M1) : ∃ M1, fX10_field φ 0 (iI n) M = some (iI (F' 0 1 0), stI M1 0 0 (iI 0)) ∧ FC (0 + 2) (true, 0, -1) M1 ∧ M1.1 (0 + 2) 1 = iI 0 ∧ GR gs F' M1 ∧ NCn gs F' nn' M1 ∧ M1.2.2 0 7 = some gs ∧ M1.2.2 0 8 = some g ∧ M1.1 y 0 = iI 0 ∧ M1.1 57 1 = iI 1 ∧ cFd gs y M M1 := by
  obtain ⟨M5, S, c8, c1, fr, e5⟩ := c_fieldSt hφ wq hq hn E nn
  obtain ⟨M7, s1, s2, s4⟩ := h _ _ _ M5 (c_env E) S
  obtain ⟨⟨e7, e8, e9⟩, ⟨o7, o8, o9⟩, g1, g2, y1, y2⟩ := E
  have t0 := s4.2.2 0 (by omega)
  have t1 := fr 0 (by omega)
  have l7 : M7.2.2 0 7 = some g := by rw [t0.2.2, t1.2.2]; exact e7
  have l8 : M7.2.2 0 8 = some gs := by rw [t0.2.2, t1.2.2]; exact e8
  have l9 : M7.2.2 0 9 = some y := by rw [t0.2.2, t1.2.2]; exact e9
  obtain ⟨M11, hM11⟩ : ∃ M11, M11 = stR (stR M7 0 7 gs) 0 8 g := ⟨_, rfl⟩
  obtain ⟨M16, hM16⟩ : ∃ M16, M16 = stI (stI (stI (stI M11 y 0 (iI 0)) y 1 (iI 0)) y 2 (iI 0)) (0 + 57) 1 (iI 1) := ⟨_, rfl⟩
  have f11 : Fr (fun z => z = 0) M7 M11 := by
    rw [hM11]
    exact Fr.stR rfl (Fr.stR rfl (Fr.refl M7))
  have f16 : Fr (fun z => z = y ∨ z = 57) M11 M16 := by
    rw [hM16]
    exact Fr.stI (Or.inr (by omega)) (Fr.stI (Or.inl rfl) (Fr.stI (Or.inl rfl) (Fr.stI (Or.inl rfl) (Fr.refl M11))))
  have fr16 : Fr (fun z => z = 0 ∨ z = y ∨ z = 57) M7 M16 := (f11.mono (fun z q => Or.inl q)).trans (f16.mono (fun z q => Or.inr q))
  have z0 := f16 0 (by omega)
  have k9 : M11.2.2 0 9 = some y := by rw [hM11, rR_nk (by omega), rR_nk (by omega)]; exact l9
  have k8 : M16.2.2 0 8 = some g := by rw [z0.2.2, hM11]; exact rR_at rfl rfl
  have k7 : M16.2.2 0 7 = some gs := by rw [z0.2.2, hM11, rR_nk (by omega)]; exact rR_at rfl rfl
  have G := s2.2.1.fr fr16 (fun z a b q => by omega)
  have N := s2.2.2.1.fr fr16 (by omega) (by omega) (by omega)
  have t2 := fr16 (0 + 2) (by omega)
  have pl := s2.1.pl
  have y0 : M16.1 y 0 = iI 0 := by
    rw [hM16, rI_ng (by omega), rI_nk (by omega), rI_nk (by omega)]
    exact rI_at rfl rfl
  have s57 : M16.1 57 1 = iI 1 := by
    rw [hM16]
    exact rI_at rfl rfl
  refine ⟨M16, ?_, ⟨by rw [t2.1, s4.1 8 (by omega) (by omega) (by omega), bI_t]; exact c8, fun _ => ⟨by rw [t2.1]; exact pl.1, by rw [t2.1]; exact pl.2⟩⟩, by rw [t2.1, s4.1 1 (by omega) (by omega) (by omega)]; exact c1, G, N, k7, k8, y0, s57, ⟨fun i _ => by rw [z0.1, hM11]; show M7.1 0 i = _; rw [t0.1, t1.1], ?_, fun i i7 i8 => by rw [z0.2.2, hM11, rR_nk i8, rR_nk i7, t0.2.2, t1.2.2], ((fr.mono (fun z q => by omega)).trans (s4.2.2.mono (fun z q => by omega))).trans (fr16.mono (fun z q => by omega))⟩⟩
  · rw [e5, s1, bdP, if_neg i1n]
    have ek : M16.1 gs 4 = iI (F' 0 1 0) := G.1.2.1
    unfold kFC fX8_forget fX0_turnStale fX10_answer
    simp only [nm_eq]
    rw [l7, ldr_ok o7, sbind, l8, ldr_ok o8, sbind, ← hM11, k9, ldr_ok o9, sbind, bdP]
    have hM16' : stI (stI (stI (stI M11 y 0 (0 : Int32)) y 1 (0 : Int32)) y 2 (0 : Int32)) (0 + 57) 1 (1 : Int32) = M16 := hM16.symm
    rw [bdP, hM16', k7, ldr_ok o8, sbind, ek, bdP]
    rfl
  · rw [z0.2.1, hM11]
    show M7.2.1 0 = _
    rw [t0.2.1, t1.2.1]
theorem c_fieldOut {φ : Nat} {Q : TPS} (wq : WTp Q) (hq : TpC (0 + 2) Q M) {n : Int} (hn : ¬ (0 ≤ n ∧ n ≤ Q.1)) (hb : -2147483648 ≤ n ∧ n < 2147483648) : fX10_field φ 0 (iI n) M = some (iI (-1), stI M 0 0 (iI 1)) := by
  have q0 := wq.1
  unfold fX10_field fX10_refuse
  by_cases h : n < 0
  · rw [if_pos (lt0 (by omega)), nm_eq, bdP]
    rfl
  · rw [if_neg (ng0 (by omega)), hq.1, if_neg (by rw [iI_le (by omega) (by omega)]; omega), nm_eq, bdP]
    rfl
theorem m_fieldOut {φ m : Nat} {Q : TPS} (wq : WTp Q) (hq : TpM m Q M) {n : Int} (hn : ¬ (0 ≤ n ∧ n ≤ Q.1)) (hb : -2147483648 ≤ n ∧ n < 2147483648) : fX11_field φ m (iI n) M = some (iI (-1), stI M m 2 (iI 1)) := by
  unfold fX11_field
  rw [m_beginsNo wq hq hn hb, bdP, if_pos i0e]
  rfl
end CFD
