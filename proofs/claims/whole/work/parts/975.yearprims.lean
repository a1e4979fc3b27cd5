/-! names and numbers of a years' row on both sides -/
def MYo (m : Nat) (B : Int → Int) (n p : Int) (F : Fld) (nn : NMs) (M : Mem) : Prop := RKp m B n p M ∧ MR m 0 F M ∧ NB m 0 F nn M ∧ M.1 m 18 = iI 0
def mRw (m : Nat) (M M1 : Mem) : Prop := (∀ i, i ≠ 12 → i ≠ 13 → i ≠ 14 → i ≠ 15 → M1.1 m i = M.1 m i) ∧ M1.2 = M.2 ∧ (∀ e : Int, 0 ≤ e → e < 2880 → M1.1 (m + 1) e.toNat = M.1 (m + 1) e.toNat) ∧ Fr (fun z => z = m ∨ z = m + 1) M M1
theorem mRw.refl (m : Nat) (M : Mem) : mRw m M M := ⟨fun _ _ _ _ _ => rfl, rfl, fun _ _ _ => rfl, Fr.refl M⟩
theorem mRw.trans {m : Nat} {M M1 M2 : Mem} (a : mRw m M M1) (b : mRw m M1 M2) : mRw m M M2 := ⟨fun i h1 h2 h3 h4 => (b.1 i h1 h2 h3 h4).trans (a.1 i h1 h2 h3 h4), b.2.1.trans a.2.1, fun e h1 h2 => (b.2.2.1 e h1 h2).trans (a.2.2.1 e h1 h2), a.2.2.2.trans b.2.2.2⟩
theorem mRw.rw {m : Nat} {M M1 : Mem} (a : mRw m M M1) : RW m M M1 := ⟨fun i h1 h2 h3 h4 _ _ _ _ => a.1 i h1 h2 h3 h4, by rw [a.2.1], fun e h1 h2 => a.2.2.1 e h1 (by omega), fun e _ _ => by rw [a.2.1], a.2.2.2.mono (fun z q => by omega)⟩
theorem mRw.st {m : Nat} {e : Int} (he : 2880 ≤ e) (M : Mem) (v : Int32) : mRw m M (stI M (m + 1) e.toNat v) := ⟨fun i _ _ _ _ => rI_ng (by omega), rfl, fun k h1 h2 => rI_nk (by omega), Fr.stI (Or.inr rfl) (Fr.refl M)⟩
theorem mAh.mrw {m : Nat} {M M1 : Mem} (a : mAh m M M1) : mRw m M M1 := ⟨a.1, a.2.1, fun e _ _ => by rw [(a.2.2 (m + 1) (by omega)).1], a.2.2.mono (fun z q => Or.inl q)⟩
/-- one reading on both sides: a value goes to the class's array j and the reference's place c of row N -/
def PPy (fc fm : Nat → Mem → Option (Int32 × Mem)) (B : Int → Int) (n p : Int) (F : Fld) (nn : NMs) (N : Int) (j : Nat) (c : Int) (V : Int → Prop) : Prop := (∃ fk fp, (1 ≤ fk ∧ fk ≤ 99) ∧ (∀ t yt g ys M, EY t yt g ys → CYo t yt g ys B n p F nn M → CFail t yt ys 5 fk fp M (fc yt M)) ∧ ∀ m M, MYo m B n p F nn M → MFail m fk fp M (fm m M)) ∨ ∃ x p', (p ≤ p' ∧ p' ≤ n) ∧ V x ∧ (∀ t yt g ys M, EY t yt g ys → CYo t yt g ys B n p F nn M → ∃ M1, fc yt M = some (iI 1, M1) ∧ CYo t yt g ys B n p' F nn M1 ∧ cRw t ys N M M1 ∧ ∀ i, 2 ≤ i → i ≤ 4 → M1.1 (ys + i) = (stI M (ys + j) N.toNat (iI x)).1 (ys + i)) ∧ ∀ m M, MYo m B n p F nn M → ∃ M1, fm m M = some (iI 1, M1) ∧ MYo m B n p' F nn M1 ∧ mRw m M M1 ∧ M1.1 (m + 1) = (stI M (m + 1) (2880 + 6 * N + c).toNat (iI x)).1 (m + 1)
section YP
variable {B : Int → Int} {n p N : Int} {F : Fld} {nn : NMs} {m : Nat} {M : Mem}
theorem MYo.ah {M1 : Mem} {q e : Int} {v : Int32} (S : MYo m B n p F nn M) (he : 2880 ≤ e) (h : RKp m B n q M1) (a : mAh m (stI M (m + 1) e.toNat v) M1) : MYo m B n q F nn M1 ∧ mRw m M M1 ∧ M1.1 (m + 1) = (stI M (m + 1) e.toNat v).1 (m + 1) := by
  have r : mRw m M M1 := (mRw.st he M v).trans a.mrw
  refine ⟨⟨h, S.2.1.sh (fun k k0 k1 => r.2.2.1 _ (by omega) (by omega)), ⟨fun z a b => by rw [r.2.1]; exact S.2.2.1.1 z a b, fun z a b => by rw [r.2.1]; exact S.2.2.1.2.1 z a b, fun z a b => by rw [r.2.1]; exact S.2.2.1.2.2 z a b⟩, by rw [r.1 18 (by omega) (by omega) (by omega) (by omega)]; exact S.2.2.2⟩, r, (a.2.2 (m + 1) (by omega)).1⟩
theorem y_num {φ : Nat} {a b c : Int} (hφ : 2000 < φ) (hB : HB B n) (hp : 0 ≤ p ∧ p ≤ n) (hN : 0 ≤ N ∧ N < 60) (hc : 0 ≤ c ∧ c < 6) (ha : 0 ≤ a ∧ a ≤ 99999) (hb : 0 ≤ b ∧ b ≤ 99999) : PPy (fun yt M => fX9_passNumber yt (iI N) (iI a) (iI b) M) (fun m M => fX11_number φ m (iI (2880 + 6 * N + c)) (iI a) (iI b) M) B n p F nn N 4 c (fun x => a ≤ x ∧ x ≤ b) := by
  have nb := nx_b hB hp
  cases hn : isNu (tok B n p) a b with
  | false =>
    exact Or.inl ⟨_, _, fkT_1 (tok B n p) (nu_1 (tok B n p).1), fun t yt g ys M e S => (c_yNum hB hp e S hN ha hb).1 hn, fun m M S => MFail.of M ((m_num hφ hB.1 hB.2 S.1 S.2.2.2 (to := 2880 + 6 * N + c) (a := a) (b := b) (by omega) ha hb).2 hn)⟩
  | true =>
    have v7 := of_decide_eq_true (p := (tok B n p).1 = 2 ∧ a ≤ (tok B n p).2.2.1 ∧ (tok B n p).2.2.1 ≤ b) hn
    refine Or.inr ⟨(tok B n p).2.2.1, nx B n p, ⟨nb.2.1, nb.1.2⟩, v7.2, fun t yt g ys M e S => (c_yNum hB hp e S hN ha hb).2 hn, fun m M S => ?_⟩
    obtain ⟨M1, r1, r2, r3⟩ := (m_num hφ hB.1 hB.2 S.1 S.2.2.2 (to := 2880 + 6 * N + c) (a := a) (b := b) (by omega) ha hb).1 hn
    obtain ⟨s1, s2, s3⟩ := S.ah (e := 2880 + 6 * N + c) (by omega) r2 r3
    exact ⟨M1, r1, s1, s2, s3⟩
theorem y_hole {φ : Nat} {c : Int} (hφ : 2000 < φ) (hB : HB B n) (hp : 0 ≤ p ∧ p ≤ n) (dw : DX F nn) (hN : 0 ≤ N ∧ N < 60) (hc : 0 ≤ c ∧ c < 6) : PPy (fun yt M => fX9_passHole φ yt (iI N) M) (fun m M => fX11_holeTo φ m (iI (2880 + 6 * N + c)) M) B n p F nn N 2 c (fun x => 0 ≤ x ∧ x < F 0 1 0) := by
  have nb := nx_b hB hp
  have kk := dw.1.n1
  have w := hB.w hp
  have vb0 := fN_bd (nn 1) (N := F 0 1 0) (c := (tok B n p).2.2.2.2) (by omega)
  have mo := fun m M (S : MYo m B n p F nn M) => m_old hφ hB.1 hB.2 S.1 S.2.2.2 (to := 2880 + 6 * N + c) (b := 8) (N := F 0 1 0) (a := nn 1) (by omega) (by omega) (by omega) dw.2.1.2.1 (fun r a b => by have := S.2.2.1.2.1 r a b; rw [Int.zero_add] at this; exact this)
  have em : ∀ m M, MYo m B n p F nn M → ∀ v M1, (v = iI 0 ∨ v = iI 1) → fX11_oldOne φ m (iI 8) (iI (F 0 1 0)) (iI (2880 + 6 * N + c)) M = some (v, M1) → fX11_holeTo φ m (iI (2880 + 6 * N + c)) M = some (v, M1) := fun m M S v M1 hv h => by
    have e1 : M.1 (m + 1) (Int.toNat 1) = iI (F 0 1 0) := S.2.1.1 1 (by omega) (by omega)
    unfold fX11_holeTo
    rw [show (1 : Int32) = iI 1 from rfl, ixkI (by omega), iI_nat (by omega), e1, show (8 : Int32) = iI 8 from rfl, h, bdP]
    exact if_pos hv
  by_cases q : fN (nn 1) (F 0 1 0) (tok B n p).2.2.2.2 = -1
  · refine Or.inl ⟨_, _, fkT_1 (tok B n p) (nf_1 (isNm (tok B n p))), fun t yt g ys M e S => (c_yHole hφ hB hp dw e S hN).1 q, fun m M S => ?_⟩
    obtain ⟨M1, r1, r2⟩ := (mo m M S).1 q
    exact ⟨M1, em m M S _ _ (Or.inl rfl) r1, r2⟩
  · refine Or.inr ⟨fN (nn 1) (F 0 1 0) (tok B n p).2.2.2.2, nx B n p, ⟨nb.2.1, nb.1.2⟩, by omega, fun t yt g ys M e S => (c_yHole hφ hB hp dw e S hN).2 q, fun m M S => ?_⟩
    obtain ⟨M1, r1, r2, r3⟩ := (mo m M S).2 q
    obtain ⟨s1, s2, s3⟩ := S.ah (e := 2880 + 6 * N + c) (by omega) r2 r3
    exact ⟨M1, em m M S _ _ (Or.inr rfl) r1, s1, s2, s3⟩
theorem y_rock {φ : Nat} {c : Int} (hφ : 2000 < φ) (hB : HB B n) (hp : 0 ≤ p ∧ p ≤ n) (dw : DX F nn) (hN : 0 ≤ N ∧ N < 60) (hc : 0 ≤ c ∧ c < 6) : PPy (fun yt M => fX9_passRock φ yt (iI N) M) (fun m M => fX11_rockTo φ m (iI (2880 + 6 * N + c)) M) B n p F nn N 3 c (fun x => 0 ≤ x ∧ x < F 0 0 0) := by
  have nb := nx_b hB hp
  have kk := dw.1.n0
  have w := hB.w hp
  have vb0 := fN_bd (nn 0) (N := F 0 0 0) (c := (tok B n p).2.2.2.2) (by omega)
  have mo := fun m M (S : MYo m B n p F nn M) => m_old hφ hB.1 hB.2 S.1 S.2.2.2 (to := 2880 + 6 * N + c) (b := 0) (N := F 0 0 0) (a := nn 0) (by omega) (by omega) (by omega) dw.2.1.1 (fun r a b => by have := S.2.2.1.1 r a b; exact this)
  have em : ∀ m M, MYo m B n p F nn M → ∀ v M1, (v = iI 0 ∨ v = iI 1) → fX11_oldOne φ m (iI 0) (iI (F 0 0 0)) (iI (2880 + 6 * N + c)) M = some (v, M1) → fX11_rockTo φ m (iI (2880 + 6 * N + c)) M = some (v, M1) := fun m M S v M1 hv h => by
    have e1 : M.1 (m + 1) (Int.toNat 0) = iI (F 0 0 0) := S.2.1.1 0 (by omega) (by omega)
    unfold fX11_rockTo
    rw [show (0 : Int32) = iI 0 from rfl, ixkI (by omega), iI_nat (by omega), e1, h, bdP]
    exact if_pos hv
  by_cases q : fN (nn 0) (F 0 0 0) (tok B n p).2.2.2.2 = -1
  · refine Or.inl ⟨_, _, fkT_1 (tok B n p) (nf_1 (isNm (tok B n p))), fun t yt g ys M e S => (c_yRock hφ hB hp dw e S hN).1 q, fun m M S => ?_⟩
    obtain ⟨M1, r1, r2⟩ := (mo m M S).1 q
    exact ⟨M1, em m M S _ _ (Or.inl rfl) r1, r2⟩
  · refine Or.inr ⟨fN (nn 0) (F 0 0 0) (tok B n p).2.2.2.2, nx B n p, ⟨nb.2.1, nb.1.2⟩, by omega, fun t yt g ys M e S => (c_yRock hφ hB hp dw e S hN).2 q, fun m M S => ?_⟩
    obtain ⟨M1, r1, r2, r3⟩ := (mo m M S).2 q
    obtain ⟨s1, s2, s3⟩ := S.ah (e := 2880 + 6 * N + c) (by omega) r2 r3
    exact ⟨M1, em m M S _ _ (Or.inr rfl) r1, s1, s2, s3⟩
theorem y_fault {φ : Nat} {c : Int} (hφ : 2000 < φ) (hB : HB B n) (hp : 0 ≤ p ∧ p ≤ n) (dw : DX F nn) (hN : 0 ≤ N ∧ N < 60) (hc : 0 ≤ c ∧ c < 6) : PPy (fun yt M => fX9_passFault φ yt (iI N) M) (fun m M => fX11_oldOne φ m (iI 14) (iI (F 0 3 0)) (iI (2880 + 6 * N + c)) M) B n p F nn N 2 c (fun x => 0 ≤ x ∧ x < F 0 3 0) := by
  have nb := nx_b hB hp
  have kk := dw.1.n3
  have w := hB.w hp
  have vb0 := fN_bd (nn 2) (N := F 0 3 0) (c := (tok B n p).2.2.2.2) (by omega)
  have mo := fun m M (S : MYo m B n p F nn M) => m_old hφ hB.1 hB.2 S.1 S.2.2.2 (to := 2880 + 6 * N + c) (b := 14) (N := F 0 3 0) (a := nn 2) (by omega) (by omega) (by omega) dw.2.1.2.2 (fun r a b => by have := S.2.2.1.2.2 r a b; rw [Int.zero_add] at this; exact this)
  by_cases q : fN (nn 2) (F 0 3 0) (tok B n p).2.2.2.2 = -1
  · refine Or.inl ⟨_, _, fkT_1 (tok B n p) (nf_1 (isNm (tok B n p))), fun t yt g ys M e S => (c_yFault hφ hB hp dw e S hN).1 q, fun m M S => ?_⟩
    obtain ⟨M1, r1, r2⟩ := (mo m M S).1 q
    exact ⟨M1, r1, r2⟩
  · refine Or.inr ⟨fN (nn 2) (F 0 3 0) (tok B n p).2.2.2.2, nx B n p, ⟨nb.2.1, nb.1.2⟩, by omega, fun t yt g ys M e S => (c_yFault hφ hB hp dw e S hN).2 q, fun m M S => ?_⟩
    obtain ⟨M1, r1, r2, r3⟩ := (mo m M S).2 q
    obtain ⟨s1, s2, s3⟩ := S.ah (e := 2880 + 6 * N + c) (by omega) r2 r3
    exact ⟨M1, r1, s1, s2, s3⟩
end YP
