/-! a test's sign, on both sides -/
def kSn (φ m : Nat) (v : Int) (M7 : Mem) : Option (Int32 × Mem) := (fX11_isSign m (60 : Int32) M7).bind fun v8 =>
 jn (ixk (iI (v + 5)) 3900 (nm (stI M7 (m + 1) (iI (v + 5)).toNatClampNeg (M7.1 m 15)) (fun M10 =>
 bd (fX11_ahead φ m M10) fun vu11 M12 => some (iI 1, M12)))) (fun J9 => if v8 = 0 then
 (fX11_isSign m (62 : Int32) M7).bind fun v16 =>
 if v16 = 0 then
 (fX11_isSign m (61 : Int32) M7).bind fun v17 =>
 if v17 = 0 then
 bd (fX11_fails m (2 : Int32) M7) fun v18 M19 =>
 if v18 = 0 ∨ v18 = 1 then some (v18, M19) else none
 else
 J9
 else
 J9
 else
 J9)
section YG
variable {B : Int → Int} {n p N : Int} {F : Fld} {nn : NMs}
theorem y_sign {φ : Nat} (hφ : 2000 < φ) (hB : HB B n) (hp : 0 ≤ p ∧ p ≤ n) (hN : 0 ≤ N ∧ N < 60) : PPy (fun yt M => fX9_passComparison yt (iI N) M) (fun m M => kSn φ m (2880 + 6 * N) M) B n p F nn N 3 5 (fun x => 60 ≤ x ∧ x ≤ 62) := by
  have nb := nx_b hB hp
  have w := hB.w hp
  have sg : ∀ c, (tok B n p).1 = 3 ∧ (tok B n p).2.2.1 = c → isSg (tok B n p) c = true := fun c h => decide_eq_true h
  have sn : ∀ c, ¬ ((tok B n p).1 = 3 ∧ (tok B n p).2.2.1 = c) → isSg (tok B n p) c = false := fun c h => decide_eq_false h
  have cs : ∀ {t yt g ys : Nat} {M : Mem}, CYo t yt g ys B n p F nn M → ∀ c : Int, 0 ≤ c ∧ c ≤ 255 → fX6_isSign t (iI c) M = some (bI (isSg (tok B n p) c)) := fun S c hc => c_isSign w S.1 hc
  have ms : ∀ {m : Nat} {M : Mem}, MYo m B n p F nn M → ∀ c : Int, 0 ≤ c ∧ c ≤ 255 → fX11_isSign m (iI c) M = some (bI (isSg (tok B n p) c)) := fun S c hc => m_isSign hB.2 S.1 hc
  have k60 : (60 : Int32) = iI 60 := rfl
  have k61 : (61 : Int32) = iI 61 := rfl
  have k62 : (62 : Int32) = iI 62 := rfl
  by_cases q : (tok B n p).1 = 3 ∧ (tok B n p).2.2.1 = 60 ∨ (tok B n p).1 = 3 ∧ (tok B n p).2.2.1 = 62 ∨ (tok B n p).1 = 3 ∧ (tok B n p).2.2.1 = 61
  · obtain ⟨c, hc⟩ : ∃ c, c = (tok B n p).2.2.1 := ⟨_, rfl⟩
    have c0 : 60 ≤ c ∧ c ≤ 62 := by omega
    have t3 : (tok B n p).1 = 3 := by omega
    refine Or.inr ⟨c, nx B n p, ⟨nb.2.1, nb.1.2⟩, c0, fun t yt g ys M e S => ?_, fun m M S => ?_⟩
    · have h2 := e.2
      obtain ⟨v, ev, ev2⟩ := c_value S.1
      have ev2 := ev2 (by omega)
      rw [← hc] at ev2
      rw [ev2] at ev
      have S6 := S.st (N := N) e (j := 3) (by omega) (iI c)
      obtain ⟨M1, r1, r2, r3⟩ := c_goOn S6.1
      have a0 : cRw t ys N M (stI M (ys + 3) N.toNat (iI c)) := cRw.st (by omega) (by omega) M _
      have a1 : cRw t ys N (stI M (ys + 3) N.toNat (iI c)) M1 := r3.crw (by omega)
      have l2 : (stI M (ys + 3) N.toNat (iI c)).2.2 yt 2 = some t := S.2.2.2.1
      obtain ⟨J, hJ⟩ : ∃ J, J = ((ldr 8 (M.2.2 yt 4)).bind fun vr4 => (ldr 6 (M.2.2 yt 2)).bind fun vr5 => (fX6_value vr5 M).bind fun v6 => ixk (iI N) 60 (nm (stI M (vr4 + 3) (iI N).toNatClampNeg v6) (fun M7 => (ldr 6 (M7.2.2 yt 2)).bind fun vr8 => bd (fX6_goOn vr8 M7) fun vu9 M10 => some ((1 : Int32), M10)))) := ⟨_, rfl⟩
      have ej : J = some (iI 1, M1) := by
        rw [hJ, S.2.2.2.2.2, ldr_ok e.1.2.2, sbind, S.2.2.2.1, ldr_ok e.1.1, sbind, ev, sbind, ixkI (by omega), iI_nat (by omega), nm_eq, l2, ldr_ok e.1.1, sbind, r1, bdP]
        rfl
      refine ⟨M1, ?_, S6.go (N := N) e r2 a1, a0.trans a1, fun i i0 i1 => by rw [(r3.2.2 (ys + i) (by omega)).1]⟩
      show fX9_passComparison yt (iI N) M = some (iI 1, M1)
      unfold fX9_passComparison
      rw [← hJ, S.2.2.2.1, ldr_ok e.1.1, sbind, k60, cs S 60 (by omega), sbind, jn_eq]
      rcases q with q | q | q
      · rw [sg 60 q, bI_t, if_neg i1n]
        exact ej
      · rw [sn 60 (by omega), bI_f, if_pos i0e, sbind, k62, cs S 62 (by omega), sbind, sg 62 q, bI_t, if_neg i1n]
        exact ej
      · rw [sn 60 (by omega), bI_f, if_pos i0e, sbind, k62, cs S 62 (by omega), sbind, sn 62 (by omega), bI_f, if_pos i0e, sbind, k61, cs S 61 (by omega), sbind, sg 61 q, bI_t, if_neg i1n]
        exact ej
    · have r15 := S.1.2.2.2.2.2.2 (Or.inr t3)
      rw [← hc] at r15
      have fr : Fr (fun z => z = m + 1) M (stI M (m + 1) (2880 + 6 * N + 5).toNat (iI c)) := Fr.stI rfl (Fr.refl M)
      obtain ⟨M1, r1, r2, r3⟩ := m_goOn hφ hB.1 hB.2 (S.1.fr fr (by omega) (by omega))
      obtain ⟨s1, s2, s3⟩ := S.ah (e := 2880 + 6 * N + 5) (by omega) r2 r3
      obtain ⟨J, hJ⟩ : ∃ J, J = (ixk (iI (2880 + 6 * N + 5)) 3900 (nm (stI M (m + 1) (iI (2880 + 6 * N + 5)).toNatClampNeg (M.1 m 15)) (fun M10 => bd (fX11_ahead φ m M10) fun vu11 M12 => some (iI 1, M12)))) := ⟨_, rfl⟩
      have ej : J = some (iI 1, M1) := by
        rw [hJ, ixkI (by omega), iI_nat (by omega), r15, nm_eq, r1, bdP]
      refine ⟨M1, ?_, s1, s2, s3⟩
      show kSn φ m (2880 + 6 * N) M = some (iI 1, M1)
      unfold kSn
      rw [← hJ, k60, ms S 60 (by omega), sbind, jn_eq]
      rcases q with q | q | q
      · rw [sg 60 q, bI_t, if_neg i1n]
        exact ej
      · rw [sn 60 (by omega), bI_f, if_pos i0e, k62, ms S 62 (by omega), sbind, sg 62 q, bI_t, if_neg i1n]
        exact ej
      · rw [sn 60 (by omega), bI_f, if_pos i0e, k62, ms S 62 (by omega), sbind, sn 62 (by omega), bI_f, if_pos i0e, k61, ms S 61 (by omega), sbind, sg 61 q, bI_t, if_neg i1n]
        exact ej
  · have n60 := sn 60 (fun h => q (Or.inl h))
    have n62 := sn 62 (fun h => q (Or.inr (Or.inl h)))
    have n61 := sn 61 (fun h => q (Or.inr (Or.inr h)))
    refine Or.inl ⟨fkT (tok B n p) 2, (tok B n p).2.1, fkT_1 (tok B n p) (k := 2) (by omega), fun t yt g ys M e S => CFail.of M ?_, fun m M S => MFail.of M ?_⟩
    · have cr : fX6_refuseToken t (2 : Int32) M = _ := c_refuse w S.1 2
      show fX9_passComparison yt (iI N) M = _
      unfold fX9_passComparison
      rw [S.2.2.2.1, ldr_ok e.1.1, sbind, k60, cs S 60 (by omega), sbind, jn_eq, n60, bI_f, if_pos i0e, sbind, k62, cs S 62 (by omega), sbind, n62, bI_f, if_pos i0e, sbind, k61, cs S 61 (by omega), sbind, n61, bI_f, if_pos i0e, sbind, cr, bdP, if_pos (Or.inl i0e)]
    · have cr : fX11_fails m (2 : Int32) M = _ := m_fails hB.2 S.1 S.2.2.2 2
      show kSn φ m (2880 + 6 * N) M = _
      unfold kSn
      rw [k60, ms S 60 (by omega), sbind, jn_eq, n60, bI_f, if_pos i0e, k62, ms S 62 (by omega), sbind, n62, bI_f, if_pos i0e, k61, ms S 61 (by omega), sbind, n61, bI_f, if_pos i0e, cr, bdP, if_pos (Or.inl i0e)]
end YG
