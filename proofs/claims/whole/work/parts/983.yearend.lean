/-! the class's end of a when or an each: both mates are told -/
def kEc (yt : Nat) (M8 : Mem) : Option (Int32 × Mem) := (ldr 6 (M8.2.2 yt 2)).bind fun vr9 =>
 bd (fX6_goOn vr9 M8) fun vu10 M11 =>
 (ldr 6 (M11.2.2 yt 2)).bind fun vr12 =>
 bd (fX6_passSemicolon vr12 M11) fun v13 M14 =>
 if v13 = 0 ∨ v13 = 1 then some (v13, M14) else none
section YE
variable {yt ys : Nat} {N c d o : Int} {M : Mem}
theorem c_endRow (hy : yt + 1 < ys) (hs : isO 8 ys) (h4 : M.2.2 yt 4 = some ys) (hN : 0 ≤ N ∧ N < 60) (h2 : M.1 ys 2 = iI N) (h1 : M.1 ys 1 = iI c) (hd : 0 < d ∧ d ≤ 3) (hD : M.1 yt 1 = iI d) (ho : 0 ≤ o ∧ o < N) (hO : M.1 (yt + 1) (d - 1).toNat = iI o) : ∃ M8, fX9_passEnd yt M = kEc yt M8 ∧ M8.1 yt 1 = iI (d - 1) ∧ M8.1 (yt + 1) = M.1 (yt + 1) ∧ M8.1 ys 2 = iI (N + 1) ∧ M8.1 ys 1 = iI c ∧ M8.1 (ys + 1) N.toNat = iI 22 ∧ M8.1 (ys + 5) N.toNat = iI o ∧ M8.1 (ys + 5) o.toNat = iI N ∧ (∀ j i, 1 ≤ j → j ≤ 5 → i < N.toNat → (j ≠ 5 ∨ i ≠ o.toNat) → M8.1 (ys + j) i = M.1 (ys + j) i) ∧ M8.2 = M.2 ∧ Fr (fun z => z = yt ∨ (ys ≤ z ∧ z ≤ ys + 5)) M M8 := by
  obtain ⟨M1, hM1⟩ : ∃ M1, M1 = stI M yt 1 (iI (d - 1)) := ⟨_, rfl⟩
  have f1 : Fr (fun z => z = yt) M M1 := by rw [hM1]; exact Fr.stI rfl (Fr.refl M)
  have e22 : M1.2 = M.2 := by rw [hM1]; rfl
  have t1 := fun z (h : z ≠ yt) => (f1 z h).1
  obtain ⟨M4, a1, a2, a3, a4, a5, a6, a7, a8, a9⟩ := c_add (ys := ys) (M := M1) (c := c) (k := 22) hN (by rw [t1 ys (by omega)]; exact h2) (by rw [t1 ys (by omega)]; exact h1) (by omega)
  rw [if_pos rfl] at a3
  have s4 : ∀ z, z < ys → M4.1 z = M1.1 z := fun z h => (a9 z (fun q => by have := q.1; omega)).1
  have dy : M4.1 yt 1 = iI (d - 1) := by rw [s4 yt (by omega), hM1]; exact rI_at rfl rfl
  have oy : M4.1 (yt + 1) (d - 1).toNat = iI o := by rw [s4 (yt + 1) (by omega), t1 (yt + 1) (by omega)]; exact hO
  have l4 : M1.2.2 yt 4 = some ys := by rw [e22]; exact h4
  have l4' : M4.2.2 yt 4 = some ys := by rw [a8]; exact l4
  obtain ⟨M6, hM6⟩ : ∃ M6, M6 = stI M4 (ys + 5) N.toNat (iI o) := ⟨_, rfl⟩
  have l6 : M6.2.2 yt 4 = some ys := by rw [hM6]; exact l4'
  have d6 : M6.1 yt 1 = iI (d - 1) := by rw [hM6, rI_ng (by omega)]; exact dy
  have o6 : M6.1 (yt + 1) (d - 1).toNat = iI o := by rw [hM6, rI_ng (by omega)]; exact oy
  refine ⟨stI M6 (ys + 5) o.toNat (iI N), ?_, by rw [rI_ng (by omega)]; exact d6, by funext i; rw [rI_ng (by omega), hM6, rI_ng (by omega), s4 (yt + 1) (by omega), t1 (yt + 1) (by omega)], by rw [rI_ng (by omega), hM6, rI_ng (by omega)]; exact a2, by rw [rI_ng (by omega), hM6, rI_ng (by omega)]; exact a3, by rw [rI_ng (by omega), hM6, rI_ng (by omega)]; exact a4, by rw [rI_nk (by omega), hM6]; exact rI_at rfl rfl, rI_at rfl rfl, fun j i j1 j5 hi hj => ?_, ?_, ?_⟩
  · have z0 : (0 : Int32) < iI d := by
      show iI 0 < iI d
      rw [iI_lt (by omega) (by omega)]
      exact hd.1
    have a1' : fX8_add ys (22 : Int32) M1 = some (iI N, M4) := a1
    unfold fX9_passEnd
    rw [hD, if_pos z0, k_1, iI_sub, nm_eq, ← hM1, l4, ldr_ok hs, sbind, a1', bdP, l4', ldr_ok hs, sbind, dy, ixkI (by omega), ixkI (by omega), iI_nat (by omega), iI_nat (by omega), oy, nm_eq, ← hM6, l6, ldr_ok hs, sbind, d6, ixkI (by omega), iI_nat (by omega), o6, ixkI (by omega), iI_nat (by omega), nm_eq]
    rfl
  · have u := a7 j i j1 j5 hi
    by_cases q : j = 5
    · rw [q] at u ⊢
      rw [rI_nk (by omega), hM6, rI_nk (by omega), u, t1 (ys + 5) (by omega)]
    · rw [rI_ng (by omega), hM6, rI_ng (by omega), u, t1 (ys + j) (by omega)]
  · rw [← e22, ← a8, hM6]
    rfl
  · refine Fr.stI (Or.inr ⟨by omega, by omega⟩) ?_
    rw [hM6]
    exact Fr.stI (Or.inr ⟨by omega, by omega⟩) ((f1.mono (fun z q => Or.inl q)).trans (a9.mono (fun z q => Or.inr q)))
end YE
