/-! a new row of years: the class's add, the reference's zeroes -/
section YA
variable {ys m : Nat} {N c : Int} {M : Mem}
/-- the rows below N stand as they stood -/
def cBl (ys : Nat) (N : Int) (M M1 : Mem) : Prop := ∀ j i, 1 ≤ j → j ≤ 5 → i < N.toNat → M1.1 (ys + j) i = M.1 (ys + j) i
theorem c_add {k : Int} (hN : 0 ≤ N ∧ N < 60) (h2 : M.1 ys 2 = iI N) (h1 : M.1 ys 1 = iI c) (hk : 0 ≤ k ∧ k < 100) : ∃ M1, fX8_add ys (iI k) M = some (iI N, M1) ∧ M1.1 ys 2 = iI (N + 1) ∧ M1.1 ys 1 = iI (if k = 22 then c else c + 1) ∧ M1.1 (ys + 1) N.toNat = iI k ∧ (∀ j, 2 ≤ j → j ≤ 4 → M1.1 (ys + j) N.toNat = iI 0) ∧ M1.1 (ys + 5) N.toNat = iI N ∧ cBl ys N M M1 ∧ M1.2 = M.2 ∧ Fr (Rg ys (ys + 5)) M M1 := by
  obtain ⟨M6, hM6⟩ : ∃ M6, M6 = stI (stI (stI (stI (stI M (ys + 1) N.toNat (iI k)) (ys + 2) N.toNat (iI 0)) (ys + 3) N.toNat (iI 0)) (ys + 4) N.toNat (iI 0)) (ys + 5) N.toNat (iI N) := ⟨_, rfl⟩
  have f6 : Fr (Rg ys (ys + 5)) M M6 := by
    rw [hM6]
    exact Fr.stI ⟨by omega, by omega⟩ (Fr.stI ⟨by omega, by omega⟩ (Fr.stI ⟨by omega, by omega⟩ (Fr.stI ⟨by omega, by omega⟩ (Fr.stI ⟨by omega, by omega⟩ (Fr.refl M)))))
  have y6 : M6.1 ys = M.1 ys := by
    funext i
    rw [hM6, rI_ng (by omega), rI_ng (by omega), rI_ng (by omega), rI_ng (by omega), rI_ng (by omega)]
  have e1 : M6.1 (ys + 1) N.toNat = iI k := by rw [hM6, rI_ng (by omega), rI_ng (by omega), rI_ng (by omega), rI_ng (by omega)]; exact rI_at rfl rfl
  have e2 : M6.1 (ys + 2) N.toNat = iI 0 := by rw [hM6, rI_ng (by omega), rI_ng (by omega), rI_ng (by omega)]; exact rI_at rfl rfl
  have e3 : M6.1 (ys + 3) N.toNat = iI 0 := by rw [hM6, rI_ng (by omega), rI_ng (by omega)]; exact rI_at rfl rfl
  have e4 : M6.1 (ys + 4) N.toNat = iI 0 := by rw [hM6, rI_ng (by omega)]; exact rI_at rfl rfl
  have e5 : M6.1 (ys + 5) N.toNat = iI N := by rw [hM6]; exact rI_at rfl rfl
  have b6 : cBl ys N M M6 := fun j i j1 j5 hi => by
    rw [hM6, rI_nk (by omega), rI_nk (by omega), rI_nk (by omega), rI_nk (by omega), rI_nk (by omega)]
  have q2 : M6.1 ys 2 = iI N := by rw [y6]; exact h2
  have q1 : (stI M6 ys 2 (iI (N + 1))).1 ys 1 = iI c := by rw [rI_nk (by omega), y6]; exact h1
  have z22 : (22 : Int32) = iI 22 := rfl
  have z0 : (0 : Int32) = iI 0 := rfl
  have ix : ∀ E : Option (Int32 × Mem), ixk (iI N) 60 E = E := fun E => ixkI (by omega)
  by_cases q : k = 22
  · rw [if_pos q]
    refine ⟨stI M6 ys 2 (iI (N + 1)), ?_, rI_at rfl rfl, q1, by rw [rI_ng (by omega)]; exact e1, fun j j2 j4 => ?_, by rw [rI_ng (by omega)]; exact e5, fun j i j1 j5 hi => by rw [rI_ng (by omega)]; exact b6 j i j1 j5 hi, by rw [hM6]; rfl, Fr.stI ⟨by omega, by omega⟩ f6⟩
    · unfold fX8_add
      rw [h2, nm_eq, z0]
      simp only [ix, nm_eq, iI_nat (show -2147483648 ≤ N ∧ N < 2147483648 by omega)]
      rw [← hM6, q2, k_1, iI_add, q, z22, if_pos rfl]
    · rw [rI_ng (by omega)]
      have : j = 2 ∨ j = 3 ∨ j = 4 := by omega
      rcases this with t | t | t <;> rw [t]
      · exact e2
      · exact e3
      · exact e4
  · rw [if_neg q]
    refine ⟨stI (stI M6 ys 2 (iI (N + 1))) ys 1 (iI (c + 1)), ?_, by rw [rI_nk (by omega)]; exact rI_at rfl rfl, rI_at rfl rfl, by rw [rI_ng (by omega), rI_ng (by omega)]; exact e1, fun j j2 j4 => ?_, by rw [rI_ng (by omega), rI_ng (by omega)]; exact e5, fun j i j1 j5 hi => by rw [rI_ng (by omega), rI_ng (by omega)]; exact b6 j i j1 j5 hi, by rw [hM6]; rfl, Fr.stI ⟨by omega, by omega⟩ (Fr.stI ⟨by omega, by omega⟩ f6)⟩
    · unfold fX8_add
      rw [h2, nm_eq, z0]
      simp only [ix, nm_eq, iI_nat (show -2147483648 ≤ N ∧ N < 2147483648 by omega)]
      rw [← hM6, q2, k_1, iI_add, z22, if_neg (by rw [iI_eq (by omega) (by omega)]; exact q), q1, iI_add]
    · rw [rI_ng (by omega), rI_ng (by omega)]
      have : j = 2 ∨ j = 3 ∨ j = 4 := by omega
      rcases this with t | t | t <;> rw [t]
      · exact e2
      · exact e3
      · exact e4
end YA
