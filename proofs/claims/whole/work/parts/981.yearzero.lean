/-! the reference's new row of years: its places 1 to 5 are zeroed -/
section YZ
variable {m : Nat}
theorem m_step147 (K : Mem → Option (Int32 × Mem)) (x1 x2 x4 : Int32) {v : Int} (hv : 2880 ≤ v ∧ v ≤ 3240) (M0 : Mem) : ∀ (k : Nat) (i : Int), 0 ≤ i → i ≤ 6 → 6 < k + i → 1 ≤ i → ∀ M, (∀ e : Int, 0 ≤ e → M.1 (m + 1) e.toNat = if v + 1 ≤ e ∧ e < v + i then iI 0 else M0.1 (m + 1) e.toNat) → ∃ M1, lX11_step_147 K m x1 x2 (iI v) x4 k (iI i) M = K M1 ∧ M1.2 = M.2 ∧ Fr (Rg (m + 1) (m + 1)) M M1 ∧ ∀ e : Int, 0 ≤ e → M1.1 (m + 1) e.toNat = if v + 1 ≤ e ∧ e < v + 6 then iI 0 else M0.1 (m + 1) e.toNat := by
  have z6 : (6 : Int32) = iI 6 := rfl
  have z0 : (0 : Int32) = iI 0 := rfl
  refine lup (P := fun k i => 1 ≤ i → ∀ M, (∀ e : Int, 0 ≤ e → M.1 (m + 1) e.toNat = if v + 1 ≤ e ∧ e < v + i then iI 0 else M0.1 (m + 1) e.toNat) → ∃ M1, lX11_step_147 K m x1 x2 (iI v) x4 k (iI i) M = K M1 ∧ M1.2 = M.2 ∧ Fr (Rg (m + 1) (m + 1)) M M1 ∧ ∀ e : Int, 0 ≤ e → M1.1 (m + 1) e.toNat = if v + 1 ≤ e ∧ e < v + 6 then iI 0 else M0.1 (m + 1) e.toNat) (fun k _ M h => ⟨M, ?_, rfl, Fr.refl M, h⟩) (fun k i i0 i1 ih i2 M h => ?_)
  · rw [lX11_step_147, z6, if_pos (by rw [iI_le (by omega) (by omega)]; omega)]
  · obtain ⟨M1, r1, r2, r3, r4⟩ := ih (by omega) (stI M (m + 1) (v + i).toNat (iI 0)) (fun e e0 => by
      by_cases q : e = v + i
      · rw [if_pos (by omega), q, rI_at rfl rfl]
      · rw [rI_nk (by omega), h e e0]
        by_cases q2 : v + 1 ≤ e ∧ e < v + i
        · rw [if_pos q2, if_pos (by omega)]
        · rw [if_neg q2, if_neg (by omega)])
    refine ⟨M1, ?_, r2, (Fr.stI ⟨by omega, by omega⟩ (Fr.refl M)).trans r3, r4⟩
    rw [lX11_step_147, z6, if_neg (by rw [iI_le (by omega) (by omega)]; omega), iI_add, ixkI (by omega), iI_nat (by omega), nm_eq, k_1, iI_add, z0]
    exact r1
end YZ
