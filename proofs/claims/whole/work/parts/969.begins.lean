/-! a text begins, on both sides -/
theorem nar_b0 : ∀ k : Nat, k < 256 → vp_nar .byte (iI ((k : Int) - 128)) = iI ((k : Int) - 128) := by decide +kernel
theorem nar_b {b : Int} (h : -128 ≤ b ∧ b ≤ 127) : vp_nar .byte (iI b) = iI b := by
  have := nar_b0 (b + 128).toNat (by omega)
  rw [show (((b + 128).toNat : Nat) : Int) - 128 = b from by omega] at this
  exact this
theorem ng0 {n : Int} (h : 0 ≤ n ∧ n < 2147483648) : ¬ (iI n < (0 : Int32)) := by
  show ¬ (iI n < iI 0)
  rw [iI_lt (by omega) (by omega)]
  omega
theorem lt0 {n : Int} (h : -2147483648 ≤ n ∧ n < 0) : iI n < (0 : Int32) := by
  show iI n < iI 0
  rw [iI_lt (by omega) (by omega)]
  omega
section BE
variable {t m : Nat} {M : Mem} {B : Int → Int} {n p : Int}
theorem RDp.pl (h : RDp t B n p M) : M.1 t 9 = iI 0 ∧ M.1 t 10 = iI (-1) := by
  obtain ⟨T, i, ⟨⟨a1, a2⟩, f9, f10⟩, _⟩ := h
  exact ⟨f9, f10⟩
theorem RKp.pl (h : RKp m B n p M) : M.1 m 17 = iI (-1) := h.1.2
theorem m_begins26 (K : Mem → Option (Int32 × Mem)) {n : Int} (hn : 0 ≤ n ∧ n ≤ 900) (hB : ∀ k, -128 ≤ B k ∧ B k ≤ 127) : ∀ (k : Nat) (i : Int), 0 ≤ i → i ≤ n → n < k + i → ∀ M, (∀ e : Int, 0 ≤ e → e < n → M.1 (m + 6) e.toNat = iI (B e)) → TX (m + 7) B i M → ∃ M1, lX11_begins_26 K m (iI n) k (iI i) M = K M1 ∧ TX (m + 7) B n M1 ∧ Fr (fun z => z = m + 7) M M1 := by
  refine lup (P := fun k i => ∀ M, (∀ e : Int, 0 ≤ e → e < n → M.1 (m + 6) e.toNat = iI (B e)) → TX (m + 7) B i M → ∃ M1, lX11_begins_26 K m (iI n) k (iI i) M = K M1 ∧ TX (m + 7) B n M1 ∧ Fr (fun z => z = m + 7) M M1) (fun k M hq h => ⟨M, ?_, h, Fr.refl M⟩) (fun k i i0 i1 ih M hq h => ?_)
  · rw [lX11_begins_26, if_pos (by rw [iI_le (by omega) (by omega)]; omega)]
  · have b1 := nar_b (hB i)
    have e1 := hq i i0 i1
    obtain ⟨M1, r1, r2, r3⟩ := ih (stI M (m + 7) i.toNat (iI (B i))) (fun e e0 e1 => by rw [rI_ng (by omega)]; exact hq e e0 e1) (fun e e0 e1 => by
      by_cases q : e = i
      · rw [q]; exact rI_at rfl rfl
      · rw [rI_nk (by omega)]; exact h e e0 (by omega))
    refine ⟨M1, ?_, r2, (Fr.stI (S := fun z => z = m + 7) rfl (Fr.refl M)).trans r3⟩
    rw [lX11_begins_26, if_neg (by rw [iI_le (by omega) (by omega)]; omega), ixkI (by omega), ixkI (by omega), iI_nat (by omega), e1, b1, nm_eq, k_1, iI_add]
    exact r1
/-- what a text's begin leaves as it was -/
def mBg (m : Nat) (M M1 : Mem) : Prop := (∀ i, i ≠ 10 → i ≠ 11 → i ≠ 12 → i ≠ 13 → i ≠ 14 → i ≠ 15 → i ≠ 17 → i ≠ 18 → i ≠ 19 → M1.1 m i = M.1 m i) ∧ M1.2.1 m = M.2.1 m ∧ Fr (fun z => z = m ∨ z = m + 7) M M1
theorem m_begins {φ : Nat} (hφ : 2000 < φ) {Q : TPS} (wq : WTp Q) (hq : TpM m Q M) {n l : Int} (hn : 0 ≤ n ∧ n ≤ Q.1) (hl : n ≤ l ∧ l ≤ 900) : ∃ M1, fX11_begins φ m (iI n) (iI l) M = some (iI 1, M1) ∧ RKp m Q.2 n 0 M1 ∧ M1.1 m 18 = iI 0 ∧ M1.1 m 10 = iI 0 ∧ mBg m M M1 := by
  have q0 := wq.1
  obtain ⟨h10, hT⟩ := hq
  have f1 : Fr (fun z => z = m) M (stI M m 11 (iI n)) := Fr.stI rfl (Fr.refl M)
  obtain ⟨M3, r1, r2, r3⟩ := m_begins26 (m := m) (fun (M3 : Mem) => nm (stI M3 m 10 (0 : Int32)) (fun M4 =>
 nm (stI M4 m 18 (0 : Int32)) (fun M5 =>
 nm (stI M5 m 17 (-1 : Int32)) (fun M6 =>
 nm (stI M6 m 14 (0 : Int32)) (fun M7 =>
 nm (stI M7 m 19 (0 : Int32)) (fun M8 =>
 bd (fX11_ahead φ m M8) fun vu9 M10 =>
 some ((1 : Int32), M10)))))))  (n := n) (by omega) wq.2 φ 0 (by omega) hn.1 (by omega) (stI M m 11 (iI n)) (fun e e0 e1 => by rw [rI_ng (by omega)]; exact hT e e0 (by omega)) (fun e e0 e1 => by omega)
  obtain ⟨M8, hM8⟩ : ∃ M8, M8 = stI (stI (stI (stI (stI M3 m 10 (iI 0)) m 18 (iI 0)) m 17 (iI (-1))) m 14 (iI 0)) m 19 (iI 0) := ⟨_, rfl⟩
  have f8 : Fr (fun z => z = m) M3 M8 := by
    rw [hM8]
    exact Fr.stI rfl (Fr.stI rfl (Fr.stI rfl (Fr.stI rfl (Fr.stI rfl (Fr.refl M3)))))
  have t3 : M3.1 m = (stI M m 11 (iI n)).1 m := (r3 m (by omega)).1
  have o8 : ∀ i, i ≠ 10 → i ≠ 18 → i ≠ 17 → i ≠ 14 → i ≠ 19 → M8.1 m i = M3.1 m i := fun i a b c d e => by
    rw [hM8, rI_nk e, rI_nk d, rI_nk c, rI_nk b, rI_nk a]
  have c10 : M8.1 m 10 = iI 0 := by
    rw [hM8, rI_nk (by omega), rI_nk (by omega), rI_nk (by omega), rI_nk (by omega)]
    exact rI_at rfl rfl
  have c18 : M8.1 m 18 = iI 0 := by
    rw [hM8, rI_nk (by omega), rI_nk (by omega), rI_nk (by omega)]
    exact rI_at rfl rfl
  have c17 : M8.1 m 17 = iI (-1) := by
    rw [hM8, rI_nk (by omega), rI_nk (by omega)]
    exact rI_at rfl rfl
  have c14 : M8.1 m 14 = iI 0 := by
    rw [hM8, rI_nk (by omega)]
    exact rI_at rfl rfl
  have c11 : M8.1 m 11 = iI n := by rw [o8 11 (by omega) (by omega) (by omega) (by omega) (by omega), t3]; exact rI_at rfl rfl
  obtain ⟨M10, s1, s2, s3⟩ := m_ahead hφ (m := m) (M := M8) (B := Q.2) (n := n) (by omega) wq.2 (p := 0) (by omega) c17 c11 (fun e e0 e1 => by rw [(f8 (m + 7) (by omega)).1]; exact r2 e e0 e1) c14
  refine ⟨M10, ?_, s2, by rw [s3.1 18 (by omega) (by omega) (by omega) (by omega)]; exact c18, by rw [s3.1 10 (by omega) (by omega) (by omega) (by omega)]; exact c10, fun i a b c d e f g h j => ?_, ?_, ?_⟩
  · have e1 : ¬ ((iI n : Int32) < (0 : Int32)) := by
      show ¬ (iI n < iI 0)
      rw [iI_lt (by omega) (by omega)]
      omega
    unfold fX11_begins
    rw [if_neg e1, h10, if_neg (by rw [iI_lt (by omega) (by omega)]; omega), if_pos (by rw [iI_le (by omega) (by omega)]; exact hl.1), nm_eq]
    refine Eq.trans r1 ?_
    have s1' : fX11_ahead φ m (stI (stI (stI (stI (stI M3 m 10 (0 : Int32)) m 18 (0 : Int32)) m 17 (-1 : Int32)) m 14 (0 : Int32)) m 19 (0 : Int32)) = some ((), M10) := by
      rw [hM8] at s1
      exact s1
    simp only [nm_eq]
    rw [s1', bdP]
    rfl
  · rw [s3.1 i c d e f, o8 i a h g e j, t3]
    exact rI_nk b
  · rw [s3.2.1, (show M8.2.1 m = M3.2.1 m from by rw [hM8]; rfl), (r3 m (by omega)).2.1]
    rfl
  · exact (((f1.mono (fun z q => Or.inl q)).trans (r3.mono (fun z q => Or.inr q))).trans (f8.mono (fun z q => Or.inl q))).trans (s3.2.2.mono (fun z q => Or.inl q))
theorem m_beginsNo {φ : Nat} {Q : TPS} (wq : WTp Q) (hq : TpM m Q M) {n : Int} (hn : ¬ (0 ≤ n ∧ n ≤ Q.1)) (hb : -2147483648 ≤ n ∧ n < 2147483648) (l : Int32) : fX11_begins φ m (iI n) l M = some (iI 0, M) := by
  have q0 := wq.1
  obtain ⟨h10, hT⟩ := hq
  unfold fX11_begins
  by_cases h : n < 0
  · rw [if_pos (lt0 (by omega))]
    rfl
  · rw [if_neg (ng0 (by omega)), h10, if_pos (by rw [iI_lt (by omega) (by omega)]; omega)]
    rfl
theorem m_beginsBig {φ : Nat} {Q : TPS} (wq : WTp Q) (hq : TpM m Q M) {n l : Int} (hn : 0 ≤ n ∧ n ≤ Q.1) (hl : l < n ∧ 0 ≤ l) : fX11_begins φ m (iI n) (iI l) M = some (iI 0, M) := by
  have q0 := wq.1
  obtain ⟨h10, hT⟩ := hq
  unfold fX11_begins
  rw [if_neg (ng0 (by omega)), h10, if_neg (by rw [iI_lt (by omega) (by omega)]; omega), if_neg (by rw [iI_le (by omega) (by omega)]; omega)]
  rfl
end BE
