/-! the beds of a hole's row, on both sides -/
def kB (ft : Nat) (M28 : Mem) : Option (Int32 × Mem) := (ldr 6 (M28.2.2 ft 1)).bind fun vr29 => (ldr 6 (M28.2.2 ft 1)).bind fun vr30 => (fX6_nameFault vr30 M28).bind fun v31 => bd (fX6_refuseToken vr29 v31 M28) fun v32 M33 => if v32 = 0 ∨ v32 = 1 then some (v32, M33) else none
/-- the reference's draft while a hole's row is read: the count comes last -/
def HSt (m : Nat) (B : Int → Int) (n p : Int) (F : Fld) (nm : NMs) (M : Mem) : Prop := RKp m B n p M ∧ MR m 2600 F (stI M (m + 1) (Int.toNat 2601) (iI (F 0 1 0))) ∧ NB m 64 F nm M ∧ M.1 m 18 = iI 0 ∧ M.1 (m + 1) (Int.toNat 2601) = iI (F 0 1 0 - 1)
section BE
variable {t m ft gs g : Nat} {F F' : Fld} {nm nm' : NMs} {M : Mem} {B : Int → Int} {n p s x y h r v q : Int}
theorem MR.bed {M1 : Mem} (G : MR m 2600 F M) (hh : 0 ≤ h ∧ h < 6) (hL : 0 ≤ F 3 h 2 ∧ F 3 h 2 < 12) (h1 : M1.1 (m + 1) (2682 + 27 * h + 3 + 2 * F 3 h 2).toNat = iI r) (h2 : M1.1 (m + 1) (2682 + 27 * h + 3 + 2 * F 3 h 2 + 1).toNat = iI v) (h3 : M1.1 (m + 1) (2682 + 27 * h + 2).toNat = iI (F 3 h 2 + 1)) (h4 : ∀ e : Int, 0 ≤ e → e ≠ 2682 + 27 * h + 3 + 2 * F 3 h 2 → e ≠ 2682 + 27 * h + 3 + 2 * F 3 h 2 + 1 → e ≠ 2682 + 27 * h + 2 → M1.1 (m + 1) e.toNat = M.1 (m + 1) e.toNat) : MR m 2600 (u_bed F h r v) M1 := by
  obtain ⟨g0, g1, g2, g3, g4, g5, g6⟩ := G
  have kk := fun (k : Nat) (a : k ≠ 3) (b : k ≠ 4) (c : k ≠ 5) => ub_k F h r v a b c
  refine ⟨fun w a b => ?_, fun k a b => ?_, fun x y a b c d => ?_, fun a w a0 a1 w0 w1 => ?_, fun a l a0 a1 l0 l1 => ⟨?_, ?_⟩, fun t k a b c d => ?_, fun f k a b c d => ?_⟩
  · rw [kk 0 (by omega) (by omega) (by omega), h4 _ (by omega) (by omega) (by omega) (by omega)]; exact g0 w a b
  · rw [kk 1 (by omega) (by omega) (by omega), h4 _ (by omega) (by omega) (by omega) (by omega)]; exact g1 k a b
  · rw [kk 2 (by omega) (by omega) (by omega), h4 _ (by omega) (by omega) (by omega) (by omega)]; exact g2 x y a b c d
  · by_cases q : a = h ∧ w = 2
    · rw [q.1, q.2, ub_n, show (2600 : Int) + (82 + 27 * h + 2) = 2682 + 27 * h + 2 from by omega]; exact h3
    · have e0 := g3 a w a0 a1 w0 w1
      by_cases q2 : a = h
      · rw [ub_3 F h r v (by omega), h4 _ (by omega) (by omega) (by omega) (by omega)]; exact e0
      · rw [ub_o F r v 3 w q2, h4 _ (by omega) (by omega) (by omega) (by omega)]; exact e0
  · have e0 := (g4 a l a0 a1 l0 l1).1
    by_cases q : a = h
    · by_cases q2 : l = F 3 h 2
      · rw [q, q2, ub_4, show (2600 : Int) + (82 + 27 * h + 3 + 2 * F 3 h 2) = 2682 + 27 * h + 3 + 2 * F 3 h 2 from by omega]; exact h1
      · rw [ub_45 F h r v (Or.inl rfl) a q2, h4 _ (by omega) (by omega) (by omega) (by omega)]; exact e0
    · rw [ub_o F r v 4 l q, h4 _ (by omega) (by omega) (by omega) (by omega)]; exact e0
  · have e0 := (g4 a l a0 a1 l0 l1).2
    by_cases q : a = h
    · by_cases q2 : l = F 3 h 2
      · rw [q, q2, ub_5, show (2600 : Int) + (82 + 27 * h + 3 + 2 * F 3 h 2 + 1) = 2682 + 27 * h + 3 + 2 * F 3 h 2 + 1 from by omega]; exact h2
      · rw [ub_45 F h r v (Or.inr rfl) a q2, h4 _ (by omega) (by omega) (by omega) (by omega)]; exact e0
    · rw [ub_o F r v 5 l q, h4 _ (by omega) (by omega) (by omega) (by omega)]; exact e0
  · rw [kk 6 (by omega) (by omega) (by omega), h4 _ (by omega) (by omega) (by omega) (by omega)]; exact g5 t k a b c d
  · rw [kk 7 (by omega) (by omega) (by omega), h4 _ (by omega) (by omega) (by omega) (by omega)]; exact g6 f k a b c d
theorem HSt.ah {M1 : Mem} {q : Int} (S : HSt m B n p F nm M) (h : RKp m B n q M1) (a : mAh m M M1) : HSt m B n q F nm M1 := by
  obtain ⟨s1, s2, s3, s4, s5⟩ := S
  have t1 : M1.1 (m + 1) = M.1 (m + 1) := (a.2.2 (m + 1) (by omega)).1
  refine ⟨h, s2.cell (by omega) (fun k k0 k1 => ?_), s3.fr a.2.2 (by omega), by rw [a.1 18 (by omega) (by omega) (by omega) (by omega)]; exact s4, by rw [t1]; exact s5⟩
  rw [stI_1, stI_1, t1]
theorem HSt.rocks (S : HSt m B n p F nm M) : M.1 (m + 1) (Int.toNat 2600) = iI (F 0 0 0) := by
  have := S.2.1.1 0 (by omega) (by omega)
  rw [rI_nk (by omega)] at this
  exact this
theorem HSt.lays (S : HSt m B n p F nm M) {h : Int} (hh : 0 ≤ h ∧ h < 6) : M.1 (m + 1) (2682 + 27 * h + 2).toNat = iI (F 3 h 2) := by
  have := S.2.1.2.2.2.1 h 2 hh.1 hh.2 (by omega) (by omega)
  rw [rI_nk (by omega), show (2600 : Int) + (82 + 27 * h + 2) = 2682 + 27 * h + 2 from by omega] at this
  exact this
theorem beds_l {φ : Nat} (hφ : 2000 < φ) (hB : HB B n) : ∀ (d : Nat) (q L H : Int) (F : Fld), DW F nm → (0 ≤ q ∧ q ≤ n) → 0 < F 0 1 0 → H = F 0 1 0 - 1 → F 3 H 2 = L → 8 - L = d → 0 ≤ L → (∃ fk fp, (1 ≤ fk ∧ fk ≤ 99) ∧ (∀ t ft gs M, ENV t ft gs → CSt t ft gs B n q F nm M → ∀ k, d + 1 < k → CFail t ft gs 13 fk fp M (lX1_passBeds_2 (kB ft) φ ft k (iI L) M)) ∧ ∀ m M (K : Mem → Option (Int32 × Mem)), HSt m B n q F nm M → ∀ k, d + 1 < k → MFail m fk fp M (lX11_aHole_149 K φ m (iI (2682 + 27 * H)) k M)) ∨ (∃ F' q', DW F' nm ∧ q ≤ q' ∧ q' ≤ n ∧ F' 0 = F 0 ∧ (∀ t ft gs M, ENV t ft gs → CSt t ft gs B n q F nm M → ∀ k, d + 1 < k → ∃ M1, lX1_passBeds_2 (kB ft) φ ft k (iI L) M = some (iI 1, M1) ∧ CSt t ft gs B n q' F' nm M1 ∧ RCw t ft gs 13 M M1) ∧ ∀ m M (K : Mem → Option (Int32 × Mem)), HSt m B n q F nm M → ∀ k, d + 1 < k → ∃ M1, lX11_aHole_149 K φ m (iI (2682 + 27 * H)) k M = K M1 ∧ HSt m B n q' F' nm M1 ∧ RW m M M1) := by
  have zm : (-1 : Int32) = iI (-1) := rfl
  intro d
  induction d with
  | zero =>
    intro q L H F dw hq hH0 hH hL hd hL0
    have n1 := dw.1.n1
    have w0 := hB.w hq
    have wb := wv_bd w0
    by_cases h6 : wv (tok B n q) = 6
    · refine Or.inl ⟨fkT (tok B n q) 6, (tok B n q).2.1, fkT_1 _ (by omega), fun t ft gs M e S k hk => ?_, fun m M K S k hk => ?_⟩
      · obtain ⟨k, rfl⟩ : ∃ z, k = z + 1 := ⟨k - 1, by omega⟩
        have e1 := c_word w0 S.1
        rw [h6] at e1
        refine CFail.of M ?_
        rw [lX1_passBeds_2, k_8, if_neg (by rw [iI_lt (by omega) (by omega)]; omega), S.2.2.2.1, ldr_ok e.2.2.1, sbind, e1, sbind, k_6, if_pos rfl, if_pos (by rw [show L = 8 from by omega]), sbind, c_refuse w0 S.1, bdP, if_pos (Or.inl i0e)]
      · obtain ⟨k, rfl⟩ : ∃ z, k = z + 1 := ⟨k - 1, by omega⟩
        have e1 := m_words hφ hB.1 hB.2 S.1
        rw [h6, show pr 6 = 8 from by decide +kernel] at e1
        have e2 := S.lays (h := H) (by omega)
        rw [hL, show L = 8 from by omega] at e2
        have e3 := m_fails hB.2 S.1 S.2.2.2.1 6
        refine MFail.of M ?_
        rw [lX11_aHole_149, e1, sbind, k_8, if_pos rfl, k_2, iI_add, ixkI (by omega), iI_nat (by omega), e2, if_pos rfl, k_6, e3, bdP, if_pos (Or.inl i0e)]
    · refine Or.inr ⟨F, q, dw, by omega, hq.2, rfl, fun t ft gs M e S k hk => ⟨M, ?_, S, RCw.refl _ _ _ _ M⟩, fun m M K S k hk => ⟨M, ?_, S, RW.refl m M⟩⟩
      · obtain ⟨k, rfl⟩ : ∃ z, k = z + 1 := ⟨k - 1, by omega⟩
        have e1 := c_word w0 S.1
        rw [lX1_passBeds_2, k_8, if_neg (by rw [iI_lt (by omega) (by omega)]; omega), S.2.2.2.1, ldr_ok e.2.2.1, sbind, e1, sbind, k_6, if_neg (by rw [iI_eq (by omega) (by omega)]; omega)]
        rfl
      · obtain ⟨k, rfl⟩ : ∃ z, k = z + 1 := ⟨k - 1, by omega⟩
        have e1 := m_words hφ hB.1 hB.2 S.1
        have pb := pr_bd wb
        have ne : pr (wv (tok B n q)) ≠ 8 := fun z => by
          rw [show (8 : Int) = pr 6 from by decide +kernel] at z
          exact h6 ((pr_inj wb (by omega)).mp z)
        rw [lX11_aHole_149, e1, sbind, k_8, if_neg (by rw [iI_eq (by omega) (by omega)]; exact ne)]
  | succ d ih =>
    intro q L H F dw hq hH0 hH hL hd hL0
    have n0 := dw.1.n0
    have n1 := dw.1.n1
    have w0 := hB.w hq
    have wb := wv_bd w0
    by_cases h6 : wv (tok B n q) = 6
    rotate_left
    · refine Or.inr ⟨F, q, dw, by omega, hq.2, rfl, fun t ft gs M e S k hk => ⟨M, ?_, S, RCw.refl _ _ _ _ M⟩, fun m M K S k hk => ⟨M, ?_, S, RW.refl m M⟩⟩
      · obtain ⟨k, rfl⟩ : ∃ z, k = z + 1 := ⟨k - 1, by omega⟩
        have e1 := c_word w0 S.1
        rw [lX1_passBeds_2, k_8, if_neg (by rw [iI_lt (by omega) (by omega)]; omega), S.2.2.2.1, ldr_ok e.2.2.1, sbind, e1, sbind, k_6, if_neg (by rw [iI_eq (by omega) (by omega)]; omega)]
        rfl
      · obtain ⟨k, rfl⟩ : ∃ z, k = z + 1 := ⟨k - 1, by omega⟩
        have e1 := m_words hφ hB.1 hB.2 S.1
        have pb := pr_bd wb
        have ne : pr (wv (tok B n q)) ≠ 8 := fun z => by
          rw [show (8 : Int) = pr 6 from by decide +kernel] at z
          exact h6 ((pr_inj wb (by omega)).mp z)
        rw [lX11_aHole_149, e1, sbind, k_8, if_neg (by rw [iI_eq (by omega) (by omega)]; exact ne)]
    have b1 := nx_b hB hq
    have b2 := nx_b hB b1.1
    have w1 := hB.w b1.1
    have b3 := nx_b hB b2.1
    have w2 := hB.w b2.1
    have b4 := nx_b hB b3.1
    have w3 := hB.w b3.1
    obtain ⟨p1, hp1⟩ : ∃ p1, p1 = nx B n q := ⟨_, rfl⟩
    rw [← hp1] at b1 b2 b3 b4 w1 w2 w3
    obtain ⟨p2, hp2⟩ : ∃ p2, p2 = nx B n p1 := ⟨_, rfl⟩
    rw [← hp2] at b2 b3 b4 w2 w3
    obtain ⟨p3, hp3⟩ : ∃ p3, p3 = nx B n p2 := ⟨_, rfl⟩
    rw [← hp3] at b3 b4 w3
    obtain ⟨p4, hp4⟩ : ∃ p4, p4 = nx B n p3 := ⟨_, rfl⟩
    rw [← hp4] at b4
    obtain ⟨r, hr⟩ : ∃ r, r = fN (nm 0) (F 0 0 0) (tok B n p1).2.2.2.2 := ⟨_, rfl⟩
    have rb := fN_bd (nm 0) (N := F 0 0 0) (c := (tok B n p1).2.2.2.2) n0.1
    rw [← hr] at rb
    have cA : ∀ t ft gs M, ENV t ft gs → CSt t ft gs B n q F nm M → ∃ M1, CSt t ft gs B n p1 F nm M1 ∧ cGo t M M1 ∧ ∀ k, lX1_passBeds_2 (kB ft) φ ft (k + 1) (iI L) M = if iI r = iI (-1) then kB ft M1 else (bd (fX6_goOn t M1) fun vu11 M12 =>
 (ldr 6 (M12.2.2 ft 1)).bind fun vr13 =>
 bd (fX6_passWord vr13 (7 : Int32) M12) fun v14 M15 =>
 if v14 = 0 then
 some ((0 : Int32), M15)
 else
 (ldr 6 (M15.2.2 ft 1)).bind fun vr16 =>
 (fX6_value vr16 M15).bind fun v17 =>
 (ldr 6 (M15.2.2 ft 1)).bind fun vr18 =>
 bd (fX6_passNumber vr18 (1 : Int32) (99 : Int32) M15) fun v19 M20 =>
 if v19 = 0 then
 some ((0 : Int32), M20)
 else
 (ldr 2 (M20.2.2 ft 2)).bind fun vr21 =>
 bd (fX2_addLayer vr21 (iI r) v17 M20) fun vu22 M23 =>
 lX1_passBeds_2 (kB ft) φ ft k (iI L + 1) M23) := fun t ft gs M e S => by
      obtain ⟨M1, r1, S1, A1⟩ := c_next e S
      rw [← hp1] at S1
      have e1 := c_word w0 S.1
      rw [h6] at e1
      have e2 := c_rockNamed dw.1 S1.2.1 S1.2.2.1 dw.2.1 (nc_bd w1) (φ := φ) (by omega)
      rw [← hr] at e2
      refine ⟨M1, S1, A1, fun k => ?_⟩
      rw [lX1_passBeds_2, k_8, if_neg (by rw [iI_lt (by omega) (by omega)]; omega), S.2.2.2.1, ldr_ok e.2.2.1, sbind, e1, sbind, k_6, if_pos rfl, if_neg (by rw [iI_eq (by omega) (by omega)]; omega), sbind, r1, bdP, S1.2.2.2.2, ldr_ok e.2.2.2, sbind, S1.2.2.2.1, ldr_ok e.2.2.1, sbind, c_name S1.1, sbind, e2, sbind, zm]
      rfl
    have mA : ∀ m M, HSt m B n q F nm M → ∃ M1, HSt m B n p1 F nm M1 ∧ mAh m M M1 ∧ ∀ K k, lX11_aHole_149 K φ m (iI (2682 + 27 * H)) (k + 1) M = (bd (fX11_oldOne φ m (iI 64) (iI (F 0 0 0)) (iI (2682 + 27 * H + 3 + 2 * L)) M1) fun v16 M17 =>
 if v16 = 0 then
 some ((0 : Int32), M17)
 else
 bd (fX11_wantWord φ m 1002 (iI 9) M17) fun v18 M19 =>
 if v18 = 0 then
 some ((0 : Int32), M19)
 else
 bd (fX11_number φ m (iI (2682 + 27 * H + 3 + 2 * L + 1)) (iI 1) (iI 99) M19) fun v20 M21 =>
 if v20 = 0 then
 some ((0 : Int32), M21)
 else
 lX11_aHole_149 K φ m (iI (2682 + 27 * H)) k (stI M21 (m + 1) (2682 + 27 * H + 2).toNat ((M21.1 (m + 1) (2682 + 27 * H + 2).toNat) + iI 1))) := fun m M S => by
      obtain ⟨M1, r1, r2, r3⟩ := m_goOn hφ hB.1 hB.2 S.1
      have r2 : RKp m B n (nx B n q) M1 := r2
      rw [← hp1] at r2
      have S1 := S.ah r2 r3
      have e1 := m_words hφ hB.1 hB.2 S.1
      rw [h6, show pr 6 = 8 from by decide +kernel] at e1
      have e2 := S.lays (h := H) (by omega)
      have e3 := S1.lays (h := H) (by omega)
      have e4 := S1.rocks
      rw [hL] at e2 e3
      have z26 : (2600 : Int32) = iI 2600 := rfl
      refine ⟨M1, S1, r3, fun K k => ?_⟩
      rw [lX11_aHole_149, e1, sbind, k_8, if_pos rfl, k_2, iI_add, ixkI (by omega), iI_nat (by omega), e2, if_neg (by rw [iI_eq (by omega) (by omega)]; omega), r1, bdP, ixkI (by omega), e3, k_3, iI_add, iI_mul, iI_add, nm_eq, z26, ixkI (by omega), iI_nat (by omega), e4, k_64, k_9, k_1, iI_add, k_99]
      simp (disch := omega) only [ixkI, nm_eq]
    by_cases h1 : r = -1
    · refine Or.inl ⟨fkT (tok B n p1) (if isNm (tok B n p1) = true then 3 else 2), (tok B n p1).2.1, fkT_1 _ (nf_1 _), fun t ft gs M e S k hk => ?_, fun m M K S k hk => ?_⟩
      · obtain ⟨k, rfl⟩ : ∃ z, k = z + 1 := ⟨k - 1, by omega⟩
        obtain ⟨M1, S1, A1, e1⟩ := cA t ft gs M e S
        refine CFail.le A1.rw (CFail.of M1 ?_)
        rw [e1, h1, if_pos rfl]
        unfold kB
        rw [S1.2.2.2.1, ldr_ok e.2.2.1, sbind, sbind, c_nameFault w1 S1.1, sbind, c_refuse w1 S1.1, bdP, if_pos (Or.inl i0e)]
      · obtain ⟨k, rfl⟩ : ∃ z, k = z + 1 := ⟨k - 1, by omega⟩
        obtain ⟨M1, S1, A1, e1⟩ := mA m M S
        obtain ⟨M2, f1, f2⟩ := (m_old hφ hB.1 hB.2 S1.1 S1.2.2.2.1 (to := 2682 + 27 * H + 3 + 2 * L) (b := 64) (N := F 0 0 0) (a := nm 0) (by omega) (by omega) n0.1 dw.2.1.1 (nb_r S1.2.2.1)).1 (by rw [← hr]; exact h1)
        refine MFail.le A1.rw ⟨M2, ?_, f2⟩
        rw [e1, f1, bdP, if_pos i0e]
        rfl
    have r0 : 0 ≤ r ∧ r < F 0 0 0 := by omega
    have cB : ∀ t ft gs M, ENV t ft gs → CSt t ft gs B n q F nm M → ∃ M2, CSt t ft gs B n p2 F nm M2 ∧ RCw t ft gs 13 M M2 ∧ ∀ k, lX1_passBeds_2 (kB ft) φ ft (k + 1) (iI L) M = (bd (fX6_passWord t (7 : Int32) M2) fun v14 M15 =>
 if v14 = 0 then
 some ((0 : Int32), M15)
 else
 (ldr 6 (M15.2.2 ft 1)).bind fun vr16 =>
 (fX6_value vr16 M15).bind fun v17 =>
 (ldr 6 (M15.2.2 ft 1)).bind fun vr18 =>
 bd (fX6_passNumber vr18 (1 : Int32) (99 : Int32) M15) fun v19 M20 =>
 if v19 = 0 then
 some ((0 : Int32), M20)
 else
 (ldr 2 (M20.2.2 ft 2)).bind fun vr21 =>
 bd (fX2_addLayer vr21 (iI r) v17 M20) fun vu22 M23 =>
 lX1_passBeds_2 (kB ft) φ ft k (iI L + 1) M23) := fun t ft gs M e S => by
      obtain ⟨M1, S1, A1, e1⟩ := cA t ft gs M e S
      obtain ⟨M2, r2, S2, A2⟩ := c_next e S1
      rw [← hp2] at S2
      refine ⟨M2, S2, A1.rw.trans A2.rw, fun k => ?_⟩
      rw [e1, if_neg (by rw [iI_eq (by omega) (by omega)]; omega), r2, bdP, S2.2.2.2.1, ldr_ok e.2.2.1, sbind]
    have mB : ∀ m M, HSt m B n q F nm M → ∃ M1 M2, RKp m B n p2 M2 ∧ mAh m (stI M1 (m + 1) (2682 + 27 * H + 3 + 2 * L).toNat (iI r)) M2 ∧ HSt m B n p1 F nm M1 ∧ mAh m M M1 ∧ ∀ K k, lX11_aHole_149 K φ m (iI (2682 + 27 * H)) (k + 1) M = (bd (fX11_wantWord φ m 1002 (iI 9) M2) fun v18 M19 =>
 if v18 = 0 then
 some ((0 : Int32), M19)
 else
 bd (fX11_number φ m (iI (2682 + 27 * H + 3 + 2 * L + 1)) (iI 1) (iI 99) M19) fun v20 M21 =>
 if v20 = 0 then
 some ((0 : Int32), M21)
 else
 lX11_aHole_149 K φ m (iI (2682 + 27 * H)) k (stI M21 (m + 1) (2682 + 27 * H + 2).toNat ((M21.1 (m + 1) (2682 + 27 * H + 2).toNat) + iI 1))) := fun m M S => by
      obtain ⟨M1, S1, A1, e1⟩ := mA m M S
      obtain ⟨M2, f1, f2, f3⟩ := (m_old hφ hB.1 hB.2 S1.1 S1.2.2.2.1 (to := 2682 + 27 * H + 3 + 2 * L) (b := 64) (N := F 0 0 0) (a := nm 0) (by omega) (by omega) n0.1 dw.2.1.1 (nb_r S1.2.2.1)).2 (by rw [← hr]; exact h1)
      rw [← hr] at f3
      rw [← hp2] at f2
      refine ⟨M1, M2, f2, f3, S1, A1, fun K k => ?_⟩
      rw [e1, f1, bdP, if_neg i1n]
    by_cases h7 : wv (tok B n p2) = 7
    rotate_left
    · refine Or.inl ⟨fkT (tok B n p2) 2, (tok B n p2).2.1, fkT_1 _ (by omega), fun t ft gs M e S k hk => ?_, fun m M K S k hk => ?_⟩
      · obtain ⟨k, rfl⟩ : ∃ z, k = z + 1 := ⟨k - 1, by omega⟩
        obtain ⟨M2, S2, A2, e2⟩ := cB t ft gs M e S
        have e3 := (c_passW w2 S2.1 (k := 7) (by omega)).2 h7
        refine CFail.le A2 (CFail.of M2 ?_)
        rw [e2, k_7, e3, bdP, if_pos i0e]
        rfl
      · obtain ⟨k, rfl⟩ : ∃ z, k = z + 1 := ⟨k - 1, by omega⟩
        obtain ⟨M1, M2, g1, g2, S1, A1, e2⟩ := mB m M S
        have h18 : M2.1 m 18 = iI 0 := by rw [g2.1 18 (by omega) (by omega) (by omega) (by omega), rI_ng (by omega)]; exact S1.2.2.2.1
        have e3 := (m_wWord hφ hB.1 hB.2 g1 h18 (k := 7) (j := 9) (by omega) (by decide +kernel)).2 h7
        refine MFail.le ((A1.rw.trans (RW.st (by omega) M1 _)).trans g2.rw) (MFail.of M2 ?_)
        rw [e2, e3, bdP, if_pos i0e]
        rfl
    have cC : ∀ t ft gs M, ENV t ft gs → CSt t ft gs B n q F nm M → ∃ M3 v, CSt t ft gs B n p3 F nm M3 ∧ RCw t ft gs 13 M M3 ∧ ((tok B n p3).1 ≠ 4 → v = iI (tok B n p3).2.2.1) ∧ ∀ k, lX1_passBeds_2 (kB ft) φ ft (k + 1) (iI L) M = (bd (fX6_passNumber t (1 : Int32) (99 : Int32) M3) fun v19 M20 =>
 if v19 = 0 then
 some ((0 : Int32), M20)
 else
 (ldr 2 (M20.2.2 ft 2)).bind fun vr21 =>
 bd (fX2_addLayer vr21 (iI r) v M20) fun vu22 M23 =>
 lX1_passBeds_2 (kB ft) φ ft k (iI L + 1) M23) := fun t ft gs M e S => by
      obtain ⟨M2, S2, A2, e2⟩ := cB t ft gs M e S
      obtain ⟨M3, q1, q2, q3⟩ := (c_passW w2 S2.1 (k := 7) (by omega)).1 h7
      have S3 := S2.go e q2 q3
      rw [← hp3] at S3
      obtain ⟨v, e3, e4⟩ := c_value S3.1
      refine ⟨M3, v, S3, A2.trans q3.rw, e4, fun k => ?_⟩
      rw [e2, k_7, q1, bdP, if_neg i1n, S3.2.2.2.1, ldr_ok e.2.2.1, sbind, e3, sbind, sbind]
    have mC : ∀ m M, HSt m B n q F nm M → ∃ M3, RKp m B n p3 M3 ∧ M3.1 m 18 = iI 0 ∧ (∀ e : Int, 0 ≤ e → M3.1 (m + 1) e.toNat = if e = 2682 + 27 * H + 3 + 2 * L then iI r else M.1 (m + 1) e.toNat) ∧ M3.2 = M.2 ∧ RW m M M3 ∧ ∀ K k, lX11_aHole_149 K φ m (iI (2682 + 27 * H)) (k + 1) M = (bd (fX11_number φ m (iI (2682 + 27 * H + 3 + 2 * L + 1)) (iI 1) (iI 99) M3) fun v20 M21 =>
 if v20 = 0 then
 some ((0 : Int32), M21)
 else
 lX11_aHole_149 K φ m (iI (2682 + 27 * H)) k (stI M21 (m + 1) (2682 + 27 * H + 2).toNat ((M21.1 (m + 1) (2682 + 27 * H + 2).toNat) + iI 1))) := fun m M S => by
      obtain ⟨M1, M2, g1, g2, S1, A1, e2⟩ := mB m M S
      have h18 : M2.1 m 18 = iI 0 := by rw [g2.1 18 (by omega) (by omega) (by omega) (by omega), rI_ng (by omega)]; exact S1.2.2.2.1
      obtain ⟨M3, q1, q2, q3⟩ := (m_wWord hφ hB.1 hB.2 g1 h18 (k := 7) (j := 9) (by omega) (by decide +kernel)).1 h7
      rw [← hp3] at q2
      refine ⟨M3, q2, by rw [q3.1 18 (by omega) (by omega) (by omega) (by omega)]; exact h18, fun e e0 => ?_, by rw [q3.2.1, g2.2.1]; exact A1.2.1, ((A1.rw.trans (RW.st (e := 2682 + 27 * H + 3 + 2 * L) (by omega) M1 _)).trans g2.rw).trans q3.rw, fun K k => ?_⟩
      · rw [(q3.2.2 (m + 1) (by omega)).1, (g2.2.2 (m + 1) (by omega)).1]
        by_cases z : e = 2682 + 27 * H + 3 + 2 * L
        · rw [if_pos z, rI_at rfl (by omega)]
        · rw [if_neg z, rI_nk (by omega), (A1.2.2 (m + 1) (by omega)).1]
      · rw [e2, q1, bdP, if_neg i1n]
    cases h8 : isNu (tok B n p3) 1 99 with
    | false =>
      refine Or.inl ⟨fkT (tok B n p3) (if (tok B n p3).1 = 2 then 4 else 2), (tok B n p3).2.1, fkT_1 _ (nu_1 _), fun t ft gs M e S k hk => ?_, fun m M K S k hk => ?_⟩
      · obtain ⟨k, rfl⟩ : ∃ z, k = z + 1 := ⟨k - 1, by omega⟩
        obtain ⟨M3, v, S3, A3, _, e3⟩ := cC t ft gs M e S
        have e4 := (c_passNum w3 S3.1 (a := 1) (b := 99) (by omega) (by omega)).2 h8
        refine CFail.le A3 (CFail.of M3 ?_)
        rw [e3, k_1, k_99, e4, bdP, if_pos (by rw [k_0])]
        rfl
      · obtain ⟨k, rfl⟩ : ∃ z, k = z + 1 := ⟨k - 1, by omega⟩
        obtain ⟨M3, g1, g2, g3, g4, A3, e3⟩ := mC m M S
        have e4 := (m_num hφ hB.1 hB.2 g1 g2 (to := 2682 + 27 * H + 3 + 2 * L + 1) (a := 1) (b := 99) (by omega) (by omega) (by omega)).2 h8
        refine MFail.le A3 (MFail.of M3 ?_)
        rw [e3, e4, bdP, if_pos i0e]
        rfl
    | true =>
      have hv := of_decide_eq_true (p := (tok B n p3).1 = 2 ∧ 1 ≤ (tok B n p3).2.2.1 ∧ (tok B n p3).2.2.1 ≤ 99) h8
      obtain ⟨v, hvv⟩ : ∃ v, v = (tok B n p3).2.2.1 := ⟨_, rfl⟩
      rw [← hvv] at hv
      have d4 := dw.bed (h := H) (r := r) (v := v) (by omega) (by omega) r0 (by omega)
      have f01 : u_bed F H r v 0 = F 0 := ub_k F H r v (by omega) (by omega) (by omega)
      have cD : ∀ t ft gs M, ENV t ft gs → CSt t ft gs B n q F nm M → ∃ M5, CSt t ft gs B n p4 (u_bed F H r v) nm M5 ∧ RCw t ft gs 13 M M5 ∧ ∀ k, lX1_passBeds_2 (kB ft) φ ft (k + 1) (iI L) M = lX1_passBeds_2 (kB ft) φ ft k (iI (L + 1)) M5 := fun t ft gs M e S => by
        obtain ⟨M3, v', S3, A3, ev, e3⟩ := cC t ft gs M e S
        have ev := ev (by omega)
        rw [← hvv] at ev
        obtain ⟨M4, q1, q2, q3⟩ := (c_passNum w3 S3.1 (a := 1) (b := 99) (by omega) (by omega)).1 h8
        have S4 := S3.go e q2 q3
        rw [← hp4] at S4
        obtain ⟨M5, a1, a2, a3, a4, a5⟩ := c_addLayer (h := H) (r := r) (v := v) dw hH0 hH (by omega) S4.2.1 S4.2.2.1
        have a5' : Fr (Rg gs (gs + 9)) M4 M5 := a5.mono (fun z q => ⟨by have := q.1; omega, by have := q.2; omega⟩)
        refine ⟨M5, S4.add e a2 a3 a4 a5', (A3.trans q3.rw).trans (RCw.add e (by omega) a4 a5'), fun k => ?_⟩
        rw [e3, k_1, k_99, q1, bdP, if_neg (by rw [k_0]; decide), S4.2.2.2.2, ldr_ok e.2.2.2, sbind, ev, a1, bdP, iI_add]
      have mD : ∀ m M, HSt m B n q F nm M → ∃ M5, HSt m B n p4 (u_bed F H r v) nm M5 ∧ RW m M M5 ∧ ∀ K k, lX11_aHole_149 K φ m (iI (2682 + 27 * H)) (k + 1) M = lX11_aHole_149 K φ m (iI (2682 + 27 * H)) k M5 := fun m M S => by
        obtain ⟨M3, g1, g2, g3, g4, A3, e3⟩ := mC m M S
        obtain ⟨M4, q1, q2, q3⟩ := (m_num hφ hB.1 hB.2 g1 g2 (to := 2682 + 27 * H + 3 + 2 * L + 1) (a := 1) (b := 99) (by omega) (by omega) (by omega)).1 h8
        rw [← hp4] at q2
        rw [← hvv] at q3
        have t4 : ∀ e : Int, 0 ≤ e → M4.1 (m + 1) e.toNat = if e = 2682 + 27 * H + 3 + 2 * L + 1 then iI v else if e = 2682 + 27 * H + 3 + 2 * L then iI r else M.1 (m + 1) e.toNat := fun e e0 => by
          rw [(q3.2.2 (m + 1) (by omega)).1]
          by_cases z : e = 2682 + 27 * H + 3 + 2 * L + 1
          · rw [if_pos z, rI_at rfl (by omega)]
          · rw [if_neg z, rI_nk (by omega)]; exact g3 e e0
        have c4 : M4.1 (m + 1) (2682 + 27 * H + 2).toNat = iI L := by
          rw [t4 _ (by omega), if_neg (by omega), if_neg (by omega), S.lays (by omega), hL]
        have frx : Fr (Rg (m + 1) (m + 1)) M4 (stI M4 (m + 1) (2682 + 27 * H + 2).toNat (iI (L + 1))) := Fr.stI ⟨by omega, by omega⟩ (Fr.refl M4)
        refine ⟨stI M4 (m + 1) (2682 + 27 * H + 2).toNat (iI (L + 1)), ⟨q2.fr frx (fun q => by have := q.1; omega) (fun q => by have := q.2; omega), MR.bed S.2.1 (by omega) (by omega) ?_ ?_ ?_ (fun e e0 e1 e2 e3 => ?_), ?_, ?_, ?_⟩, ((A3.trans (RW.st (e := 2682 + 27 * H + 3 + 2 * L + 1) (by omega) M3 _)).trans q3.rw).trans (RW.st (e := 2682 + 27 * H + 2) (by omega) M4 _), fun K k => ?_⟩
        · rw [hL, rI_nk (by omega), rI_nk (by omega), t4 _ (by omega), if_neg (by omega), if_pos rfl]
        · rw [hL, rI_nk (by omega), rI_nk (by omega), t4 _ (by omega), if_pos rfl]
        · rw [hL, rI_nk (by omega)]; exact rI_at rfl rfl
        · rw [hL] at e1 e2
          by_cases z : e = 2601
          · rw [z, f01]
            exact (rI_at rfl rfl).trans (rI_at rfl rfl).symm
          · rw [rI_nk (by omega), rI_nk (by omega), rI_nk (by omega), t4 e e0, if_neg e2, if_neg e1]
        · have t22 : (stI M4 (m + 1) (2682 + 27 * H + 2).toNat (iI (L + 1))).2 = M.2 := by
            show M4.2 = M.2
            rw [q3.2.1]
            exact g4
          unfold NB
          rw [t22, f01]
          exact S.2.2.1
        · rw [rI_ng (by omega), q3.1 18 (by omega) (by omega) (by omega) (by omega), rI_ng (by omega)]; exact g2
        · rw [f01, rI_nk (by omega)]
          have := t4 2601 (by omega)
          rw [if_neg (by omega), if_neg (by omega)] at this
          exact this.trans S.2.2.2.2
        · rw [e3, q1, bdP, if_neg i1n, c4, iI_add]
      have fH : u_bed F H r v 3 H 2 = L + 1 := by rw [ub_n, hL]
      have f011 : u_bed F H r v 0 1 0 = F 0 1 0 := by rw [f01]
      rcases ih p4 (L + 1) H (u_bed F H r v) d4 b4.1 (by omega) (by omega) fH (by omega) (by omega) with ⟨fk, fp, i0, i1, i2⟩ | ⟨F', q', i0, i1, i2, i3, i4, i5⟩
      · refine Or.inl ⟨fk, fp, i0, fun t ft gs M e S k hk => ?_, fun m M K S k hk => ?_⟩
        · obtain ⟨k, rfl⟩ : ∃ z, k = z + 1 := ⟨k - 1, by omega⟩
          obtain ⟨M5, S5, A5, e5⟩ := cD t ft gs M e S
          rw [e5]
          exact (i1 t ft gs M5 e S5 k (by omega)).le A5
        · obtain ⟨k, rfl⟩ : ∃ z, k = z + 1 := ⟨k - 1, by omega⟩
          obtain ⟨M5, S5, A5, e5⟩ := mD m M S
          rw [e5]
          exact (i2 m M5 K S5 k (by omega)).le A5
      · refine Or.inr ⟨F', q', i0, by omega, i2, i3.trans f01, fun t ft gs M e S k hk => ?_, fun m M K S k hk => ?_⟩
        · obtain ⟨k, rfl⟩ : ∃ z, k = z + 1 := ⟨k - 1, by omega⟩
          obtain ⟨M5, S5, A5, e5⟩ := cD t ft gs M e S
          obtain ⟨M6, j1, j2, j3⟩ := i4 t ft gs M5 e S5 k (by omega)
          exact ⟨M6, (e5 k).trans j1, j2, A5.trans j3⟩
        · obtain ⟨k, rfl⟩ : ∃ z, k = z + 1 := ⟨k - 1, by omega⟩
          obtain ⟨M5, S5, A5, e5⟩ := mD m M S
          obtain ⟨M6, j1, j2, j3⟩ := i5 m M5 K S5 k (by omega)
          exact ⟨M6, (e5 K k).trans j1, j2, A5.trans j3⟩
end BE
