/-! the reference's row of years: its begin and its end -/
def kF (φ t : Nat) (k : Int32) (M : Mem) : Option (Int32 × Mem) := bd (fX11_fails t k M) fun v6 M7 => if v6 = 0 ∨ v6 = 1 then some (v6, M7) else none
def kRn (φ t : Nat) (v1 v2 v3 : Int32) (M26 : Mem) : Option (Int32 × Mem) := if v1 = (19 : Int32) then
 nm (stI M26 t 21 ((M26.1 t 21) - (1 : Int32))) (fun M31 =>
 ixk (M31.1 t 21) 3 (
 ixk (v3 + (4 : Int32)) 3900 (nm (stI M31 (t + 1) (v3 + (4 : Int32)).toNatClampNeg (M31.1 (t + 8) (M31.1 t 21).toNatClampNeg)) (fun M32 =>
 ixk (M32.1 t 21) 3 (
 ixk (((2880 : Int32) + ((6 : Int32) * (M32.1 (t + 8) (M32.1 t 21).toNatClampNeg))) + (4 : Int32)) 3900 (nm (stI M32 (t + 1) (((2880 : Int32) + ((6 : Int32) * (M32.1 (t + 8) (M32.1 t 21).toNatClampNeg))) + (4 : Int32)).toNatClampNeg v2) (fun M33 =>
 bd (fX11_wantSign φ t (59 : Int32) M33) fun v34 M35 =>
 if v34 = 0 ∨ v34 = 1 then some (v34, M35) else none)))))))
 else
 bd (fX11_wantSign φ t (59 : Int32) M26) fun v28 M29 =>
 if v28 = 0 ∨ v28 = 1 then some (v28, M29) else none
def kRt (φ t : Nat) (v1 v2 v3 v4 : Int32) (f : Option (Int32 × Mem)) : Option (Int32 × Mem) := bd f fun v24 M25 =>
 if v24 = 0 then
 some ((0 : Int32), M25)
 else
 if v4 = 0 then
 kRn φ t v1 v2 v3 M25
 else
 ixk (M25.1 t 21) 3 (nm (stI M25 (t + 8) (M25.1 t 21).toNatClampNeg v2) (fun M37 =>
 nm (stI M37 t 21 ((M37.1 t 21) + (1 : Int32))) (fun M38 =>
 kRn φ t v1 v2 v3 M38)))
def kA (φ t : Nat) (v1 v2 v3 v4 v15 : Int32) (M : Mem) : Option (Int32 × Mem) := nm (stI M t 22 ((M.1 t 22) + v15)) (fun M17 =>
 ixk v3 3900 (nm (stI M17 (t + 1) v3.toNatClampNeg v1) (fun M18 =>
 lX11_step_147 (fun (M20 : Mem) => ixk (2604 : Int32) 3900 (
 ixk (2604 : Int32) 3900 (nm (stI M20 (t + 1) (2604 : Int32).toNatClampNeg ((M20.1 (t + 1) (2604 : Int32).toNatClampNeg) + (1 : Int32))) (fun M21 =>
 bd (fX11_ahead φ t M21) fun vu22 M23 =>
 kRt φ t v1 v2 v3 v4 (fX11_yearOrder φ t v1 v3 M23))))) t v1 v2 v3 v4 φ (1 : Int32) M18)))
def kS (φ t : Nat) (v1 v2 v3 v4 : Int32) (M : Mem) : Option (Int32 × Mem) := if v1 < (13 : Int32) then kF φ t 2 M else if (20 : Int32) < v1 then kF φ t 2 M else
 (jn (jn (jn (if v1 = (19 : Int32) then kA φ t v1 v2 v3 v4 0 M else kA φ t v1 v2 v3 v4 1 M) (fun J14 => if v4 = 0 then J14 else if (M.1 t 21) = (3 : Int32) then kF φ t 7 M else J14)) (fun J13 => if v1 = (19 : Int32) then J13 else if (M.1 t 22) = (30 : Int32) then kF φ t 6 M else J13)) (fun J12 => if v1 = (19 : Int32) then if (M.1 t 21) = 0 then kF φ t 2 M else J12 else J12))
section YM1
variable {m : Nat} {B : Int → Int} {n p N c d : Int} {F : Fld} {nn : NMs} {M : Mem} {Y : Yr} {U : Int → Int}
theorem m_step_eq {φ : Nat} {v : Int} (h : fX11_inWords φ m 1002 M = some (iI v)) (h2 : M.1 (m + 1) (Int.toNat 2604) = iI N) : fX11_step φ m M = if iI v = (17 : Int32) then kS φ m (iI v) (iI N) (iI (2880 + 6 * N)) 1 M else if iI v = (18 : Int32) then kS φ m (iI v) (iI N) (iI (2880 + 6 * N)) 1 M else kS φ m (iI v) (iI N) (iI (2880 + 6 * N)) 0 M := by
  have e3 : (2880 : Int32) + (6 : Int32) * iI N = iI (2880 + 6 * N) := by rw [k_2880, k_6, iI_mul, iI_add]
  have ix : ∀ E : Option (Int32 × Mem), ixk (2604 : Int32) 3900 E = E := fun E => ixkI (i := 2604) (by omega)
  have h2' : M.1 (m + 1) (2604 : Int32).toNatClampNeg = iI N := h2
  unfold fX11_step
  rw [h, sbind, ix, h2', nm_eq, e3, nm_eq, jn_eq]
  rfl
theorem m_rowBegin {φ : Nat} (hφ : 2000 < φ) (hB : HB B n) (hN : 0 ≤ N ∧ N < 60) (S : MYs m B n p F nn N c d Y U M) (v : Int) (v4 : Int32) (inc : Int) : ∃ M23, kA φ m (iI v) (iI N) (iI (2880 + 6 * N)) v4 (iI inc) M = kRt φ m (iI v) (iI N) (iI (2880 + 6 * N)) v4 (fX11_yearOrder φ m (iI v) (iI (2880 + 6 * N)) M23) ∧ MYo m B n (nx B n p) F nn M23 ∧ M23.1 m 21 = iI d ∧ M23.1 m 22 = iI (c + inc) ∧ (∀ k : Int, M23.1 (m + 8) k.toNat = M.1 (m + 8) k.toNat) ∧ M23.1 (m + 1) (Int.toNat 2604) = iI (N + 1) ∧ (∀ e : Int, 2880 ≤ e → e < 2880 + 6 * N → M23.1 (m + 1) e.toNat = M.1 (m + 1) e.toNat) ∧ M23.1 (m + 1) (2880 + 6 * N).toNat = iI v ∧ (∀ k, 1 ≤ k → k < 6 → M23.1 (m + 1) (2880 + 6 * N + k).toNat = iI 0) ∧ mYx m M M23 := by
  obtain ⟨s1, s2, ⟨s3, s4⟩, s5⟩ := S
  obtain ⟨M18, hM18⟩ : ∃ M18, M18 = stI (stI M m 22 (iI (c + inc))) (m + 1) (2880 + 6 * N).toNat (iI v) := ⟨_, rfl⟩
  have x18 : mYx m M M18 := by
    rw [hM18]
    exact (mYx.cell (Or.inr rfl) M _).trans (mYx.row (by omega) _ _)
  obtain ⟨M20, r1, r2, r3, r4⟩ := m_step147 (m := m) (fun (M20 : Mem) => ixk (2604 : Int32) 3900 (
 ixk (2604 : Int32) 3900 (nm (stI M20 (m + 1) (2604 : Int32).toNatClampNeg ((M20.1 (m + 1) (2604 : Int32).toNatClampNeg) + (1 : Int32))) (fun M21 =>
 bd (fX11_ahead φ m M21) fun vu22 M23 =>
 kRt φ m (iI v) (iI N) (iI (2880 + 6 * N)) v4 (fX11_yearOrder φ m (iI v) (iI (2880 + 6 * N)) M23))))) (iI v) (iI N) v4 (v := 2880 + 6 * N) (by omega) M18 φ 1 (by omega) (by omega) (by omega) (by omega) M18 (fun e e0 => by rw [if_neg (by omega)])
  have x20 : mYx m M18 M20 := ⟨fun i _ _ _ _ _ _ => by rw [(r3 m (fun q => by have := q.1; omega)).1], r2, fun e e0 e1 => by rw [r4 e e0, if_neg (by omega)], r3.mono (fun z q => by have := q.1; have := q.2; omega)⟩
  obtain ⟨M21, hM21⟩ : ∃ M21, M21 = stI M20 (m + 1) (Int.toNat 2604) (iI (N + 1)) := ⟨_, rfl⟩
  have x21 : mYx m M20 M21 := by
    rw [hM21]
    exact mYx.row (e := 2604) (by omega) _ _
  have x := (x18.trans x20).trans x21
  have c21 : ∀ i, i ≠ 22 → M21.1 m i = M.1 m i := fun i hi => by
    rw [hM21, rI_ng (by omega), (r3 m (fun q => by have := q.1; omega)).1, hM18, rI_ng (by omega), rI_nk hi]
  have k21 : ∀ z, z ≠ m → z ≠ m + 1 → M21.1 z = M.1 z := fun z h0 h1 => by
    funext i
    rw [hM21, rI_ng h1, (r3 z (fun q => by have := q.1; have := q.2; omega)).1, hM18, rI_ng h1, rI_ng h0]
  have R : RKp m B n p M21 := s1.1.eq (fun i i0 i1 => c21 i (by omega)) (k21 _ (by omega) (by omega))
  obtain ⟨M23, g1, g2, g3⟩ := m_goOn hφ hB.1 hB.2 R
  have t1 : M23.1 (m + 1) = M21.1 (m + 1) := (g3.2.2 (m + 1) (by omega)).1
  have p20 : M20.1 (m + 1) (Int.toNat 2604) = iI N := by
    have q := r4 2604 (by omega)
    rw [if_neg (by omega), hM18, rI_nk (by omega), rI_ng (by omega)] at q
    exact q.trans s2.1
  have c22 : M21.1 m 22 = iI (c + inc) := by
    rw [hM21, rI_ng (by omega), (r3 m (fun q => by have := q.1; omega)).1, hM18, rI_ng (by omega)]
    exact rI_at rfl rfl
  refine ⟨M23, ?_, s1.x g2 (x.trans g3.yx), by rw [g3.1 21 (by omega) (by omega) (by omega) (by omega), c21 21 (by omega)]; exact s3, by rw [g3.1 22 (by omega) (by omega) (by omega) (by omega)]; exact c22, fun k => by rw [(g3.2.2 (m + 8) (by omega)).1, k21 _ (by omega) (by omega)], by rw [t1, hM21]; exact rI_at rfl rfl, fun e e0 e1 => ?_, ?_, fun k k0 k1 => ?_, x.trans g3.yx⟩
  · have ix : ∀ E : Option (Int32 × Mem), ixk (2604 : Int32) 3900 E = E := fun E => ixkI (i := 2604) (by omega)
    have e17 : (iI (2880 + 6 * N)).toNatClampNeg = (2880 + 6 * N).toNat := iI_nat (by omega)
    have p20' : M20.1 (m + 1) (2604 : Int32).toNatClampNeg = iI N := p20
    have h21 : stI M20 (m + 1) (2604 : Int32).toNatClampNeg (iI N + (1 : Int32)) = M21 := by
      rw [hM21, k_1, iI_add]
      rfl
    unfold kA
    rw [s4, iI_add, nm_eq, ixkI (by omega), e17, nm_eq, ← hM18]
    refine r1.trans ?_
    show ixk (2604 : Int32) 3900 (ixk (2604 : Int32) 3900 (nm (stI M20 (m + 1) (2604 : Int32).toNatClampNeg ((M20.1 (m + 1) (2604 : Int32).toNatClampNeg) + (1 : Int32))) _)) = _
    rw [ix, ix, p20', h21, nm_eq, g1, bdP]
  · rw [t1, hM21, rI_nk (by omega), r4 e (by omega), if_neg (by omega), hM18, rI_nk (by omega), rI_ng (by omega)]
  · rw [t1, hM21, rI_nk (by omega), r4 _ (by omega), if_neg (by omega), hM18]
    exact rI_at rfl rfl
  · rw [t1, hM21, rI_nk (by omega), r4 _ (by omega), if_pos (by omega)]
/-- the reference, a row begun: its kind stands, its other places are 0 -/
def MRb (m : Nat) (B : Int → Int) (n p : Int) (F : Fld) (nn : NMs) (N c d : Int) (Y : Yr) (U : Int → Int) (k0 : Int) (M M23 : Mem) : Prop := YMd m N Y M ∧ MYo m B n p F nn M23 ∧ (M23.1 m 21 = iI d ∧ M23.1 m 22 = iI (c + 1)) ∧ (∀ k : Int, 0 ≤ k → k < d → M23.1 (m + 8) k.toNat = iI (U k)) ∧ M23.1 (m + 1) (Int.toNat 2604) = iI (N + 1) ∧ (∀ e : Int, 2880 ≤ e → e < 2880 + 6 * N → M23.1 (m + 1) e.toNat = M.1 (m + 1) e.toNat) ∧ M23.1 (m + 1) (2880 + 6 * N).toNat = iI k0 ∧ (∀ k, 1 ≤ k → k < 6 → M23.1 (m + 1) (2880 + 6 * N + k).toNat = iI 0) ∧ mYx m M M23
theorem m_wS {φ : Nat} (hφ : 2000 < φ) (hB : HB B n) (S : MYo m B n p F nn M) {v : Int} {v2 v3 : Int32} (hv : ¬ (iI v = (19 : Int32))) : (isSg (tok B n p) 59 = true → ∃ M1, kRn φ m (iI v) v2 v3 M = some (iI 1, M1) ∧ MYo m B n (nx B n p) F nn M1 ∧ mAh m M M1) ∧ (isSg (tok B n p) 59 = false → MFail m (fkT (tok B n p) 2) (tok B n p).2.1 M (kRn φ m (iI v) v2 v3 M)) := by
  obtain ⟨a1, a2⟩ := m_wSign hφ hB.1 hB.2 S.1 S.2.2.2
  have z59 : (59 : Int32) = iI 59 := rfl
  refine ⟨fun q => ?_, fun q => ?_⟩
  · obtain ⟨M1, r1, r2, r3⟩ := a1 q
    refine ⟨M1, ?_, S.x r2 r3.yx, r3⟩
    unfold kRn
    rw [if_neg hv, z59, r1, bdP, if_pos (Or.inr (show iI 1 = (1 : Int32) from rfl))]
  · refine MFail.of M ?_
    unfold kRn
    rw [if_neg hv, z59, a2 q, bdP, if_pos (Or.inl i0e)]
theorem m_rowEnd {φ : Nat} (hφ : 2000 < φ) (hB : HB B n) (hN : 0 ≤ N ∧ N < 60) {q : Int} {M23 M25 : Mem} {k0 v : Int} {v3 : Int32} {op : Bool} {lm : List (Int × Int)} (hd : 0 ≤ d ∧ d ≤ 3) (hop : op = true → d < 3) (hv : ¬ (iI v = (19 : Int32))) (R : MRb m B n p F nn N c d Y U k0 M M23) (S5 : MYo m B n q F nn M25) (a5 : mRw m M23 M25) (e5 : M25.1 (m + 1) = (wM m N lm M23).1 (m + 1)) (hl : ∀ w ∈ lm, 1 ≤ w.1 ∧ w.1 < 6) : (isSg (tok B n q) 59 = true → ∃ M1, kRt φ m (iI v) (iI N) v3 (bI op) (some (iI 1, M25)) = some (iI 1, M1) ∧ MYs m B n (nx B n q) F nn (N + 1) (c + 1) (cond op (d + 1) d) (dy_row Y N (rowR k0 lm)) (cond op (dy_top U d N) U) M1 ∧ mYx m M M1) ∧ (isSg (tok B n q) 59 = false → MFy m (fkT (tok B n q) 2) (tok B n q).2.1 M (kRt φ m (iI v) (iI N) v3 (bI op) (some (iI 1, M25)))) := by
  obtain ⟨b1, b2, ⟨b3, b4⟩, b5, b6, b7, b8, b9, b10⟩ := R
  have t25 : ∀ i, i ≠ 12 → i ≠ 13 → i ≠ 14 → i ≠ 15 → M25.1 m i = M23.1 m i := a5.1
  have k25 : M25.1 (m + 8) = M23.1 (m + 8) := (a5.2.2.2 (m + 8) (by omega)).1
  -- the push
  obtain ⟨M6, h6, S6, x6, c21, c22, sk, st⟩ : ∃ M6, kRt φ m (iI v) (iI N) v3 (bI op) (some (iI 1, M25)) = kRn φ m (iI v) (iI N) v3 M6 ∧ MYo m B n q F nn M6 ∧ mYx m M25 M6 ∧ M6.1 m 21 = iI (cond op (d + 1) d) ∧ M6.1 m 22 = iI (c + 1) ∧ (∀ k : Int, 0 ≤ k → k < cond op (d + 1) d → M6.1 (m + 8) k.toNat = iI ((cond op (dy_top U d N) U) k)) ∧ M6.1 (m + 1) = M25.1 (m + 1) := by
    cases op with
    | false =>
      refine ⟨M25, ?_, S5, mYx.refl m M25, by rw [t25 21 (by omega) (by omega) (by omega) (by omega)]; exact b3, by rw [t25 22 (by omega) (by omega) (by omega) (by omega)]; exact b4, fun k k0 k1 => by rw [k25]; exact b5 k k0 k1, rfl⟩
      unfold kRt
      rw [bdP, if_neg i1n, bI_f, if_pos i0e]
    | true =>
      have d3 := hop rfl
      have x6 : mYx m M25 (stI (stI M25 (m + 8) d.toNat (iI N)) m 21 (iI (d + 1))) := (mYx.stk _ _ _).trans (mYx.cell (Or.inl rfl) _ _)
      have c21 : M25.1 m 21 = iI d := by rw [t25 21 (by omega) (by omega) (by omega) (by omega)]; exact b3
      have c21' : (stI M25 (m + 8) d.toNat (iI N)).1 m 21 = iI d := by rw [rI_ng (by omega)]; exact c21
      refine ⟨stI (stI M25 (m + 8) d.toNat (iI N)) m 21 (iI (d + 1)), ?_, S5.x (S5.1.eq (fun i i0 i1 => by rw [rI_nk (by omega), rI_ng (by omega)]) (by funext i; rw [rI_ng (by omega), rI_ng (by omega)])) x6, x6, rI_at rfl rfl, by rw [rI_nk (by omega), rI_ng (by omega), t25 22 (by omega) (by omega) (by omega) (by omega)]; exact b4, fun k k0 k1 => ?_, by funext i; rw [rI_ng (by omega), rI_ng (by omega)]⟩
      · unfold kRt
        rw [bdP, if_neg i1n, bI_t, if_neg i1n, c21, ixkI (by omega), iI_nat (by omega), nm_eq, c21', k_1, iI_add, nm_eq]
      · have k1 : k < d + 1 := k1
        show _ = iI (dy_top U d N k)
        rw [rI_ng (by omega)]
        by_cases z : k = d
        · rw [z, sp_t]
          exact rI_at rfl rfl
        · rw [sp_o U z, rI_nk (by omega), k25]
          exact b5 k k0 (by omega)
  have x5 : mYx m M M6 := (b10.trans a5.yx).trans x6
  obtain ⟨w1, w2⟩ := m_wS hφ hB S6 (v := v) (v2 := iI N) (v3 := v3) hv
  rw [h6]
  refine ⟨fun z => ?_, fun z => MFy.le x5.yw (w2 z).y⟩
  obtain ⟨M1, r1, r2, r3⟩ := w1 z
  have t1 : M1.1 (m + 1) = (wM m N lm M23).1 (m + 1) := by rw [(r3.2.2 (m + 1) (by omega)).1, st, e5]
  have n0 := hN.1
  refine ⟨M1, r1, ⟨r2, b1.put hN.1 ?_ (fun e e0 e1 => ?_) (fun k k0' k1 => ?_), ⟨by rw [r3.1 21 (by omega) (by omega) (by omega) (by omega)]; exact c21, by rw [r3.1 22 (by omega) (by omega) (by omega) (by omega)]; exact c22⟩, fun k k0 k1 => by rw [(r3.2.2 (m + 8) (by omega)).1]; exact sk k k0 k1⟩, x5.trans r3.yx⟩
  · have := wM_no (m := m) hN.1 (e := 2604) (by omega) lm M23 hl
    rw [t1]
    exact this.trans b6
  · rw [t1, wM_no hN.1 (by omega) lm M23 hl]
    exact b7 e e0 e1
  · rw [t1]
    by_cases z0 : k = 0
    · rw [z0, Int.add_zero, wM_no hN.1 (by omega) lm M23 hl]
      exact b8
    · have := wM_at (m := m) (c := k) hN.1 (by omega) lm 0 M23 hl (b9 k (by omega) k1)
      rw [this]
      show _ = iI (if k = 0 then k0 else rM lm k)
      rw [if_neg z0]
      rfl
end YM1
