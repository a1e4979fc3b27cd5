/-! the class's row of years: its begin and its end -/
def cF (yt : Nat) (k : Int32) (M : Mem) : Option (Int32 × Mem) := (ldr 6 (M.2.2 yt 2)).bind fun vr15 =>
 bd (fX6_refuseToken vr15 k M) fun v16 M17 =>
 if v16 = 0 ∨ v16 = 1 then some (v16, M17) else none
def kCe (yt : Nat) (f : Option (Int32 × Mem)) : Option (Int32 × Mem) := bd f fun v20 M21 =>
 if v20 = 0 then
 some ((0 : Int32), M21)
 else
 (ldr 6 (M21.2.2 yt 2)).bind fun vr22 =>
 bd (fX6_passSemicolon vr22 M21) fun v23 M24 =>
 if v23 = 0 then
 some ((0 : Int32), M24)
 else
 some ((1 : Int32), M24)
def kC (φ yt : Nat) (v3 v12 : Int32) (M13 : Mem) : Option (Int32 × Mem) := (ldr 8 (M13.2.2 yt 4)).bind fun vr15 =>
 bd (fX8_add vr15 v12 M13) fun v16 M17 =>
 if v3 = 0 then
 kCe yt (fX9_passRest φ yt v16 v12 M17)
 else
 ixk (M17.1 yt 1) 3 (nm (stI M17 (yt + 1) (M17.1 yt 1).toNatClampNeg v16) (fun M25 =>
 nm (stI M25 yt 1 ((M25.1 yt 1) + (1 : Int32))) (fun M26 =>
 kCe yt (fX9_passRest φ yt v16 v12 M26))))
def kG (φ yt : Nat) (v2 v3 : Int32) (M : Mem) : Option (Int32 × Mem) := (ldr 6 (M.2.2 yt 2)).bind fun vr9 =>
 bd (fX6_goOn vr9 M) fun vu10 M11 =>
 if v2 = (17 : Int32) then
 (ldr 6 (M11.2.2 yt 2)).bind fun vr27 =>
 (fX6_word vr27 M11).bind fun v28 =>
 jn ((ldr 6 (M11.2.2 yt 2)).bind fun vr30 =>
 bd (fX6_goOn vr30 M11) fun vu31 M32 =>
 kC φ yt v3 v28 M32) (fun J29 => if v28 = (18 : Int32) then
 J29
 else
 if v28 = (19 : Int32) then
 J29
 else
 if v28 = (20 : Int32) then
 J29
 else
 cF yt 2 M11)
 else
 kC φ yt v3 v2 M11
def kYb (φ yt : Nat) (v2 v3 : Int32) (M : Mem) : Option (Int32 × Mem) := (ldr 8 (M.2.2 yt 4)).bind fun vr6 =>
 (fX8_isFull vr6 M).bind fun v7 =>
 if v7 = 0 then
 if v3 = 0 then
 kG φ yt v2 v3 M
 else
 if (M.1 yt 1) < (3 : Int32) then
 kG φ yt v2 v3 M
 else
 cF yt 7 M
 else
 cF yt 6 M
def kP (φ yt : Nat) (v2 v3 : Int32) (M : Mem) : Option (Int32 × Mem) := if v3 = 0 then
 (fX9_isDoing v2 M).bind fun v45 =>
 if v45 = 0 then
 cF yt 2 M
 else
 kYb φ yt v2 v3 M
 else
 kYb φ yt v2 v3 M
theorem obnd {α β : Type} {o : Option α} {a : α} (h : o = some a) (f : α → Option β) : o.bind f = f a := by rw [h]; rfl
section YC1
variable {t yt g ys : Nat} {B : Int → Int} {n p N c d : Int} {F : Fld} {nn : NMs} {M : Mem} {Y : Yr} {U : Int → Int}
theorem c_step_eq {φ : Nat} {v : Int} (w : WTk n (tok B n p)) (e : EY t yt g ys) (S : CYo t yt g ys B n p F nn M) (h : wv (tok B n p) = v) : fX9_passStep φ yt M = if iI v = (22 : Int32) then bd (fX9_passEnd yt M) fun v51 M52 => if v51 = 0 ∨ v51 = 1 then some (v51, M52) else none else if iI v = (17 : Int32) then kP φ yt (iI v) 1 M else if iI v = (21 : Int32) then kP φ yt (iI v) 1 M else kP φ yt (iI v) 0 M := by
  have hl : ldr 6 (M.2.2 yt 2) = some t := by rw [S.2.2.2.1, ldr_ok e.1.1]
  have hw : fX6_word t M = some (iI v) := by rw [c_word w S.1, h]
  unfold fX9_passStep
  exact (obnd hl _).trans ((obnd hw _).trans rfl)
/-- the class, a row begun -/
def CRb (t yt g ys : Nat) (B : Int → Int) (n p : Int) (F : Fld) (nn : NMs) (N c d : Int) (Y : Yr) (U : Int → Int) (op : Bool) (v : Int) (M M18 : Mem) : Prop := YCd ys N c d Y U M ∧ CYo t yt g ys B n p F nn M18 ∧ M18.1 yt 1 = iI (cond op (d + 1) d) ∧ (∀ k : Int, 0 ≤ k → k < cond op (d + 1) d → M18.1 (yt + 1) k.toNat = iI ((cond op (dy_top U d N) U) k)) ∧ (M18.1 ys 2 = iI (N + 1) ∧ M18.1 ys 1 = iI (c + 1)) ∧ M18.1 (ys + 1) N.toNat = iI v ∧ (∀ j, 2 ≤ j → j ≤ 4 → M18.1 (ys + j) N.toNat = iI 0) ∧ cBl ys N M M18 ∧ RCw t yt ys 5 M M18
theorem c_rowBegin {φ : Nat} (e : EY t yt g ys) (hN : 0 ≤ N ∧ N < 60) (S : CYs t yt g ys B n p F nn N c d Y U M) {v : Int} (hv : 0 ≤ v ∧ v < 100 ∧ v ≠ 22) (op : Bool) (hd : 0 ≤ d ∧ d ≤ 3) (hop : op = true → d < 3) : ∃ M18, kC φ yt (bI op) (iI v) M = kCe yt (fX9_passRest φ yt (iI N) (iI v) M18) ∧ CRb t yt g ys B n p F nn N c d Y U op v M M18 := by
  obtain ⟨s1, s2, s3, s4⟩ := S
  obtain ⟨M4, a1, a2, a3, a4, a5, a6, a7, a8, a9⟩ := c_add (ys := ys) (M := M) (c := c) (k := v) hN s2.1.2 s2.1.1 ⟨hv.1, hv.2.1⟩
  rw [if_neg hv.2.2] at a3
  have e1 := e.2
  have lo : ∀ z, z < ys → M4.1 z = M.1 z := fun z h => (a9 z (fun q => by have := q.1; omega)).1
  have S4 : CYo t yt g ys B n p F nn M4 := s1.fr e a9 (fun z q => Or.inr (Or.inr q.1)) (by rw [a8])
  have w4 : RCw t yt ys 5 M M4 := ⟨fun i _ _ _ => by rw [lo t (by omega)], by rw [a8], a9.mono (fun z q => Or.inr (Or.inr q))⟩
  cases op with
  | false =>
    refine ⟨M4, ?_, s2, S4, by rw [lo yt (by omega)]; exact s3, fun k k0 k1 => by rw [lo (yt + 1) (by omega)]; exact s4 k k0 k1, ⟨a2, a3⟩, a4, a5, a7, w4⟩
    unfold kC
    rw [s1.2.2.2.2.2, ldr_ok e.1.2.2, sbind, a1, bdP, bI_f, if_pos i0e]
  | true =>
    have d3 := hop rfl
    obtain ⟨M6, hM6⟩ : ∃ M6, M6 = stI (stI M4 (yt + 1) d.toNat (iI N)) yt 1 (iI (d + 1)) := ⟨_, rfl⟩
    have f6 : Fr (fun z => z = yt ∨ z = yt + 1) M4 M6 := by
      rw [hM6]
      exact Fr.stI (Or.inl rfl) (Fr.stI (Or.inr rfl) (Fr.refl M4))
    have hi : ∀ z, ys ≤ z → M6.1 z = M4.1 z := fun z h => (f6 z (by omega)).1
    have q1 : M4.1 yt 1 = iI d := by rw [lo yt (by omega)]; exact s3
    have q2 : (stI M4 (yt + 1) d.toNat (iI N)).1 yt 1 = iI d := by rw [rI_ng (by omega)]; exact q1
    have e6 : M6.2 = M4.2 := by rw [hM6]; rfl
    refine ⟨M6, ?_, s2, S4.fr e f6 (fun z q => by omega) (by rw [e6]), by rw [hM6]; exact rI_at rfl rfl, fun k k0 k1 => ?_, ⟨by rw [hi ys (by omega)]; exact a2, by rw [hi ys (by omega)]; exact a3⟩, by rw [hi (ys + 1) (by omega)]; exact a4, fun j j0 j1 => by rw [hi (ys + j) (by omega)]; exact a5 j j0 j1, fun j i j0 j1 i1 => by rw [hi (ys + j) (by omega)]; exact a7 j i j0 j1 i1, w4.trans ⟨fun i _ _ _ => by rw [(f6 t (by omega)).1], by rw [e6], f6.mono (fun z q => by omega)⟩⟩
    · unfold kC
      rw [s1.2.2.2.2.2, ldr_ok e.1.2.2, sbind, a1, bdP, bI_t, if_neg i1n, q1, ixkI (by omega), iI_nat (by omega), nm_eq, q2, k_1, iI_add, nm_eq, ← hM6]
    · have k1 : k < d + 1 := k1
      show _ = iI (dy_top U d N k)
      rw [hM6, rI_ng (by omega)]
      by_cases z : k = d
      · rw [z, sp_t]
        exact rI_at rfl rfl
      · rw [sp_o U z, rI_nk (by omega), lo (yt + 1) (by omega)]
        exact s4 k k0 (by omega)
theorem c_semi (hB : HB B n) (hp : 0 ≤ p ∧ p ≤ n) (e : EY t yt g ys) (S : CYo t yt g ys B n p F nn M) : (isSg (tok B n p) 59 = true → ∃ M1, kCe yt (some (iI 1, M)) = some (iI 1, M1) ∧ CYo t yt g ys B n (nx B n p) F nn M1 ∧ cGo t M M1) ∧ (isSg (tok B n p) 59 = false → CFail t yt ys 5 (fkT (tok B n p) 2) (tok B n p).2.1 M (kCe yt (some (iI 1, M)))) := by
  have w := hB.w hp
  obtain ⟨a1, a2⟩ := c_passSemi w S.1
  refine ⟨fun q => ?_, fun q => ?_⟩
  · obtain ⟨M1, r1, r2, r3⟩ := a1 q
    refine ⟨M1, ?_, S.go2 e r2 r3, r3⟩
    unfold kCe
    rw [bdP, if_neg i1n, S.2.2.2.1, ldr_ok e.1.1, sbind, r1, bdP, if_neg i1n]
    rfl
  · refine CFail.of M ?_
    unfold kCe
    rw [bdP, if_neg i1n, S.2.2.2.1, ldr_ok e.1.1, sbind, a2 q, bdP, if_pos i0e]
    rfl
theorem c_rowEnd (hB : HB B n) (e : EY t yt g ys) (hN : 0 ≤ N ∧ N < 60) {q : Int} (hq : 0 ≤ q ∧ q ≤ n) {M18 M21 : Mem} {k0 v : Int} {op : Bool} {lc : List (Nat × Int)} {r : Int → Int} (hd : 0 ≤ d ∧ d ≤ 3) (R : CRb t yt g ys B n p F nn N c d Y U op v M M18) (S1 : CYo t yt g ys B n q F nn M21) (a1 : cRw t ys N M18 M21) (e1 : ∀ i, 2 ≤ i → i ≤ 4 → M21.1 (ys + i) = (wC ys N lc M18).1 (ys + i)) (hr : rowV v k0 op lc r) : (isSg (tok B n q) 59 = true → ∃ M2, kCe yt (some (iI 1, M21)) = some (iI 1, M2) ∧ CYs t yt g ys B n (nx B n q) F nn (N + 1) (c + 1) (cond op (d + 1) d) (dy_row Y N r) (cond op (dy_top U d N) U) M2 ∧ RCw t yt ys 5 M M2) ∧ (isSg (tok B n q) 59 = false → CFail t yt ys 5 (fkT (tok B n q) 2) (tok B n q).2.1 M (kCe yt (some (iI 1, M21)))) := by
  obtain ⟨b1, b2, b3, b4, ⟨b5, b6⟩, b7, b8, b9, b10⟩ := R
  have h2 := e.2
  obtain ⟨w1, w2⟩ := c_semi hB hq e S1
  have x : RCw t yt ys 5 M M21 := b10.trans a1.rcw
  refine ⟨fun z => ?_, fun z => CFail.le x (w2 z)⟩
  obtain ⟨M2, r1, r2, r3⟩ := w1 z
  have f : ∀ z, z ≠ t → (z < ys + 2 ∨ ys + 4 < z) → M2.1 z = M18.1 z := fun z h h' => by
    rw [(r3.2.2 z h).1, (a1.2.2.2 z (by omega)).1]
  have f2 : ∀ j, 2 ≤ j → j ≤ 4 → M2.1 (ys + j) = M21.1 (ys + j) := fun j _ _ => (r3.2.2 (ys + j) (by omega)).1
  refine ⟨M2, r1, ⟨r2, b1.put hN.1 (fun j i j1 j5 hi => ?_) (by rw [f ys (by omega) (by omega)]; exact b6) (by rw [f ys (by omega) (by omega)]; exact b5) (fun y y0 y1 hh k k0 k1 => ?_) ?_, by rw [f yt (by omega) (by omega)]; exact b3, fun k k0 k1 => by rw [f (yt + 1) (by omega) (by omega)]; exact b4 k k0 k1⟩, x.trans r3.rw⟩
  · by_cases q : j = 1 ∨ j = 5
    · rw [f (ys + j) (by omega) (by omega)]
      exact b9 j i j1 j5 hi
    · rw [f2 j (by omega) (by omega), a1.2.2.1 j i (by omega) (by omega) (by omega)]
      exact b9 j i j1 j5 hi
  · cases op with
    | false => exact hh k k0 k1
    | true =>
      have := hh k k0 (show k < d + 1 by omega)
      have s : dy_top U d N k = U k := sp_o U (by omega)
      rw [← s]
      exact this
  · refine hr.c (by rw [f (ys + 1) (by omega) (by omega)]; exact b7) (fun j j0 j1 => ?_) (fun ho l => ?_)
    · rw [f2 j j0 j1, e1 j j0 j1]
      exact wC_at j lc 0 M18 (b8 j j0 j1)
    · subst ho
      have := l d (by omega) (show d < d + 1 by omega)
      exact this (sp_t U d N)
end YC1
