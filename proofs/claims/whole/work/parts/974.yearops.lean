/-! names and numbers of a years' row, the class -/
/-- a field and its names that years' text is read over -/
def DX (F : Fld) (nm : NMs) : Prop := WF F ∧ WN F nm ∧ True
def EY (t yt g ys : Nat) : Prop := (isO 6 t ∧ isO 2 g ∧ isO 8 ys) ∧ t + 5 < yt ∧ yt + 1 < g ∧ g + 13 < ys
def CYo (t yt g ys : Nat) (B : Int → Int) (n p : Int) (F : Fld) (nn : NMs) (M : Mem) : Prop := RDp t B n p M ∧ GR g F M ∧ NCn g F nn M ∧ M.2.2 yt 2 = some t ∧ M.2.2 yt 3 = some g ∧ M.2.2 yt 4 = some ys
/-- what a row's reading changes: the reader's place and the row's own cells -/
def cRw (t ys : Nat) (N : Int) (M M1 : Mem) : Prop := (∀ i, i ≠ 7 → M1.1 t i = M.1 t i) ∧ M1.2 = M.2 ∧ (∀ j i, 2 ≤ j → j ≤ 4 → i ≠ N.toNat → M1.1 (ys + j) i = M.1 (ys + j) i) ∧ Fr (fun z => z = t ∨ (ys + 2 ≤ z ∧ z ≤ ys + 4)) M M1
theorem cRw.refl (t ys : Nat) (N : Int) (M : Mem) : cRw t ys N M M := ⟨fun _ _ => rfl, rfl, fun _ _ _ _ _ => rfl, Fr.refl M⟩
theorem cRw.trans {t ys : Nat} {N : Int} {M M1 M2 : Mem} (a : cRw t ys N M M1) (b : cRw t ys N M1 M2) : cRw t ys N M M2 := ⟨fun i h => (b.1 i h).trans (a.1 i h), b.2.1.trans a.2.1, fun j i h1 h2 h3 => (b.2.2.1 j i h1 h2 h3).trans (a.2.2.1 j i h1 h2 h3), a.2.2.2.trans b.2.2.2⟩
theorem cRw.rcw {t ys yt : Nat} {N : Int} {M M1 : Mem} (a : cRw t ys N M M1) : RCw t yt ys 5 M M1 := ⟨fun i h _ _ => a.1 i h, by rw [a.2.1], a.2.2.2.mono (fun z q => by omega)⟩
theorem cGo.crw {t ys : Nat} {N : Int} {M M1 : Mem} (hd : t < ys) (a : cGo t M M1) : cRw t ys N M M1 := ⟨a.1, a.2.1, fun j i h1 h2 h3 => by rw [(a.2.2 (ys + j) (by omega)).1], a.2.2.mono (fun z q => Or.inl q)⟩
theorem cRw.st {t ys j : Nat} {N : Int} (hd : t < ys) (hj : 2 ≤ j ∧ j ≤ 4) (M : Mem) (v : Int32) : cRw t ys N M (stI M (ys + j) N.toNat v) := ⟨fun i h => rI_ng (by omega), rfl, fun k i h1 h2 h3 => rI_nk h3, Fr.stI (Or.inr ⟨by omega, by omega⟩) (Fr.refl M)⟩
section YO
variable {t yt g ys : Nat} {B : Int → Int} {n p N : Int} {F : Fld} {nn : NMs} {M : Mem}
theorem CYo.go {M1 : Mem} (e : EY t yt g ys) (S : CYo t yt g ys B n p F nn M) {q : Int} (h : RDp t B n q M1) (a : cRw t ys N M M1) : CYo t yt g ys B n q F nn M1 := by
  obtain ⟨s1, s2, s3, s4, s5, s6⟩ := S
  obtain ⟨e0, e1, e2, e3⟩ := e
  exact ⟨h, s2.fr a.2.2.2 (fun z a b q => by omega), s3.fr a.2.2.2 (by omega) (by omega) (by omega), by rw [a.2.1]; exact s4, by rw [a.2.1]; exact s5, by rw [a.2.1]; exact s6⟩
theorem CYo.st {j : Nat} (e : EY t yt g ys) (hj : 2 ≤ j ∧ j ≤ 4) (S : CYo t yt g ys B n p F nn M) (v : Int32) : CYo t yt g ys B n p F nn (stI M (ys + j) N.toNat v) := by
  have h := e.2
  exact S.go (N := N) e (S.1.fr (Fr.stI (S := fun z => z = ys + j) rfl (Fr.refl M)) (fun z hz q => by omega)) (cRw.st (by omega) hj M v)
theorem c_nameOf (hB : HB B n) (hp : 0 ≤ p ∧ p ≤ n) (e : EY t yt g ys) (S : CYo t yt g ys B n p F nn M) {v : Int} (hv : -1 ≤ v ∧ v < 100) : (v = -1 → CFail t yt ys 5 (fkT (tok B n p) (if isNm (tok B n p) = true then 3 else 2)) (tok B n p).2.1 M (fX9_passNameOf yt (iI v) M)) ∧ (v ≠ -1 → ∃ M1, fX9_passNameOf yt (iI v) M = some (iI 1, M1) ∧ RDp t B n (nx B n p) M1 ∧ cGo t M M1) := by
  have w := hB.w hp
  obtain ⟨s1, s2, s3, s4, s5, s6⟩ := S
  refine ⟨fun q => ?_, fun q => ?_⟩
  · refine CFail.of M ?_
    unfold fX9_passNameOf
    rw [q, if_pos (show iI (-1) = (-1 : Int32) from rfl), s4, ldr_ok e.1.1, sbind, sbind, c_nameFault w s1, sbind, c_refuse w s1, bdP, if_pos (Or.inl i0e)]
  · obtain ⟨M1, r1, r2, r3⟩ := c_goOn s1
    refine ⟨M1, ?_, r2, r3⟩
    have nz : ¬ (iI v = (-1 : Int32)) := by
      show ¬ (iI v = iI (-1))
      rw [iI_eq (by omega) (by omega)]
      exact q
    unfold fX9_passNameOf
    rw [if_neg nz, s4, ldr_ok e.1.1, sbind, r1, bdP]
    rfl
theorem c_yHole {φ : Nat} (hφ : 2000 < φ) (hB : HB B n) (hp : 0 ≤ p ∧ p ≤ n) (dw : DX F nn) (e : EY t yt g ys) (S : CYo t yt g ys B n p F nn M) (hN : 0 ≤ N ∧ N < 60) : (fN (nn 1) (F 0 1 0) (tok B n p).2.2.2.2 = -1 → CFail t yt ys 5 (fkT (tok B n p) (if isNm (tok B n p) = true then 3 else 2)) (tok B n p).2.1 M (fX9_passHole φ yt (iI N) M)) ∧ (fN (nn 1) (F 0 1 0) (tok B n p).2.2.2.2 ≠ -1 → ∃ M1, fX9_passHole φ yt (iI N) M = some (iI 1, M1) ∧ CYo t yt g ys B n (nx B n p) F nn M1 ∧ cRw t ys N M M1 ∧ (∀ j, 2 ≤ j → j ≤ 4 → M1.1 (ys + j) = (stI M (ys + 2) N.toNat (iI (fN (nn 1) (F 0 1 0) (tok B n p).2.2.2.2))).1 (ys + j))) := by
  have w := hB.w hp
  have h2 := e.2
  have kk := dw.1.n1
  have S0 := S
  obtain ⟨s1, s2, s3, s4, s5, s6⟩ := S
  have en := c_holeNamed dw.1 s2 s3 dw.2.1 (nc_bd w) (φ := φ) (by omega)
  obtain ⟨v, hv⟩ : ∃ v, v = fN (nn 1) (F 0 1 0) (tok B n p).2.2.2.2 := ⟨_, rfl⟩
  have vb0 := fN_bd (nn 1) (N := F 0 1 0) (c := (tok B n p).2.2.2.2) (by omega)
  have vb : -1 ≤ fN (nn 1) (F 0 1 0) (tok B n p).2.2.2.2 ∧ fN (nn 1) (F 0 1 0) (tok B n p).2.2.2.2 < 100 := by omega
  rw [← hv] at en vb ⊢
  have S6 := S0.st (N := N) e (j := 2) (by omega) (iI v)
  obtain ⟨a1, a2⟩ := c_nameOf hB hp e S6 vb
  have l6 : (stI M (ys + 2) N.toNat (iI v)).2.2 yt 4 = some ys := s6
  have ev : (stI M (ys + 2) N.toNat (iI v)).1 (ys + 2) N.toNat = iI v := rI_at rfl rfl
  have eq : fX9_passHole φ yt (iI N) M = bd (fX9_passNameOf yt (iI v) (stI M (ys + 2) N.toNat (iI v))) fun v8 M9 => if v8 = 0 ∨ v8 = 1 then some (v8, M9) else none := by
    unfold fX9_passHole
    rw [s6, ldr_ok e.1.2.2, sbind, s5, ldr_ok e.1.2.1, sbind, s4, ldr_ok e.1.1, sbind, c_name s1, sbind, en, sbind, ixkI (by omega), iI_nat (by omega), nm_eq, l6, ldr_ok e.1.2.2, sbind, ixkI (by omega), ev]
  have c0 : cRw t ys N M (stI M (ys + 2) N.toNat (iI v)) := cRw.st (by omega) (by omega) M _
  refine ⟨fun q => ?_, fun q => ?_⟩
  · obtain ⟨M1, r1, r2⟩ := a1 q
    refine CFail.le c0.rcw ⟨M1, ?_, r2⟩
    rw [eq, r1, bdP, if_pos (Or.inl i0e)]
  · obtain ⟨M1, r1, r2, r3⟩ := a2 q
    have c1 : cRw t ys N (stI M (ys + 2) N.toNat (iI v)) M1 := r3.crw (by omega)
    refine ⟨M1, ?_, S6.go (N := N) e r2 c1, c0.trans c1, fun j j0 j1 => by rw [(r3.2.2 (ys + j) (by omega)).1]⟩
    rw [eq, r1, bdP, if_pos (Or.inr (show iI 1 = (1 : Int32) from rfl))]
theorem c_yRock {φ : Nat} (hφ : 2000 < φ) (hB : HB B n) (hp : 0 ≤ p ∧ p ≤ n) (dw : DX F nn) (e : EY t yt g ys) (S : CYo t yt g ys B n p F nn M) (hN : 0 ≤ N ∧ N < 60) : (fN (nn 0) (F 0 0 0) (tok B n p).2.2.2.2 = -1 → CFail t yt ys 5 (fkT (tok B n p) (if isNm (tok B n p) = true then 3 else 2)) (tok B n p).2.1 M (fX9_passRock φ yt (iI N) M)) ∧ (fN (nn 0) (F 0 0 0) (tok B n p).2.2.2.2 ≠ -1 → ∃ M1, fX9_passRock φ yt (iI N) M = some (iI 1, M1) ∧ CYo t yt g ys B n (nx B n p) F nn M1 ∧ cRw t ys N M M1 ∧ (∀ j, 2 ≤ j → j ≤ 4 → M1.1 (ys + j) = (stI M (ys + 3) N.toNat (iI (fN (nn 0) (F 0 0 0) (tok B n p).2.2.2.2))).1 (ys + j))) := by
  have w := hB.w hp
  have h2 := e.2
  have kk := dw.1.n0
  have S0 := S
  obtain ⟨s1, s2, s3, s4, s5, s6⟩ := S
  have en := c_rockNamed dw.1 s2 s3 dw.2.1 (nc_bd w) (φ := φ) (by omega)
  obtain ⟨v, hv⟩ : ∃ v, v = fN (nn 0) (F 0 0 0) (tok B n p).2.2.2.2 := ⟨_, rfl⟩
  have vb0 := fN_bd (nn 0) (N := F 0 0 0) (c := (tok B n p).2.2.2.2) (by omega)
  have vb : -1 ≤ fN (nn 0) (F 0 0 0) (tok B n p).2.2.2.2 ∧ fN (nn 0) (F 0 0 0) (tok B n p).2.2.2.2 < 100 := by omega
  rw [← hv] at en vb ⊢
  have S6 := S0.st (N := N) e (j := 3) (by omega) (iI v)
  obtain ⟨a1, a2⟩ := c_nameOf hB hp e S6 vb
  have l6 : (stI M (ys + 3) N.toNat (iI v)).2.2 yt 4 = some ys := s6
  have ev : (stI M (ys + 3) N.toNat (iI v)).1 (ys + 3) N.toNat = iI v := rI_at rfl rfl
  have eq : fX9_passRock φ yt (iI N) M = bd (fX9_passNameOf yt (iI v) (stI M (ys + 3) N.toNat (iI v))) fun v8 M9 => if v8 = 0 ∨ v8 = 1 then some (v8, M9) else none := by
    unfold fX9_passRock
    rw [s6, ldr_ok e.1.2.2, sbind, s5, ldr_ok e.1.2.1, sbind, s4, ldr_ok e.1.1, sbind, c_name s1, sbind, en, sbind, ixkI (by omega), iI_nat (by omega), nm_eq, l6, ldr_ok e.1.2.2, sbind, ixkI (by omega), ev]
  have c0 : cRw t ys N M (stI M (ys + 3) N.toNat (iI v)) := cRw.st (by omega) (by omega) M _
  refine ⟨fun q => ?_, fun q => ?_⟩
  · obtain ⟨M1, r1, r2⟩ := a1 q
    refine CFail.le c0.rcw ⟨M1, ?_, r2⟩
    rw [eq, r1, bdP, if_pos (Or.inl i0e)]
  · obtain ⟨M1, r1, r2, r3⟩ := a2 q
    have c1 : cRw t ys N (stI M (ys + 3) N.toNat (iI v)) M1 := r3.crw (by omega)
    refine ⟨M1, ?_, S6.go (N := N) e r2 c1, c0.trans c1, fun j j0 j1 => by rw [(r3.2.2 (ys + j) (by omega)).1]⟩
    rw [eq, r1, bdP, if_pos (Or.inr (show iI 1 = (1 : Int32) from rfl))]
theorem c_yFault {φ : Nat} (hφ : 2000 < φ) (hB : HB B n) (hp : 0 ≤ p ∧ p ≤ n) (dw : DX F nn) (e : EY t yt g ys) (S : CYo t yt g ys B n p F nn M) (hN : 0 ≤ N ∧ N < 60) : (fN (nn 2) (F 0 3 0) (tok B n p).2.2.2.2 = -1 → CFail t yt ys 5 (fkT (tok B n p) (if isNm (tok B n p) = true then 3 else 2)) (tok B n p).2.1 M (fX9_passFault φ yt (iI N) M)) ∧ (fN (nn 2) (F 0 3 0) (tok B n p).2.2.2.2 ≠ -1 → ∃ M1, fX9_passFault φ yt (iI N) M = some (iI 1, M1) ∧ CYo t yt g ys B n (nx B n p) F nn M1 ∧ cRw t ys N M M1 ∧ (∀ j, 2 ≤ j → j ≤ 4 → M1.1 (ys + j) = (stI M (ys + 2) N.toNat (iI (fN (nn 2) (F 0 3 0) (tok B n p).2.2.2.2))).1 (ys + j))) := by
  have w := hB.w hp
  have h2 := e.2
  have kk := dw.1.n3
  have S0 := S
  obtain ⟨s1, s2, s3, s4, s5, s6⟩ := S
  have en := c_faultNamed dw.1 s2 s3 dw.2.1 (nc_bd w) (φ := φ) (by omega)
  obtain ⟨v, hv⟩ : ∃ v, v = fN (nn 2) (F 0 3 0) (tok B n p).2.2.2.2 := ⟨_, rfl⟩
  have vb0 := fN_bd (nn 2) (N := F 0 3 0) (c := (tok B n p).2.2.2.2) (by omega)
  have vb : -1 ≤ fN (nn 2) (F 0 3 0) (tok B n p).2.2.2.2 ∧ fN (nn 2) (F 0 3 0) (tok B n p).2.2.2.2 < 100 := by omega
  rw [← hv] at en vb ⊢
  have S6 := S0.st (N := N) e (j := 2) (by omega) (iI v)
  obtain ⟨a1, a2⟩ := c_nameOf hB hp e S6 vb
  have l6 : (stI M (ys + 2) N.toNat (iI v)).2.2 yt 4 = some ys := s6
  have ev : (stI M (ys + 2) N.toNat (iI v)).1 (ys + 2) N.toNat = iI v := rI_at rfl rfl
  have eq : fX9_passFault φ yt (iI N) M = bd (fX9_passNameOf yt (iI v) (stI M (ys + 2) N.toNat (iI v))) fun v8 M9 => if v8 = 0 ∨ v8 = 1 then some (v8, M9) else none := by
    unfold fX9_passFault
    rw [s6, ldr_ok e.1.2.2, sbind, s5, ldr_ok e.1.2.1, sbind, s4, ldr_ok e.1.1, sbind, c_name s1, sbind, en, sbind, ixkI (by omega), iI_nat (by omega), nm_eq, l6, ldr_ok e.1.2.2, sbind, ixkI (by omega), ev]
  have c0 : cRw t ys N M (stI M (ys + 2) N.toNat (iI v)) := cRw.st (by omega) (by omega) M _
  refine ⟨fun q => ?_, fun q => ?_⟩
  · obtain ⟨M1, r1, r2⟩ := a1 q
    refine CFail.le c0.rcw ⟨M1, ?_, r2⟩
    rw [eq, r1, bdP, if_pos (Or.inl i0e)]
  · obtain ⟨M1, r1, r2, r3⟩ := a2 q
    have c1 : cRw t ys N (stI M (ys + 2) N.toNat (iI v)) M1 := r3.crw (by omega)
    refine ⟨M1, ?_, S6.go (N := N) e r2 c1, c0.trans c1, fun j j0 j1 => by rw [(r3.2.2 (ys + j) (by omega)).1]⟩
    rw [eq, r1, bdP, if_pos (Or.inr (show iI 1 = (1 : Int32) from rfl))]
theorem c_yNum {a b : Int} (hB : HB B n) (hp : 0 ≤ p ∧ p ≤ n) (e : EY t yt g ys) (S : CYo t yt g ys B n p F nn M) (hN : 0 ≤ N ∧ N < 60) (ha : 0 ≤ a ∧ a ≤ 99999) (hb : 0 ≤ b ∧ b ≤ 99999) : (isNu (tok B n p) a b = false → CFail t yt ys 5 (fkT (tok B n p) (if (tok B n p).1 = 2 then 4 else 2)) (tok B n p).2.1 M (fX9_passNumber yt (iI N) (iI a) (iI b) M)) ∧ (isNu (tok B n p) a b = true → ∃ M1, fX9_passNumber yt (iI N) (iI a) (iI b) M = some (iI 1, M1) ∧ CYo t yt g ys B n (nx B n p) F nn M1 ∧ cRw t ys N M M1 ∧ (∀ j, 2 ≤ j → j ≤ 4 → M1.1 (ys + j) = (stI M (ys + 4) N.toNat (iI (tok B n p).2.2.1)).1 (ys + j))) := by
  have w := hB.w hp
  have h2 := e.2
  have S0 := S
  obtain ⟨s1, s2, s3, s4, s5, s6⟩ := S
  obtain ⟨v, ev, ev2⟩ := c_value s1
  have S6 := S0.st (N := N) e (j := 4) (by omega) v
  obtain ⟨a1, a2⟩ := c_passNum w S6.1 ha hb
  have l4 : (stI M (ys + 4) N.toNat v).2.2 yt 2 = some t := s4
  have eq : fX9_passNumber yt (iI N) (iI a) (iI b) M = bd (fX6_passNumber t (iI a) (iI b) (stI M (ys + 4) N.toNat v)) fun v6 M7 => if v6 = 0 ∨ v6 = 1 then some (v6, M7) else none := by
    unfold fX9_passNumber
    rw [s6, ldr_ok e.1.2.2, sbind, s4, ldr_ok e.1.1, sbind, ev, sbind, ixkI (by omega), iI_nat (by omega), nm_eq, l4, ldr_ok e.1.1, sbind]
  have c0 : cRw t ys N M (stI M (ys + 4) N.toNat v) := cRw.st (by omega) (by omega) M _
  refine ⟨fun q => ?_, fun q => ?_⟩
  · refine CFail.le c0.rcw (CFail.of _ ?_)
    rw [eq, a2 q, bdP, if_pos (Or.inl i0e)]
  · obtain ⟨M1, r1, r2, r3⟩ := a1 q
    have q2 := of_decide_eq_true (p := (tok B n p).1 = 2 ∧ a ≤ (tok B n p).2.2.1 ∧ (tok B n p).2.2.1 ≤ b) q
    have ev2 := ev2 (by omega)
    have c1 : cRw t ys N (stI M (ys + 4) N.toNat v) M1 := r3.crw (by omega)
    refine ⟨M1, ?_, S6.go (N := N) e r2 c1, c0.trans c1, fun j j0 j1 => by rw [(r3.2.2 (ys + j) (by omega)).1, ev2]⟩
    rw [eq, r1, bdP, if_pos (Or.inr (show iI 1 = (1 : Int32) from rfl))]
end YO
