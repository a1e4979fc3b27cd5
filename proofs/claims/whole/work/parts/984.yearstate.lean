/-! one step of years' text: the states of both sides -/
def mYw (m : Nat) (M M1 : Mem) : Prop := (∀ i, i ≠ 12 → i ≠ 13 → i ≠ 14 → i ≠ 15 → i ≠ 17 → i ≠ 18 → i ≠ 21 → i ≠ 22 → M1.1 m i = M.1 m i) ∧ M1.2.1 m = M.2.1 m ∧ (∀ e : Int, 0 ≤ e → e < 2600 → M1.1 (m + 1) e.toNat = M.1 (m + 1) e.toNat) ∧ (∀ e : Int, 0 ≤ e → e < 64 → M1.2.1 (m + 2) e.toNat = M.2.1 (m + 2) e.toNat) ∧ Fr (fun z => z = m ∨ z = m + 1 ∨ z = m + 2 ∨ z = m + 8) M M1
def mYx (m : Nat) (M M1 : Mem) : Prop := (∀ i, i ≠ 12 → i ≠ 13 → i ≠ 14 → i ≠ 15 → i ≠ 21 → i ≠ 22 → M1.1 m i = M.1 m i) ∧ M1.2 = M.2 ∧ (∀ e : Int, 0 ≤ e → e < 2600 → M1.1 (m + 1) e.toNat = M.1 (m + 1) e.toNat) ∧ Fr (fun z => z = m ∨ z = m + 1 ∨ z = m + 8) M M1
def MFy (m : Nat) (fk fp : Int) (M : Mem) (f : Option (Int32 × Mem)) : Prop := ∃ M1, f = some (iI 0, M1) ∧ M1.1 m 18 = iI fk ∧ M1.1 m 17 = iI fp ∧ mYw m M M1
section YS1
variable {m : Nat} {M M1 M2 : Mem} {fk fp : Int} {f : Option (Int32 × Mem)}
theorem mYw.refl (m : Nat) (M : Mem) : mYw m M M := ⟨fun _ _ _ _ _ _ _ _ _ => rfl, rfl, fun _ _ _ => rfl, fun _ _ _ => rfl, Fr.refl M⟩
theorem mYw.trans (a : mYw m M M1) (b : mYw m M1 M2) : mYw m M M2 := ⟨fun i h1 h2 h3 h4 h5 h6 h7 h8 => (b.1 i h1 h2 h3 h4 h5 h6 h7 h8).trans (a.1 i h1 h2 h3 h4 h5 h6 h7 h8), b.2.1.trans a.2.1, fun e h1 h2 => (b.2.2.1 e h1 h2).trans (a.2.2.1 e h1 h2), fun e h1 h2 => (b.2.2.2.1 e h1 h2).trans (a.2.2.2.1 e h1 h2), a.2.2.2.2.trans b.2.2.2.2⟩
theorem RW.yw (a : RW m M M1) : mYw m M M1 := ⟨a.1, a.2.1, fun e h1 h2 => a.2.2.1 e h1 (Or.inl h2), a.2.2.2.1, a.2.2.2.2⟩
theorem mYx.refl (m : Nat) (M : Mem) : mYx m M M := ⟨fun _ _ _ _ _ _ _ => rfl, rfl, fun _ _ _ => rfl, Fr.refl M⟩
theorem mYx.trans (a : mYx m M M1) (b : mYx m M1 M2) : mYx m M M2 := ⟨fun i h1 h2 h3 h4 h5 h6 => (b.1 i h1 h2 h3 h4 h5 h6).trans (a.1 i h1 h2 h3 h4 h5 h6), b.2.1.trans a.2.1, fun e h1 h2 => (b.2.2.1 e h1 h2).trans (a.2.2.1 e h1 h2), a.2.2.2.trans b.2.2.2⟩
theorem mYx.yw (a : mYx m M M1) : mYw m M M1 := ⟨fun i h1 h2 h3 h4 _ _ h7 h8 => a.1 i h1 h2 h3 h4 h7 h8, by rw [a.2.1], a.2.2.1, fun e _ _ => by rw [a.2.1], a.2.2.2.mono (fun z q => by omega)⟩
theorem mRw.yx (a : mRw m M M1) : mYx m M M1 := ⟨fun i h1 h2 h3 h4 _ _ => a.1 i h1 h2 h3 h4, a.2.1, fun e h1 h2 => a.2.2.1 e h1 (by omega), a.2.2.2.mono (fun z q => by omega)⟩
theorem mAh.yx (a : mAh m M M1) : mYx m M M1 := a.mrw.yx
theorem mYx.cell {i : Nat} (hi : i = 21 ∨ i = 22) (M : Mem) (v : Int32) : mYx m M (stI M m i v) := ⟨fun j _ _ _ _ h1 h2 => rI_nk (by omega), rfl, fun e _ _ => rI_ng (by omega), Fr.stI (Or.inl rfl) (Fr.refl M)⟩
theorem mYx.row {e : Int} (he : 2600 ≤ e) (M : Mem) (v : Int32) : mYx m M (stI M (m + 1) e.toNat v) := ⟨fun j _ _ _ _ _ _ => rI_ng (by omega), rfl, fun k h1 h2 => rI_nk (by omega), Fr.stI (Or.inr (Or.inl rfl)) (Fr.refl M)⟩
theorem mYx.stk (k : Nat) (M : Mem) (v : Int32) : mYx m M (stI M (m + 8) k v) := ⟨fun j _ _ _ _ _ _ => rI_ng (by omega), rfl, fun e _ _ => rI_ng (by omega), Fr.stI (Or.inr (Or.inr rfl)) (Fr.refl M)⟩
theorem MFail.y (h : MFail m fk fp M f) : MFy m fk fp M f := by
  obtain ⟨M1, a, b, c, d⟩ := h
  exact ⟨M1, a, b, c, d.yw⟩
theorem MFy.le (a : mYw m M M1) (h : MFy m fk fp M1 f) : MFy m fk fp M f := by
  obtain ⟨M2, h1, h2, h3, h4⟩ := h
  exact ⟨M2, h1, h2, h3, a.trans h4⟩
end YS1
def MYs (m : Nat) (B : Int → Int) (n p : Int) (F : Fld) (nn : NMs) (N c d : Int) (Y : Yr) (U : Int → Int) (M : Mem) : Prop := MYo m B n p F nn M ∧ YMd m N Y M ∧ (M.1 m 21 = iI d ∧ M.1 m 22 = iI c) ∧ ∀ k : Int, 0 ≤ k → k < d → M.1 (m + 8) k.toNat = iI (U k)
def CYs (t yt g ys : Nat) (B : Int → Int) (n p : Int) (F : Fld) (nn : NMs) (N c d : Int) (Y : Yr) (U : Int → Int) (M : Mem) : Prop := CYo t yt g ys B n p F nn M ∧ YCd ys N c d Y U M ∧ M.1 yt 1 = iI d ∧ ∀ k : Int, 0 ≤ k → k < d → M.1 (yt + 1) k.toNat = iI (U k)
section YS2
variable {t yt g ys m : Nat} {B : Int → Int} {n p N c d : Int} {F : Fld} {nn : NMs} {M M1 : Mem} {Y : Yr} {U : Int → Int}
theorem RKp.eq (h : RKp m B n p M) (hm : ∀ i, 11 ≤ i → i ≤ 17 → M1.1 m i = M.1 m i) (h7 : M1.1 (m + 7) = M.1 (m + 7)) : RKp m B n p M1 := by
  unfold RKp TX RK at h ⊢
  rw [hm 17 (by omega) (by omega), hm 11 (by omega) (by omega), hm 12 (by omega) (by omega), hm 13 (by omega) (by omega), hm 14 (by omega) (by omega), hm 15 (by omega) (by omega), h7]
  exact h
theorem MYo.x {q : Int} (S : MYo m B n p F nn M) (h : RKp m B n q M1) (a : mYx m M M1) : MYo m B n q F nn M1 := ⟨h, S.2.1.sh (fun k k0 k1 => a.2.2.1 _ (by omega) (by omega)), ⟨fun z a1 b => by rw [a.2.1]; exact S.2.2.1.1 z a1 b, fun z a1 b => by rw [a.2.1]; exact S.2.2.1.2.1 z a1 b, fun z a1 b => by rw [a.2.1]; exact S.2.2.1.2.2 z a1 b⟩, by rw [a.1 18 (by omega) (by omega) (by omega) (by omega) (by omega) (by omega)]; exact S.2.2.2⟩
theorem CYo.fr {P : Nat → Prop} (e : EY t yt g ys) (S : CYo t yt g ys B n p F nn M) (hF : Fr P M M1) (hP : ∀ z, P z → z = yt ∨ z = yt + 1 ∨ ys ≤ z) (h2 : M1.2.2 = M.2.2) : CYo t yt g ys B n p F nn M1 := by
  obtain ⟨s1, s2, s3, s4, s5, s6⟩ := S
  obtain ⟨e0, e1, e2, e3⟩ := e
  exact ⟨s1.fr hF (fun z hz q => by have := hP z q; omega), s2.fr hF (fun z a b q => by have := hP z q; omega), s3.fr hF (fun q => by have := hP _ q; omega) (fun q => by have := hP _ q; omega) (fun q => by have := hP _ q; omega), by rw [h2]; exact s4, by rw [h2]; exact s5, by rw [h2]; exact s6⟩
theorem CYo.go2 {q : Int} (e : EY t yt g ys) (S : CYo t yt g ys B n p F nn M) (h : RDp t B n q M1) (a : cGo t M M1) : CYo t yt g ys B n q F nn M1 := S.go (N := 0) e h (a.crw (by have := e.2; omega))
end YS2
/-! what a row's readings leave -/
def rC (l : List (Nat × Int)) (j : Nat) : Int := l.foldl (fun a w => if w.1 = j then w.2 else a) 0
def rM (l : List (Int × Int)) (c : Int) : Int := l.foldl (fun a w => if w.1 = c then w.2 else a) 0
def rowR (k0 : Int) (l : List (Int × Int)) : Int → Int := fun c => if c = 0 then k0 else rM l c
def rowV (v k0 : Int) (op : Bool) (lc : List (Nat × Int)) (r : Int → Int) : Prop := v = y_k k0 ∧ r 0 = k0 ∧ (k0 ≠ 15 → k0 ≠ 18 → k0 ≠ 19 → k0 ≠ 20 → rC lc 2 = r 1) ∧ (k0 = 13 ∨ 1700 ≤ k0 → rC lc 3 = if k0 = 1721 then r 5 else r 2) ∧ (k0 ≠ 19 → k0 ≠ 20 → (k0 ≠ 1722 ∧ k0 ≠ 1723) → rC lc 4 = if k0 = 13 then r 3 else if k0 = 15 ∨ k0 = 18 then r 1 else r 2) ∧ (18 ≤ k0 → k0 ≠ 20 → op = true)
section YS3
variable {m ys : Nat} {N : Int}
theorem wC_at (j : Nat) : ∀ (l : List (Nat × Int)) (a : Int) (M : Mem), M.1 (ys + j) N.toNat = iI a → (wC ys N l M).1 (ys + j) N.toNat = iI (l.foldl (fun a w => if w.1 = j then w.2 else a) a) := by
  intro l
  induction l with
  | nil => intro a M h; exact h
  | cons w l ih =>
    intro a M h
    show (wC ys N l (stI M (ys + w.1) N.toNat (iI w.2))).1 (ys + j) N.toNat = iI (l.foldl (fun a w => if w.1 = j then w.2 else a) (if w.1 = j then w.2 else a))
    refine ih _ _ ?_
    by_cases q : w.1 = j
    · rw [if_pos q, q]
      exact rI_at rfl rfl
    · rw [if_neg q, rI_ng (by omega)]
      exact h
theorem wM_at {c : Int} (hN : 0 ≤ N) (hc : 1 ≤ c) : ∀ (l : List (Int × Int)) (a : Int) (M : Mem), (∀ w ∈ l, 1 ≤ w.1 ∧ w.1 < 6) → M.1 (m + 1) (2880 + 6 * N + c).toNat = iI a → (wM m N l M).1 (m + 1) (2880 + 6 * N + c).toNat = iI (l.foldl (fun a w => if w.1 = c then w.2 else a) a) := by
  intro l
  induction l with
  | nil => intro a M _ h; exact h
  | cons w l ih =>
    intro a M hl h
    show (wM m N l (stI M (m + 1) (2880 + 6 * N + w.1).toNat (iI w.2))).1 (m + 1) (2880 + 6 * N + c).toNat = iI (l.foldl (fun a w => if w.1 = c then w.2 else a) (if w.1 = c then w.2 else a))
    have hw := hl w (List.mem_cons_self ..)
    refine ih _ _ (fun x hx => hl x (List.mem_cons_of_mem _ hx)) ?_
    by_cases q : w.1 = c
    · rw [if_pos q, q]
      exact rI_at rfl rfl
    · rw [if_neg q, rI_nk (by omega)]
      exact h
theorem wM_no {e : Int} (hN : 0 ≤ N) (he : 0 ≤ e ∧ (e ≤ 2880 + 6 * N ∨ 2880 + 6 * N + 6 ≤ e)) : ∀ (l : List (Int × Int)) (M : Mem), (∀ w ∈ l, 1 ≤ w.1 ∧ w.1 < 6) → (wM m N l M).1 (m + 1) e.toNat = M.1 (m + 1) e.toNat := by
  intro l
  induction l with
  | nil => intro M _; rfl
  | cons w l ih =>
    intro M hl
    show (wM m N l (stI M (m + 1) (2880 + 6 * N + w.1).toNat (iI w.2))).1 (m + 1) e.toNat = _
    have hw := hl w (List.mem_cons_self ..)
    rw [ih _ (fun x hx => hl x (List.mem_cons_of_mem _ hx)), rI_nk (by omega)]
theorem rowV.c {v k0 : Int} {op : Bool} {lc : List (Nat × Int)} {r : Int → Int} {Y : Yr} {L : Prop} {M : Mem} (h : rowV v k0 op lc r) (h1 : M.1 (ys + 1) N.toNat = iI v) (h2 : ∀ j, 2 ≤ j → j ≤ 4 → M.1 (ys + j) N.toNat = iI (rC lc j)) (hL : op = true → ¬ L) : rowC ys (dy_row Y N r) N L M := by
  obtain ⟨a1, a2, a3, a4, a5, a6⟩ := h
  unfold rowC y_o y_n
  simp only [yp_t, a2]
  refine ⟨by rw [h1, a1], fun q1 q2 q3 q4 => by rw [h2 2 (by omega) (by omega), a3 q1 q2 q3 q4], fun q => by rw [h2 3 (by omega) (by omega), a4 q], fun q1 q2 q3 => by rw [h2 4 (by omega) (by omega), a5 q1 q2 q3], fun q1 q2 l => absurd l (hL (a6 q1 q2))⟩
end YS3
