/-! readings of a years' row, one after another -/
def wC (ys : Nat) (N : Int) (l : List (Nat × Int)) (M : Mem) : Mem := l.foldl (fun M w => stI M (ys + w.1) N.toNat (iI w.2)) M
def wM (m : Nat) (N : Int) (l : List (Int × Int)) (M : Mem) : Mem := l.foldl (fun M w => stI M (m + 1) (2880 + 6 * N + w.1).toNat (iI w.2)) M
def RP (fc fm : Nat → Mem → Option (Int32 × Mem)) (B : Int → Int) (n p : Int) (F : Fld) (nn : NMs) (N : Int) (P : List (Nat × Int) → List (Int × Int) → Prop) : Prop := (∃ fk fp, (1 ≤ fk ∧ fk ≤ 99) ∧ (∀ t yt g ys M, EY t yt g ys → CYo t yt g ys B n p F nn M → CFail t yt ys 5 fk fp M (fc yt M)) ∧ ∀ m M, MYo m B n p F nn M → MFail m fk fp M (fm m M)) ∨ ∃ lc lm p', (p ≤ p' ∧ p' ≤ n) ∧ P lc lm ∧ (∀ t yt g ys M, EY t yt g ys → CYo t yt g ys B n p F nn M → ∃ M1, fc yt M = some (iI 1, M1) ∧ CYo t yt g ys B n p' F nn M1 ∧ cRw t ys N M M1 ∧ ∀ i, 2 ≤ i → i ≤ 4 → M1.1 (ys + i) = (wC ys N lc M).1 (ys + i)) ∧ ∀ m M, MYo m B n p F nn M → ∃ M1, fm m M = some (iI 1, M1) ∧ MYo m B n p' F nn M1 ∧ mRw m M M1 ∧ M1.1 (m + 1) = (wM m N lm M).1 (m + 1)
section YR
variable {B : Int → Int} {n p N : Int} {F : Fld} {nn : NMs}
theorem st_cg {M M' : Mem} {a b z : Nat} {v : Int32} (h : M.1 z = M'.1 z) : (stI M a b v).1 z = (stI M' a b v).1 z := by
  funext i
  by_cases q : z = a
  · by_cases q2 : i = b
    · rw [rI_at q q2, rI_at q q2]
    · rw [rI_nk q2, rI_nk q2, h]
  · rw [rI_ng q, rI_ng q, h]
theorem RP.nil (h : p ≤ n) {P : List (Nat × Int) → List (Int × Int) → Prop} (hP : P [] []) : RP (fun _ M => some (iI 1, M)) (fun _ M => some (iI 1, M)) B n p F nn N P := Or.inr ⟨[], [], p, ⟨by omega, h⟩, hP, fun t yt g ys M e S => ⟨M, rfl, S, cRw.refl t ys N M, fun _ _ _ => rfl⟩, fun m M S => ⟨M, rfl, S, mRw.refl m M, rfl⟩⟩
theorem PPy.rp {fc fm : Nat → Mem → Option (Int32 × Mem)} {j : Nat} {c : Int} {V : Int → Prop} (A : PPy fc fm B n p F nn N j c V) : RP fc fm B n p F nn N (fun lc lm => ∃ x, V x ∧ lc = [(j, x)] ∧ lm = [(c, x)]) := by
  rcases A with h | ⟨x, p', hp, hv, h1, h2⟩
  · exact Or.inl h
  · exact Or.inr ⟨[(j, x)], [(c, x)], p', hp, ⟨x, hv, rfl, rfl⟩, h1, h2⟩
theorem RP.seq {fc fm fc2 fm2 : Nat → Mem → Option (Int32 × Mem)} {P : List (Nat × Int) → List (Int × Int) → Prop} {j : Nat} {c : Int} {V : Int → Prop} (A : RP fc fm B n p F nn N P) (h2 : ∀ p', p ≤ p' → p' ≤ n → PPy fc2 fm2 B n p' F nn N j c V) : RP (fun yt M => bd (fc yt M) fun v M1 => if v = 0 then some ((0 : Int32), M1) else fc2 yt M1) (fun m M => bd (fm m M) fun v M1 => if v = 0 then some ((0 : Int32), M1) else fm2 m M1) B n p F nn N (fun lc lm => ∃ l1 l2 x, P l1 l2 ∧ V x ∧ lc = l1 ++ [(j, x)] ∧ lm = l2 ++ [(c, x)]) := by
  rcases A with ⟨fk, fp, h, a1, a2⟩ | ⟨lc, lm, p', hp, hP, a1, a2⟩
  · refine Or.inl ⟨fk, fp, h, fun t yt g ys M e S => ?_, fun m M S => ?_⟩
    · obtain ⟨M1, r1, r2⟩ := a1 t yt g ys M e S
      refine ⟨M1, ?_, r2⟩
      show (bd (fc yt M) fun v M1 => if v = 0 then some ((0 : Int32), M1) else fc2 yt M1) = _
      rw [r1, bdP, if_pos i0e]
      rfl
    · obtain ⟨M1, r1, r2⟩ := a2 m M S
      refine ⟨M1, ?_, r2⟩
      show (bd (fm m M) fun v M1 => if v = 0 then some ((0 : Int32), M1) else fm2 m M1) = _
      rw [r1, bdP, if_pos i0e]
      rfl
  · rcases h2 p' hp.1 hp.2 with ⟨fk, fp, h, b1, b2⟩ | ⟨x, q, hq, hv, b1, b2⟩
    · refine Or.inl ⟨fk, fp, h, fun t yt g ys M e S => ?_, fun m M S => ?_⟩
      · obtain ⟨M1, r1, r2, r3, r4⟩ := a1 t yt g ys M e S
        obtain ⟨M2, s1, s2⟩ := CFail.le r3.rcw (b1 t yt g ys M1 e r2)
        refine ⟨M2, ?_, s2⟩
        show (bd (fc yt M) fun v M1 => if v = 0 then some ((0 : Int32), M1) else fc2 yt M1) = _
        rw [r1, bdP, if_neg i1n, s1]
      · obtain ⟨M1, r1, r2, r3, r4⟩ := a2 m M S
        obtain ⟨M2, s1, s2⟩ := MFail.le r3.rw (b2 m M1 r2)
        refine ⟨M2, ?_, s2⟩
        show (bd (fm m M) fun v M1 => if v = 0 then some ((0 : Int32), M1) else fm2 m M1) = _
        rw [r1, bdP, if_neg i1n, s1]
    · refine Or.inr ⟨lc ++ [(j, x)], lm ++ [(c, x)], q, ⟨by omega, hq.2⟩, ⟨lc, lm, x, hP, hv, rfl, rfl⟩, fun t yt g ys M e S => ?_, fun m M S => ?_⟩
      · obtain ⟨M1, r1, r2, r3, r4⟩ := a1 t yt g ys M e S
        obtain ⟨M2, s1, s2, s3, s4⟩ := b1 t yt g ys M1 e r2
        refine ⟨M2, ?_, s2, r3.trans s3, fun i i0 i1 => ?_⟩
        · show (bd (fc yt M) fun v M1 => if v = 0 then some ((0 : Int32), M1) else fc2 yt M1) = _
          rw [r1, bdP, if_neg i1n, s1]
        · rw [s4 i i0 i1, st_cg (r4 i i0 i1)]
          unfold wC
          rw [List.foldl_append]
          rfl
      · obtain ⟨M1, r1, r2, r3, r4⟩ := a2 m M S
        obtain ⟨M2, s1, s2, s3, s4⟩ := b2 m M1 r2
        refine ⟨M2, ?_, s2, r3.trans s3, ?_⟩
        · show (bd (fm m M) fun v M1 => if v = 0 then some ((0 : Int32), M1) else fm2 m M1) = _
          rw [r1, bdP, if_neg i1n, s1]
        · rw [s4, st_cg r4]
          unfold wM
          rw [List.foldl_append]
          rfl
theorem RP.to {fc fm fc2 fm2 : Nat → Mem → Option (Int32 × Mem)} {P : List (Nat × Int) → List (Int × Int) → Prop} (A : RP fc fm B n p F nn N P) (hc : ∀ t yt g ys M, EY t yt g ys → CYo t yt g ys B n p F nn M → ∀ v M1, (v = iI 0 ∨ v = iI 1) → fc yt M = some (v, M1) → fc2 yt M = some (v, M1)) (hm : ∀ m M, MYo m B n p F nn M → ∀ v M1, (v = iI 0 ∨ v = iI 1) → fm m M = some (v, M1) → fm2 m M = some (v, M1)) : RP fc2 fm2 B n p F nn N P := by
  rcases A with ⟨fk, fp, h, a1, a2⟩ | ⟨lc, lm, p', hp, hP, a1, a2⟩
  · refine Or.inl ⟨fk, fp, h, fun t yt g ys M e S => ?_, fun m M S => ?_⟩
    · obtain ⟨M1, r1, r2⟩ := a1 t yt g ys M e S
      exact ⟨M1, hc t yt g ys M e S _ _ (Or.inl rfl) r1, r2⟩
    · obtain ⟨M1, r1, r2⟩ := a2 m M S
      exact ⟨M1, hm m M S _ _ (Or.inl rfl) r1, r2⟩
  · refine Or.inr ⟨lc, lm, p', hp, hP, fun t yt g ys M e S => ?_, fun m M S => ?_⟩
    · obtain ⟨M1, r1, r2⟩ := a1 t yt g ys M e S
      exact ⟨M1, hc t yt g ys M e S _ _ (Or.inr rfl) r1, r2⟩
    · obtain ⟨M1, r1, r2⟩ := a2 m M S
      exact ⟨M1, hm m M S _ _ (Or.inr rfl) r1, r2⟩
end YR
