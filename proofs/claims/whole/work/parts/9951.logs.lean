/-! the calls over trays and logs -/
section NT1
variable {m : Nat} {M M1 M2 : Mem} {W : Nat → Prop}
theorem mZ.of (hF : Fr W M M2) (h : ∀ z, W z → 146 < z ∧ z ≠ 157) : mZ M M2 := by
  have m0 := hF 146 (fun q => by have := (h 146 q).1; omega)
  exact ⟨hF.mono (fun z q => by have := h z q; omega), by rw [m0.1], m0.2.1⟩
theorem stI_id (M : Mem) (g k : Nat) : stI M g k (M.1 g k) = M := by
  refine Prod.ext ?_ rfl
  funext a b
  by_cases q : a = g ∧ b = k
  · rw [rI_at q.1 q.2, q.1, q.2]
  · rw [stI_1, if_neg q]
/-- trays alone change -/
theorem n_t {fc fm : Mem → Option (Int32 × Mem)} (h : ∀ D T P V k mk Q S g gs y ys M, SOk D T P k mk Q → RC g gs y ys D T P V k mk Q S M → ∃ (b : Int32) (st : Int32) (T' : TS), WT T' ∧ (∃ M1, fc M = some (b, stI M1 0 0 st) ∧ TC1 T' M1 ∧ Fr (fun z => z = 73 ∨ (78 ≤ z ∧ z ≤ 85)) M M1) ∧ ∀ Ma, RM 146 D T P V k mk Q S Ma → ∃ M2, fm Ma = some (b, stI M2 146 2 st) ∧ TM1 146 T' M2 ∧ Fr (fun z => 149 ≤ z ∧ z ≤ 151) Ma M2) : STEP fc fm := by
  rintro M ⟨D, T, P, V, k, mk, Q, S, ok, ⟨g, gs, y, ys, C⟩, R, L, E⟩
  obtain ⟨b, st, T', w', ⟨M1, h1, h2, hF⟩, hm⟩ := h D T P V k mk Q S g gs y ys M ok C
  have hk := ok.2.2.2.1.1.2
  obtain ⟨a1, ⟨a2, a2'⟩, a3, a4, a5, a6, a7, a8, a9⟩ := C
  have gb := a1.2
  have h0 := hF 0 (by omega)
  exact glue (g := g) (gs := gs) (y := y) (ys := ys) (D' := D) (T' := T') (P' := P) (V' := V) (k' := k) (mk' := mk) (Q' := Q) (S' := S) ⟨ok.1, w', ok.2.2⟩ L E R h1 ⟨a1.eq h0.2.2, ⟨a2.fr hF h0.2.2 (fun z p q => by omega) (fun z p q => by omega), a2'.fr hF (by omega) (by omega) (by omega)⟩, a3.fr hF (fun z p q => by omega), h2, a5.fr hF (by omega) (by omega), a6.fr hF (by omega), a7.fr hk (by rw [h0.1]) hF (fun z p q => by omega), a8.fr hF (by omega) (by omega), a9.fr hF (by omega)⟩ (cZ.of hF (fun z q => by omega)) (fun Ma RA _ => by
    obtain ⟨M2, b1, b2, bF⟩ := hm Ma RA
    obtain ⟨c1, c2, c3, c4, c5, c6, c7⟩ := RA
    have m0 := bF 146 (by omega)
    exact ⟨M2, b1, ⟨c1.fr bF (by omega) (by omega), b2, c3.eq (by rw [m0.1]) (bF _ (by omega)).1, c4.eq (by rw [m0.1]) (bF _ (by omega)).1, c5.fr (by rw [m0.1]) bF (by omega) (by omega), c6.eq (by rw [m0.1]) (bF _ (by omega)).1, c7.eq (by rw [m0.1]) (by rw [m0.1])⟩, mZ.of bF (fun z q => by omega)⟩)
/-- nothing but the status changes -/
theorem n_s {α : Type} {fc fm : Mem → Option (α × Mem)} (h : ∀ D T P V k mk Q S g gs y ys M, SOk D T P k mk Q → RC g gs y ys D T P V k mk Q S M → ∃ (b : α) (st : Int32), (∃ M1, fc M = some (b, stI M1 0 0 st) ∧ Fr (fun z => z = 73) M M1) ∧ ∀ Ma, RM 146 D T P V k mk Q S Ma → fm Ma = some (b, stI Ma 146 2 st)) : STEP fc fm := by
  rintro M ⟨D, T, P, V, k, mk, Q, S, ok, ⟨g, gs, y, ys, C⟩, R, L, E⟩
  obtain ⟨b, st, ⟨M1, h1, hF⟩, hm⟩ := h D T P V k mk Q S g gs y ys M ok C
  have gb := C.1.2
  have h0 := hF 0 (by omega)
  exact glue ok L E R h1 (C.fr ok.2.2.2.1.1.2 hF h0.2.2 (by rw [h0.1]) (fun z hz q => by omega)) (cZ.of hF (fun z q => by omega)) (fun Ma RA _ => ⟨Ma, hm Ma RA, RA, mZ.refl Ma⟩)
theorem n_tray {φ : Nat} (hφ : 30000 < φ) (a b c : Int32) : STEP (fX10_tray φ 0 a b c) (fX11_tray φ 146 a b c) := by
  obtain ⟨xa, ha, rfl⟩ := iI_ex a
  obtain ⟨xb, hb, rfl⟩ := iI_ex b
  obtain ⟨xc, hc, rfl⟩ := iI_ex c
  refine n_t (fun D T P V k mk Q S g gs y ys M ok C => ?_)
  obtain ⟨v, st, T', w, h1, h2⟩ := tc_tray ok.2.1 ha hb hc (φ := φ) (by omega)
  obtain ⟨M1, r1, r2, r3⟩ := h1 M C.2.2.2.1
  refine ⟨iI v, iI st, T', w, ⟨M1, r1, r2, r3.mono (fun z q => Or.inr q)⟩, fun Ma RA => ?_⟩
  obtain ⟨M2, s1, s2, s3⟩ := h2 146 Ma RA.2.1
  exact ⟨M2, s1, s2, s3.mono (fun z q => by have := q.1; have := q.2; omega)⟩
theorem n_write (a b : Int32) (v : Int64) : STEP (fX10_write 0 a b v) (fX11_write 146 a b v) := by
  obtain ⟨xa, ha, rfl⟩ := iI_ex a
  obtain ⟨xb, hb, rfl⟩ := iI_ex b
  refine n_t (fun D T P V k mk Q S g gs y ys M ok C => ?_)
  obtain ⟨v, st, T', w, h1, h2⟩ := tc_write ok.2.1 v ha hb
  obtain ⟨M1, r1, r2, r3⟩ := h1 M C.2.2.2.1
  refine ⟨iI v, iI st, T', w, ⟨M1, r1, r2, r3.mono (fun z q => Or.inr q)⟩, fun Ma RA => ?_⟩
  obtain ⟨M2, s1, s2, s3⟩ := h2 146 Ma RA.2.1
  exact ⟨M2, s1, s2, s3.mono (fun z q => by have := q.1; have := q.2; omega)⟩
theorem n_pour {φ : Nat} (hφ : 30000 < φ) (a b c d e : Int32) : STEP (fX10_pour 0 a b c d e) (fX11_pour φ 146 a b c d e) := by
  obtain ⟨xa, ha, rfl⟩ := iI_ex a
  obtain ⟨xb, hb, rfl⟩ := iI_ex b
  obtain ⟨xc, hc, rfl⟩ := iI_ex c
  obtain ⟨xd, hd, rfl⟩ := iI_ex d
  obtain ⟨xe, he, rfl⟩ := iI_ex e
  refine n_t (fun D T P V k mk Q S g gs y ys M ok C => ?_)
  obtain ⟨v, st, T', w, h1, h2⟩ := tc_pour ok.2.1 ha hb hc hd he (φ := φ) (by omega)
  obtain ⟨M1, r1, r2, r3⟩ := h1 M C.2.2.2.1
  refine ⟨iI v, iI st, T', w, ⟨M1, r1, r2, r3.mono (fun z q => Or.inr q)⟩, fun Ma RA => ?_⟩
  obtain ⟨M2, s1, s2, s3⟩ := h2 146 Ma RA.2.1
  exact ⟨M2, s1, s2, s3.mono (fun z q => by have := q.1; have := q.2; omega)⟩
theorem n_fill {φ : Nat} (hφ : 30000 < φ) (a b : Int32) : STEP (fX10_fill φ 0 a b) (fX11_fill φ 146 a b) := by
  obtain ⟨xa, ha, rfl⟩ := iI_ex a
  obtain ⟨xb, hb, rfl⟩ := iI_ex b
  refine n_t (fun D T P V k mk Q S g gs y ys M ok C => ?_)
  obtain ⟨v, st, T', w, h1, h2⟩ := tc_fill ok.2.1 ha hb (φ := φ) (by omega)
  obtain ⟨M1, r1, r2, r3⟩ := h1 M C.2.2.2.1
  refine ⟨v, iI st, T', w, ⟨M1, r1, r2, r3.mono (fun z q => Or.inr q)⟩, fun Ma RA => ?_⟩
  obtain ⟨M2, s1, s2, s3⟩ := h2 146 Ma RA.2.1
  exact ⟨M2, s1, s2, s3.mono (fun z q => by have := q.1; have := q.2; omega)⟩
theorem gx {g gs y ys : Nat} (h : CRf g gs y ys M) : g + 13 < 57 ∨ 86 ≤ g := by
  have := h.2
  omega
theorem n_draws {φ : Nat} (hφ : 30000 < φ) (a b : Int32) : STEP (fX10_draws φ 0 a b) (fX11_draws φ 146 a b) := by
  obtain ⟨xa, ha, rfl⟩ := iI_ex a
  obtain ⟨xb, hb, rfl⟩ := iI_ex b
  refine n_t (fun D T P V k mk Q S g gs y ys M ok C => ?_)
  obtain ⟨q, T', w, h1, h2⟩ := tq_draws ok.1.1.1 ok.2.1 ha hb (φ := φ) (by omega)
  obtain ⟨M1, r1, r2, r3⟩ := h1 g M (gx C.1) C.2.1.1 C.2.2.2.1
  refine ⟨iI q.1, iI q.2, T', w, ⟨M1, r3, r2, r1⟩, fun Ma RA => ?_⟩
  obtain ⟨M2, s1, s2, s3⟩ := h2 146 Ma RA.1.1 RA.2.1
  exact ⟨M2, s3, s2, s1.mono (fun z q => by have := q.1; have := q.2; omega)⟩
theorem n_read (a b : Int32) : STEP (fX10_read 0 a b) (fX11_read 146 a b) := by
  obtain ⟨xa, ha, rfl⟩ := iI_ex a
  obtain ⟨xb, hb, rfl⟩ := iI_ex b
  refine n_s (fun D T P V k mk Q S g gs y ys M ok C => ?_)
  obtain ⟨v, st, h1, h2⟩ := tc_read ok.2.1 ha hb
  exact ⟨v, iI st, ⟨M, h1 M C.2.2.2.1, Fr.refl M⟩, fun Ma RA => h2 146 Ma RA.2.1⟩
theorem n_runs {φ : Nat} (hφ : 30000 < φ) (a b : Int32) : STEP (fX10_runs φ 0 a b) (fX11_runs φ 146 a b) := by
  obtain ⟨xa, ha, rfl⟩ := iI_ex a
  obtain ⟨xb, hb, rfl⟩ := iI_ex b
  refine n_s (fun D T P V k mk Q S g gs y ys M ok C => ?_)
  obtain ⟨v, st, h1, h2⟩ := tc_runs ok.2.1 ha hb (φ := φ) (by omega)
  exact ⟨v, iI st, ⟨M, h1 M C.2.2.2.1, Fr.refl M⟩, fun Ma RA => h2 146 Ma RA.2.1⟩
theorem n_agrees {φ : Nat} (hφ : 30000 < φ) (a b c : Int32) : STEP (fX10_agrees φ 0 a b c) (fX11_agrees φ 146 a b c) := by
  obtain ⟨xa, ha, rfl⟩ := iI_ex a
  obtain ⟨xb, hb, rfl⟩ := iI_ex b
  obtain ⟨xc, hc, rfl⟩ := iI_ex c
  refine n_s (fun D T P V k mk Q S g gs y ys M ok C => ?_)
  obtain ⟨M1, r1, r2⟩ := cq_agrees (gx C.1) C.2.1.1 ok.2.1 C.2.2.2.1 ha hb hc (φ := φ) (by omega)
  exact ⟨_, _, ⟨M1, r2, r1.mono (fun z q => by have := q.1; have := q.2; omega)⟩, fun Ma RA => mq_agrees ok.1.1.1 RA.1.1 ok.2.1 RA.2.1 ha hb hc (φ := φ) (by omega)⟩
theorem n_shift {φ : Nat} (hφ : 30000 < φ) (a b c d : Int32) : STEP (fX10_shift φ 0 a b c d) (fX11_shift φ 146 a b c d) := by
  obtain ⟨xa, ha, rfl⟩ := iI_ex a
  obtain ⟨xb, hb, rfl⟩ := iI_ex b
  obtain ⟨xc, hc, rfl⟩ := iI_ex c
  obtain ⟨xd, hd, rfl⟩ := iI_ex d
  refine n_s (fun D T P V k mk Q S g gs y ys M ok C => ?_)
  obtain ⟨q, h1, h2⟩ := tq_shift ok.1.1.1 ok.2.1 ha hb hc hd (φ := φ) (by omega)
  obtain ⟨M1, r1, r2⟩ := h1 g M (gx C.1) C.2.1.1 C.2.2.2.1
  exact ⟨_, _, ⟨M1, r2, r1.mono (fun z q => by have := q.1; have := q.2; omega)⟩, fun Ma RA => h2 146 Ma RA.1.1 RA.2.1⟩
theorem n_likest {φ : Nat} (hφ : 30000 < φ) (a b : Int32) : STEP (fX10_likest φ 0 a b) (fX11_likest φ 146 a b) := by
  obtain ⟨xa, ha, rfl⟩ := iI_ex a
  obtain ⟨xb, hb, rfl⟩ := iI_ex b
  refine n_s (fun D T P V k mk Q S g gs y ys M ok C => ?_)
  obtain ⟨q, h1, h2⟩ := tq_likest ok.1.1.1 ok.2.1 ha hb (φ := φ) (by omega)
  obtain ⟨M1, r1, r2⟩ := h1 g M (gx C.1) C.2.1.1 C.2.2.2.1
  exact ⟨_, _, ⟨M1, r2, r1.mono (fun z q => by have := q.1; have := q.2; omega)⟩, fun Ma RA => h2 146 Ma RA.1.1 RA.2.1⟩
theorem n_pickAt (a : Int32) : STEP (fX10_pickAt 0 a) (fX11_pickAt 146 a) := by
  obtain ⟨xa, ha, rfl⟩ := iI_ex a
  refine n_s (fun D T P V k mk Q S g gs y ys M ok C => ?_)
  obtain ⟨q, h1, h2⟩ := tq_pickAt P ok.2.2.1 M 146 ha
  exact ⟨q.1, iI q.2, ⟨M, h1 M C.2.2.2.2.1, Fr.refl M⟩, fun Ma RA => h2 146 Ma RA.2.2.1⟩
theorem n_lived (a : Int32) : STEP (fX10_lived 0 a) (fX11_lived 146 a) := by
  obtain ⟨xa, ha, rfl⟩ := iI_ex a
  refine n_s (fun D T P V k mk Q S g gs y ys M ok C => ?_)
  obtain ⟨v, st, h1, h2⟩ := tl_lived V ha
  exact ⟨v, iI st, ⟨M, h1 M C.2.2.2.2.2.1, Fr.refl M⟩, fun Ma RA => h2 146 Ma RA.2.2.2.1⟩
theorem n_picks {φ : Nat} (hφ : 30000 < φ) (a b c d : Int32) : STEP (fX10_picks φ 0 a b c d) (fX11_picks φ 146 a b c d) := by
  obtain ⟨xa, ha, rfl⟩ := iI_ex a
  obtain ⟨xb, hb, rfl⟩ := iI_ex b
  obtain ⟨xc, hc, rfl⟩ := iI_ex c
  obtain ⟨xd, hd, rfl⟩ := iI_ex d
  rintro M ⟨D, T, P, V, k, mk, Q, S, ok, ⟨g, gs, y, ys, C⟩, R, L, E⟩
  obtain ⟨q, P', w', h1, h2⟩ := tq_picks ok.2.1 P ok.2.2.1 ha hb hc hd (φ := φ) (by omega)
  have hk := ok.2.2.2.1.1.2
  obtain ⟨a1, ⟨a2, a2'⟩, a3, a4, a5, a6, a7, a8, a9⟩ := C
  obtain ⟨M1, r1, r2, r3⟩ := h1 M a4 a5
  have gb := a1.2
  have hF : Fr (fun z => 71 ≤ z ∧ z ≤ 72) M M1 := r1
  have h0 := hF 0 (by omega)
  exact glue (g := g) (gs := gs) (y := y) (ys := ys) (D' := D) (T' := T) (P' := P') (V' := V) (k' := k) (mk' := mk) (Q' := Q) (S' := S) ⟨ok.1, ok.2.1, w', ok.2.2.2⟩ L E R r3 ⟨a1.eq h0.2.2, ⟨a2.fr hF h0.2.2 (fun z p q => by omega) (fun z p q => by omega), a2'.fr hF (by omega) (by omega) (by omega)⟩, a3.fr hF (fun z p q => by omega), a4.fr hF (fun z p q => by omega), r2, a6.fr hF (by omega), a7.fr hk (by rw [h0.1]) hF (fun z p q => by omega), a8.fr hF (by omega) (by omega), a9.fr hF (by omega)⟩ (cZ.of hF (fun z q => by omega)) (fun Ma RA _ => by
    obtain ⟨c1, c2, c3, c4, c5, c6, c7⟩ := RA
    obtain ⟨M2, b1, b2, b3, b4, b5⟩ := h2 146 Ma c2 c3
    have bF : Fr (fun z => z = 146 ∨ z = 146 + 20) Ma M2 := b1
    exact ⟨M2, b5, ⟨c1.fr bF (by omega) (by omega), c2.fr bF (fun z p q => by omega), b2, c4.eq (b3 _ (by omega)) (bF _ (by omega)).1, c5.fr (b3 _ (by omega)) bF (by omega) (by omega), c6.eq (b3 _ (by omega)) (bF _ (by omega)).1, c7.eq (b3 _ (by omega)) (b3 _ (by omega))⟩, bF.mono (fun z q => by omega), b3 _ (by omega), by rw [b4]⟩)
end NT1
