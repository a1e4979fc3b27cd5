/-! the calls over texts; match; the latest answer -/
section NX1
variable {m : Nat} {M M1 M2 : Mem} {W : Nat → Prop}
theorem n_status : STEPp (fX10_status 0) (fX11_status 146) := by
  rintro M ⟨D, T, P, V, k, mk, Q, S, ok, ⟨g, gs, y, ys, C⟩, R, L, E⟩
  refine ⟨M.1 146 2, ?_, rfl⟩
  show some (M.1 0 0) = some (M.1 146 2)
  rw [E.1]
theorem n_top : STEPp (fX10_top 0) (fX11_top 146) := by
  rintro M ⟨D, T, P, V, k, mk, Q, S, ok, ⟨g, gs, y, ys, C⟩, R, L, E⟩
  refine ⟨M.2.1 146 3, ?_, rfl⟩
  show some (M.2.1 0 1) = some (M.2.1 146 3)
  rw [E.2.1]
theorem n_bottom : STEPp (fX10_bottom 0) (fX11_bottom 146) := by
  rintro M ⟨D, T, P, V, k, mk, Q, S, ok, ⟨g, gs, y, ys, C⟩, R, L, E⟩
  refine ⟨M.2.1 146 4, ?_, rfl⟩
  show some (M.2.1 0 2) = some (M.2.1 146 4)
  rw [E.2.2]
theorem n_fault (a : Int32) : STEPp (fX10_fault 0 a) (fX11_fault 146 a) := by
  obtain ⟨xa, ha, rfl⟩ := iI_ex a
  rintro M ⟨D, T, P, V, k, mk, Q, S, ok, ⟨g, gs, y, ys, C⟩, R, L, E⟩
  obtain ⟨v, h1, h2⟩ := tl_fault S ha
  exact ⟨v, h1 M C.2.2.2.2.2.2.2.2, h2 146 M R.2.2.2.2.2.2⟩
theorem n_feed {φ : Nat} (hφ : 30000 < φ) (a b c d e : Int32) : STEP (fX10_feed φ 0 a b c d e) (fX11_feed φ 146 a b c d e) := by
  rintro M ⟨D, T, P, V, k, mk, Q, S, ok, ⟨g, gs, y, ys, C⟩, R, L, E⟩
  obtain ⟨v, Q', w', h1, h2⟩ := tl_feed ok.2.2.2.2 a b c d e (φ := φ) (by omega)
  have hk := ok.2.2.2.1.1.2
  obtain ⟨a1, ⟨a2, a2'⟩, a3, a4, a5, a6, a7, a8, a9⟩ := C
  have gb := a1.2
  obtain ⟨M1, r1, r2, r3, r4, r5⟩ := h1 M a8
  have hF : Fr (fun z => 2 ≤ z ∧ z ≤ 3) M M1 := r5.mono (fun z q => by have := q.1; have := q.2; omega)
  have h0 := hF 0 (by omega)
  have f9 : FC (0 + 2) S M1 := by
    unfold FC at a9 ⊢
    rw [r3 8 (by omega), r3 9 (by omega), r3 10 (by omega)]
    exact a9
  have r1' : fX10_feed φ 0 a b c d e M = some (v, stI M1 0 0 (M.1 0 0)) := by
    have := stI_id M1 0 0
    rw [h0.1] at this
    rw [this]
    exact r1
  refine glue (g := g) (gs := gs) (y := y) (ys := ys) (D' := D) (T' := T) (P' := P) (V' := V) (k' := k) (mk' := mk) (Q' := Q') (S' := S) ⟨ok.1, ok.2.1, ok.2.2.1, ok.2.2.2.1, w'⟩ L E R r1' ⟨a1.eq h0.2.2, ⟨a2.fr hF h0.2.2 (fun z p q => by omega) (fun z p q => by omega), a2'.fr hF (by omega) (by omega) (by omega)⟩, a3.fr hF (fun z p q => by omega), a4.fr hF (fun z p q => by omega), a5.fr hF (by omega) (by omega), a6.fr hF (by omega), a7.fr hk (by rw [h0.1]) hF (fun z p q => by omega), r2, f9⟩ (cZ.of hF (fun z q => by omega)) (fun Ma RA ea => ?_)
  obtain ⟨c1, c2, c3, c4, c5, c6, c7⟩ := RA
  obtain ⟨M2, s1, s2, s3, s4, s5⟩ := h2 146 Ma c6
  have bF : Fr (fun z => z = 146 ∨ z = 146 + 6) Ma M2 := s5
  refine ⟨M2, ?_, ⟨c1.fr bF (by omega) (by omega), c2.fr bF (fun z p q => by omega), c3.eq (s3 _ (by omega)) (bF _ (by omega)).1, c4.eq (s3 _ (by omega)) (bF _ (by omega)).1, c5.fr (s3 _ (by omega)) bF (by omega) (by omega), s2, c7.eq (s3 _ (by omega)) (s3 _ (by omega))⟩, bF.mono (fun z q => by omega), s3 _ (by omega), by rw [s4]⟩
  have := stI_id M2 146 2
  rw [s3 2 (by omega), ea, ← E.1] at this
  rw [this]
  exact s1
theorem MR.ats {F : Fld} (hc : ∀ e : Int, 0 ≤ e → e < 280 → e ≠ 4 → M1.1 (m + 1) e.toNat = M.1 (m + 1) e.toNat) (G : MR m 0 F M) : MR m 0 F M1 := by
  obtain ⟨h0, h1, h2, h3, h4, h5, h6⟩ := G
  refine ⟨fun w a b => ?_, fun k a b => ?_, fun x y a b c d => ?_, fun h w a b c d => ?_, fun h l a b c d => ⟨?_, ?_⟩, fun t k a b c d => ?_, fun f k a b c d => ?_⟩
  · rw [hc _ (by omega) (by omega) (by omega)]; exact h0 w a b
  · rw [hc _ (by omega) (by omega) (by omega)]; exact h1 k a b
  · rw [hc _ (by omega) (by omega) (by omega)]; exact h2 x y a b c d
  · rw [hc _ (by omega) (by omega) (by omega)]; exact h3 h w a b c d
  · rw [hc _ (by omega) (by omega) (by omega)]; exact (h4 h l a b c d).1
  · rw [hc _ (by omega) (by omega) (by omega)]; exact (h4 h l a b c d).2
  · rw [hc _ (by omega) (by omega) (by omega)]; exact h5 t k a b c d
  · rw [hc _ (by omega) (by omega) (by omega)]; exact h6 f k a b c d
/-- a tape that is read is empty -/
theorem tp0 {Q : TPS} (w : WTp Q) : WTp (0, Q.2) := ⟨by show 0 ≤ (0 : Int) ∧ (0 : Int) ≤ 900; omega, w.2⟩
theorem tpc0 {t : Nat} {Q : TPS} (h : M.1 t 1 = iI 0) : TpC t (0, Q.2) M := ⟨h, fun k k0 k1 => by have : k < 0 := k1; omega⟩
theorem tpm0 {Q : TPS} (h : M.1 m 10 = iI 0) : TpM m (0, Q.2) M := ⟨h, fun k k0 k1 => by have : k < 0 := k1; omega⟩
theorem n_field {φ : Nat} (hφ : 30000 < φ) (a : Int32) : STEP (fX10_field φ 0 a) (fX11_field φ 146 a) := by
  obtain ⟨n, hn, rfl⟩ := iI_ex a
  rintro M ⟨D, T, P, V, k, mk, Q, S, ok, ⟨g, gs, y, ys, C⟩, R, L, E⟩
  have hk := ok.2.2.2.1.1.2
  have wq := ok.2.2.2.2
  have oo := o2g C.1
  have gb := C.1.2
  have ce : CE g gs y M := ⟨⟨C.1.1.1, C.1.1.2.1, C.1.1.2.2.1⟩, ⟨oo.1, oo.2.1, oo.2.2.1⟩, by omega, by omega, by omega, by omega⟩
  rcases tl_field (φ := φ) (by omega) wq hn with ⟨h1, h2⟩ | ⟨fk, fp, h1, h2⟩ | ⟨F', nn', dw, h1, h2⟩
  · exact glue ok L E R (h1 M C.2.2.2.2.2.2.2.1) C (cZ.refl M) (fun Ma RA _ => ⟨Ma, h2 146 Ma RA.2.2.2.2.2.1, RA, mZ.refl Ma⟩)
  · obtain ⟨a1, ⟨a2, a2'⟩, a3, a4, a5, a6, a7, a8, a9⟩ := C
    obtain ⟨M1, r1, r2, r3, r4, r5, r6, r7⟩ := h1 M g gs y ce a8
    have hF : Fr (fun z => z = 0 ∨ (2 ≤ z ∧ z ≤ 9) ∨ (gs ≤ z ∧ z ≤ gs + 13)) M M1 := r7
    refine glue (g := g) (gs := gs) (y := y) (ys := ys) (D' := D) (T' := T) (P' := P) (V' := V) (k' := k) (mk' := mk) (Q' := (0, Q.2)) (S' := (true, fk, fp)) ⟨ok.1, ok.2.1, ok.2.2.1, ok.2.2.2.1, tp0 wq⟩ L E R r1 ⟨a1.eq r6, ⟨a2.fr hF r6 (fun z p p' q => by omega) (fun z p p' q => by omega), a2'.fr hF (by omega) (by omega) (by omega)⟩, a3.fr hF (fun z p p' q => by omega), a4.fr hF (fun z p p' q => by omega), a5.fr hF (by omega) (by omega), a6.fr hF (by omega), a7.fr hk (r4 13 (by omega)) hF (fun z p p' q => by omega), tpc0 r3, r2⟩ ⟨hF.mono (fun z q => by omega), r5⟩ (fun Ma RA _ => ?_)
    obtain ⟨c1, c2, c3, c4, c5, c6, c7⟩ := RA
    obtain ⟨M2, s1, s2, s3, s4, s5, s6, s7, s8⟩ := h2 146 Ma c6
    have bF : Fr (fun z => z = 146 ∨ z = 146 + 1 ∨ z = 146 + 2 ∨ z = 146 + 7 ∨ z = 146 + 8) Ma M2 := s8
    exact ⟨M2, s1, ⟨⟨c1.1.sh (fun e e0 e1 => s6 _ (by omega) (by omega)), c1.2.1.sh (by have := ok.1.2.bd; omega) (fun e e0 e1 => s6 _ (by omega) (by omega)), c1.2.2.sh ok.1.1.1 (fun e e0 e1 => s7 _ (by omega) (by omega))⟩, c2.fr bF (fun z p p' q => by omega), c3.eq (s4 _ (by omega)) (bF _ (by omega)).1, c4.eq (s4 _ (by omega)) (bF _ (by omega)).1, c5.up hk ok.2.2.2.1.2 (s4 _ (by omega)) (fun e e0 e1 => s6 e (by omega) (by omega)) (fun e e0 e1 => s7 e (by omega) (by omega)), tpm0 s3, s2⟩, bF.mono (fun z q => by omega), s4 _ (by omega), s5⟩
  · obtain ⟨a1, ⟨a2, a2'⟩, a3, a4, a5, a6, a7, a8, a9⟩ := C
    obtain ⟨M1, r1, r2, r3, r4, r5, r6, r7, r8, r9, r10, r11, r12, r13⟩ := h1 M g gs y ce a8
    have hF : Fr (fun z => z = 0 ∨ (2 ≤ z ∧ z ≤ 9) ∨ (gs ≤ z ∧ z ≤ gs + 13) ∨ z = y ∨ z = 57) M M1 := r13
    have rf : CRf gs g y ys M1 := ⟨⟨r6, r7, by rw [r12 9 (by omega) (by omega)]; exact a1.1.2.2.1, by rw [r12 10 (by omega) (by omega)]; exact a1.1.2.2.2⟩, by omega, by omega⟩
    have ci : CI 0 gs F' M1 := ⟨r6, oo.2.1, by omega, dw.1, r4, Or.inl r9⟩
    have yw : YW y (-1) (D.2.2.2) M1 := ⟨by rw [r8, decide_eq_false (fun q => q rfl)]; rfl, fun q => absurd rfl q⟩
    refine glue (g := gs) (gs := g) (y := y) (ys := ys) (D' := (F', nn', -1, D.2.2.2)) (T' := T) (P' := P) (V' := V) (k' := k) (mk' := mk) (Q' := (0, Q.2)) (S' := (true, 0, -1)) ⟨⟨⟨dw.1, dw.2.1, trivial⟩, Or.inl rfl⟩, ok.2.1, ok.2.2.1, ok.2.2.2.1, tp0 wq⟩ L E R r1 ⟨rf, ⟨ci, r5⟩, yw, a4.fr hF (fun z p p' q => by omega), a5.fr hF (by omega) (by omega), a6.fr hF (by omega), a7.fr hk (r10 13 (by omega)) hF (fun z p p' q => by omega), tpc0 r3, r2⟩ ⟨hF.mono (fun z q => by omega), r11⟩ (fun Ma RA _ => ?_)
    obtain ⟨c1, c2, c3, c4, c5, c6, c7⟩ := RA
    obtain ⟨M2, s1, s2, s3, s4, s5, s6, t4, t5, t6, t7, t8⟩ := h2 146 Ma c6
    have bF : Fr (fun z => z = 146 ∨ z = 146 + 1 ∨ z = 146 + 2 ∨ z = 146 + 7 ∨ z = 146 + 8) Ma M2 := t8
    exact ⟨M2, s1, ⟨⟨s4, ⟨s6, fun x e x0 x1 => by have : x < -1 := x1; omega⟩, s5⟩, c2.fr bF (fun z p p' q => by omega), c3.eq (t4 _ (by omega)) (bF _ (by omega)).1, c4.eq (t4 _ (by omega)) (bF _ (by omega)).1, c5.up hk ok.2.2.2.1.2 (t4 _ (by omega)) (fun e e0 e1 => t6 e (by omega) (by omega)) (fun e e0 e1 => t7 e (by omega) (by omega)), tpm0 s3, s2⟩, bF.mono (fun z q => by omega), t4 _ (by omega), t5⟩
theorem n_years {φ : Nat} (hφ : 30000 < φ) (a : Int32) : STEP (fX10_years φ 0 a) (fX11_years φ 146 a) := by
  obtain ⟨n, hn, rfl⟩ := iI_ex a
  rintro M ⟨D, T, P, V, k, mk, Q, S, ok, ⟨g, gs, y, ys, C⟩, R, L, E⟩
  have hk := ok.2.2.2.1.1.2
  have wq := ok.2.2.2.2
  have oo := o2g C.1
  have gb := C.1.2
  have ce : CEy g y ys M := ⟨⟨C.1.1.1, C.1.1.2.2.1, C.1.1.2.2.2⟩, ⟨oo.1, oo.2.2.1, oo.2.2.2⟩, by omega, by omega, by omega, by omega⟩
  have G := C.2.1.1.2.2.2.2.1
  rcases tl_years (φ := φ) (by omega) wq hn ok.1.1 with ⟨h1, h2⟩ | ⟨fk, fp, h1, h2⟩ | ⟨N', c', Y', ⟨yi, n0⟩, h1, h2⟩
  · exact glue ok L E R (h1 M C.2.2.2.2.2.2.2.1) C (cZ.refl M) (fun Ma RA _ => ⟨Ma, h2 146 Ma RA.2.2.2.2.2.1, RA, mZ.refl Ma⟩)
  · obtain ⟨a1, ⟨a2, a2'⟩, a3, a4, a5, a6, a7, a8, a9⟩ := C
    obtain ⟨M1, r1, r2, r3, ⟨r4, r5, _, r7⟩, r6⟩ := h1 M g y ys ce G a2' a8
    have hF : Fr (fun z => z = 0 ∨ (2 ≤ z ∧ z ≤ 7) ∨ z = 10 ∨ z = 11 ∨ (ys ≤ z ∧ z ≤ ys + 5)) M M1 := r7
    refine glue (g := g) (gs := gs) (y := y) (ys := ys) (D' := D) (T' := T) (P' := P) (V' := V) (k' := k) (mk' := mk) (Q' := (0, Q.2)) (S' := (true, fk, fp)) ⟨ok.1, ok.2.1, ok.2.2.1, ok.2.2.2.1, tp0 wq⟩ L E R r1 ⟨a1.eq r6, ⟨a2.fr hF r6 (fun z p p' q => by omega) (fun z p p' q => by omega), a2'.fr hF (by omega) (by omega) (by omega)⟩, a3.fr hF (fun z p p' q => by omega), a4.fr hF (fun z p p' q => by omega), a5.fr hF (by omega) (by omega), a6.fr hF (by omega), a7.fr hk (r4 13 (by omega)) hF (fun z p p' q => by omega), tpc0 r3, r2⟩ ⟨hF.mono (fun z q => by omega), r5⟩ (fun Ma RA _ => ?_)
    obtain ⟨c1, c2, c3, c4, c5, c6, c7⟩ := RA
    obtain ⟨M2, s1, s2, s3, s4, s5, s6, s7, s8⟩ := h2 146 Ma c1.1 c1.2.2 c6
    have bF : Fr (fun z => z = 146 ∨ z = 146 + 1 ∨ z = 146 + 2 ∨ z = 146 + 7 ∨ z = 146 + 8) Ma M2 := s8
    exact ⟨M2, s1, ⟨⟨c1.1.sh (fun e e0 e1 => s6 _ (by omega) (by omega)), c1.2.1.sh (by have := ok.1.2.bd; omega) (fun e e0 e1 => s6 _ (by omega) (by omega)), c1.2.2.sh ok.1.1.1 (fun e e0 e1 => s7 _ (by omega) (by omega))⟩, c2.fr bF (fun z p p' q => by omega), c3.eq (s4 _ (by omega)) (bF _ (by omega)).1, c4.eq (s4 _ (by omega)) (bF _ (by omega)).1, c5.up hk ok.2.2.2.1.2 (s4 _ (by omega)) (fun e e0 e1 => s6 e (by omega) (by omega)) (fun e e0 e1 => s7 e (by omega) (by omega)), tpm0 s3, s2⟩, bF.mono (fun z q => by omega), s4 _ (by omega), s5⟩
  · obtain ⟨a1, ⟨a2, a2'⟩, a3, a4, a5, a6, a7, a8, a9⟩ := C
    obtain ⟨M1, r1, r2, r3, r4, r5, r6, r8, r9, r10, r11⟩ := h1 M g y ys ce G a2' a8
    have hF : Fr (fun z => z = 0 ∨ (2 ≤ z ∧ z ≤ 7) ∨ z = 10 ∨ z = 11 ∨ (ys ≤ z ∧ z ≤ ys + 5)) M M1 := r11
    have rf : CRf g gs ys y M1 := ⟨⟨by rw [r10 7 (by omega) (by omega)]; exact a1.1.1, by rw [r10 8 (by omega) (by omega)]; exact a1.1.2.1, r5, r6⟩, by omega, by omega⟩
    obtain ⟨q1, q2, q3, q4, q5, q6⟩ := a2
    have f57 := hF (0 + 57) (by omega)
    have ci : CI 0 g D.1 M1 := by
      refine ⟨rf.1.1, q2, q3, q4, q5.fr hF (fun z p p' q => by omega), ?_⟩
      rcases q6 with b | ⟨b1, b2, b3⟩
      · exact Or.inl (by rw [f57.1]; exact b)
      · refine Or.inr ⟨by rw [f57.1]; exact b1, b2.fr hF (fun x a b q => by omega), ?_⟩
        unfold OC at b3 ⊢
        rw [f57.1, (hF (0 + 57 + 12) (by omega)).1]
        exact b3
    refine glue (g := g) (gs := gs) (y := ys) (ys := y) (D' := (D.1, D.2.1, N', Y')) (T' := T) (P' := P) (V' := V) (k' := k) (mk' := mk) (Q' := (0, Q.2)) (S' := (true, 0, -1)) ⟨⟨ok.1.1, yi⟩, ok.2.1, ok.2.2.1, ok.2.2.2.1, tp0 wq⟩ L E R r1 ⟨rf, ⟨ci, a2'.fr hF (by omega) (by omega) (by omega)⟩, r4, a4.fr hF (fun z p p' q => by omega), a5.fr hF (by omega) (by omega), a6.fr hF (by omega), a7.fr hk (r8 13 (by omega)) hF (fun z p p' q => by omega), tpc0 r3, r2⟩ ⟨hF.mono (fun z q => by omega), r9⟩ (fun Ma RA _ => ?_)
    obtain ⟨c1, c2, c3, c4, c5, c6, c7⟩ := RA
    obtain ⟨M2, s1, s2, s3, s4, s5, t4, t5, t6, t7, t8⟩ := h2 146 Ma c1.1 c1.2.2 c6
    have bF : Fr (fun z => z = 146 ∨ z = 146 + 1 ∨ z = 146 + 2 ∨ z = 146 + 7 ∨ z = 146 + 8) Ma M2 := t8
    have mr : MR 146 0 D.1 M2 := c1.1.ats (fun e e0 e1 e4 => s5 e e0 e1 e4)
    exact ⟨M2, s1, ⟨⟨mr, s4, c1.2.2.sh ok.1.1.1 (fun e e0 e1 => t7 _ (by omega) (by omega))⟩, c2.fr bF (fun z p p' q => by omega), c3.eq (t4 _ (by omega)) (bF _ (by omega)).1, c4.eq (t4 _ (by omega)) (bF _ (by omega)).1, c5.up hk ok.2.2.2.1.2 (t4 _ (by omega)) (fun e e0 e1 => t6 e (by omega) (by omega)) (fun e e0 e1 => t7 e (by omega) (by omega)), tpm0 s3, s2⟩, bF.mono (fun z q => by omega), t4 _ (by omega), t5⟩
/-! match -/
theorem inv_fr {Mb : Mem} {W : Nat → Prop} (I : INV M) (hF : Fr W M Mb) (hW : ∀ z, W z → z = 0 ∨ (54 ≤ z ∧ z ≤ 56) ∨ z = 146 ∨ (155 ≤ z ∧ z ≤ 157)) (h13 : Mb.1 0 13 = M.1 0 13) (hr : Mb.2.2 0 = M.2.2 0) (hm : ∀ i, i = 10 ∨ i = 16 ∨ i = 17 ∨ i = 38 ∨ i = 44 ∨ i = 45 → Mb.1 146 i = M.1 146 i) (L : LM 0 146 Mb) (E : EQ2 Mb) : INV Mb := by
  obtain ⟨D, T, P, V, k, mk, Q, S, ok, ⟨g, gs, y, ys, C⟩, R, _, _⟩ := I
  have gb := C.1.2
  exact ⟨D, T, P, V, k, mk, Q, S, ok, ⟨g, gs, y, ys, C.fr ok.2.2.2.1.1.2 hF hr h13 (fun z hz q => by have := hW z q; omega)⟩, R.fr hF hm (fun z hz q => by have := hW z q; omega), L, E⟩
theorem n_match {φ : Nat} (hφ : 30000 < φ) (a b : Int32) : STEP (fX10_match φ 0 a b) (fX11_match φ 146 a b) := by
  obtain ⟨xa, ha, rfl⟩ := iI_ex a
  obtain ⟨xb, hb, rfl⟩ := iI_ex b
  intro M I
  have I0 := I
  obtain ⟨D, T, P, V, k, mk, Q, S, ok, ⟨g, gs, y, ys, C⟩, R, L, E⟩ := I
  have gb := C.1.2
  have oo := o2g C.1
  obtain ⟨M1, M2, h1, h2, h3, h4, h5, h6, h7⟩ := b_match (c := 0) (m := 146) (g := g) ok.1.1.1 C.2.1.1.2.2.2.2.1 C.1.1.1 oo.1 (by omega) (by omega) (by omega) R.1.1 ha hb (φ := φ) (by omega) L
  obtain ⟨st, hst⟩ : ∃ st, st = iI (q_match D.1 xa xb).2 := ⟨_, rfl⟩
  rw [← hst] at h1 h3 h4 h5
  have fa : Fr (fun z => z = 0 ∨ (54 ≤ z ∧ z ≤ 56) ∨ z = 146 ∨ (155 ≤ z ∧ z ≤ 157)) M (stI M1 0 0 st) := (h2.mono (fun z q => by have := q.1; have := q.2; omega)).trans (Fr.stI (Or.inl rfl) (Fr.refl M1))
  have fb : Fr (fun z => z = 0 ∨ (54 ≤ z ∧ z ≤ 56) ∨ z = 146 ∨ (155 ≤ z ∧ z ≤ 157)) (stI M1 0 0 st) M2 := h4.mono (fun z q => by omega)
  have f : Fr (fun z => z = 0 ∨ (54 ≤ z ∧ z ≤ 56) ∨ z = 146 ∨ (155 ≤ z ∧ z ≤ 157)) M (stI M2 146 2 st) := Fr.stI (Or.inr (Or.inr (Or.inl rfl))) (fa.trans fb)
  have m1 := h2 0 (fun q => by have := q.1; omega)
  have m146 := h2 146 (fun q => by have := q.2; omega)
  have z2 := h4 0 (by omega)
  refine ⟨_, _, _, h1, h3, inv_fr I0 f (fun z q => q) ?_ ?_ (fun i hi => ?_) (h7.cell (by funext i; rw [rI_ng (by omega)]) (by funext i; rw [rI_ng (by omega)]) (rI_nk (by omega)) (by funext i; rw [rI_ng (by omega)])) ⟨?_, ?_, ?_⟩⟩
  · rw [rI_ng (by omega), z2.1, rI_nk (by omega), m1.1]
  · show M2.2.2 0 = _
    rw [z2.2.2]
    show M1.2.2 0 = _
    rw [m1.2.2]
  · rw [rI_nk (by omega), h5 i (by omega), rI_ng (by omega), m146.1]
  · rw [rI_ng (by omega), z2.1, rI_at rfl rfl, rI_at rfl rfl]
  · show M2.2.1 0 1 = M2.2.1 146 3
    rw [h6, z2.2.1]
    show M1.2.1 0 1 = _
    rw [m1.2.1]
    exact E.2.1
  · show M2.2.1 0 2 = M2.2.1 146 4
    rw [h6, z2.2.1]
    show M1.2.1 0 2 = _
    rw [m1.2.1]
    exact E.2.2
theorem inv_st (I : INV M) (st : Int32) : INV (stI (stI M 0 0 st) 146 2 st) := by
  have I0 := I
  obtain ⟨D, T, P, V, k, mk, Q, S, ok, ⟨g, gs, y, ys, C⟩, R, L, E⟩ := I
  refine inv_fr I0 (W := fun z => z = 0 ∨ z = 146) (Fr.stI (Or.inr rfl) (Fr.stI (Or.inl rfl) (Fr.refl M))) (fun z q => by omega) (by rw [rI_ng (by omega), rI_nk (by omega)]) rfl (fun i hi => by rw [rI_nk (by omega), rI_ng (by omega)]) (L.cell (by funext i; rw [rI_ng (by omega), rI_ng (by omega)]) (by funext i; rw [rI_ng (by omega), rI_ng (by omega)]) (by rw [rI_nk (by omega), rI_ng (by omega)]) (by funext i; rw [rI_ng (by omega), rI_ng (by omega)])) ⟨by rw [rI_ng (by omega), rI_at rfl rfl, rI_at rfl rfl], E.2.1, E.2.2⟩
theorem n_pairOf (a : Int32) : STEP (fX10_pairOf 0 a) (fX11_pairOf 146 a) := by
  obtain ⟨xa, ha, rfl⟩ := iI_ex a
  intro M I
  have I0 := I
  obtain ⟨D, T, P, V, k, mk, Q, S, ok, ⟨g, gs, y, ys, C⟩, R, L, E⟩ := I
  obtain ⟨v, st, h1, h2⟩ := b_pairOf (c := 0) (m := 146) (by omega) L ha
  exact ⟨_, _, _, h1, h2, inv_st I0 _⟩
theorem n_pairs : STEP (fX10_pairs 0) (fX11_pairs 146) := by
  intro M I
  have I0 := I
  obtain ⟨D, T, P, V, k, mk, Q, S, ok, ⟨g, gs, y, ys, C⟩, R, L, E⟩ := I
  obtain ⟨v, st, h1, h2⟩ := b_pairs (c := 0) (m := 146) (by omega) L
  exact ⟨_, _, _, h1, h2, inv_st I0 _⟩
end NX1
