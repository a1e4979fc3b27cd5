/-! the calls that change the field -/
section NL1
variable {m : Nat} {M M1 M2 : Mem} {W : Nat → Prop} {F F' : Fld} {nn : NMs} {N : Int} {Y : Yr}
theorem WN.cn (h : ∀ k, F' 0 k 0 = F 0 k 0) (w : WN F nn) : WN F' nn := by
  unfold WN at w ⊢
  rw [h 0, h 1, h 3]
  exact w
theorem YS.up (rows : ∀ e : Int, e = 4 ∨ 280 ≤ e → M1.1 (m + 1) e.toNat = M.1 (m + 1) e.toNat) (h : YS m 0 N Y M) : YS m 0 N Y M1 := ⟨by rw [rows (0 + 4) (by omega)]; exact h.1, fun x c a b d e => by rw [rows _ (by omega)]; exact h.2 x c a b d e⟩
theorem RKs.up {k : Int} {mk : Int → DS} (hk : k ≤ 3) (ok : ∀ j, 0 ≤ j → j < k → DOk (mk j)) (h45 : M1.1 m 45 = M.1 m 45) (rows : ∀ e : Int, 650 ≤ e → e < 2600 → M1.1 (m + 1) e.toNat = M.1 (m + 1) e.toNat) (names : ∀ e : Int, 16 ≤ e → e < 64 → M1.2.1 (m + 2) e.toNat = M.2.1 (m + 2) e.toNat) (h : RKs m k mk M) : RKs m k mk M1 := ⟨by rw [h45]; exact h.1, fun j j0 j1 => (h.2 j j0 j1).sh (ok j j0 j1).1.1 (by have := (ok j j0 j1).2.bd; omega) (fun e e0 e1 => rows _ (by omega) (by omega)) (fun e e0 e1 => names _ (by omega) (by omega))⟩
theorem o2g {g gs y ys : Nat} (h : CRf g gs y ys M) : isO 2 g ∧ isO 2 gs ∧ isO 8 y ∧ isO 8 ys := by
  obtain ⟨_, h1, h2⟩ := h
  refine ⟨?_, ?_, ?_, ?_⟩
  · rcases h1 with ⟨q, _⟩ | ⟨q, _⟩ <;> rw [q] <;> rfl
  · rcases h1 with ⟨_, q⟩ | ⟨_, q⟩ <;> rw [q] <;> rfl
  · rcases h2 with ⟨q, _⟩ | ⟨q, _⟩ <;> rw [q] <;> rfl
  · rcases h2 with ⟨_, q⟩ | ⟨_, q⟩ <;> rw [q] <;> rfl
theorem n_l {fc fm : Mem → Option (Int32 × Mem)} (h : ∀ D T P V k mk Q S g gs y ys M, SOk D T P k mk Q → RC g gs y ys D T P V k mk Q S M → ∃ (b st : Int32) (F' : Fld) (V' : LVS), (∃ M1, fc M = some (b, stI M1 0 0 st) ∧ CI 0 g F' M1 ∧ LVC V' M1 ∧ Fr (fun z => z = 74 ∨ z = 75 ∨ z = 57 ∨ (g + 7 ≤ z ∧ z ≤ g + 9) ∨ z = g + 13) M M1) ∧ (∀ k, F' 0 k 0 = D.1 0 k 0) ∧ ∀ Ma, RM 146 D T P V k mk Q S Ma → ∃ M2, fm Ma = some (b, stI M2 146 2 st) ∧ MR 146 0 F' M2 ∧ LVM 146 V' M2 ∧ mV 146 Ma M2) : STEP fc fm := by
  rintro M ⟨D, T, P, V, k, mk, Q, S, ok, ⟨g, gs, y, ys, C⟩, R, L, E⟩
  obtain ⟨b, st, F', V', ⟨M1, h1, h2, h3, hF⟩, cn, hm⟩ := h D T P V k mk Q S g gs y ys M ok C
  have hk := ok.2.2.2.1.1.2
  obtain ⟨a1, ⟨a2, a2'⟩, a3, a4, a5, a6, a7, a8, a9⟩ := C
  have gb := a1.2
  have h0 := hF 0 (by omega)
  have dk : DOk (F', D.2) := ⟨⟨h2.2.2.2.1, ok.1.1.2.1.cn cn, trivial⟩, ok.1.2.cn cn⟩
  exact glue (g := g) (gs := gs) (y := y) (ys := ys) (D' := (F', D.2)) (T' := T) (P' := P) (V' := V') (k' := k) (mk' := mk) (Q' := Q) (S' := S) ⟨dk, ok.2⟩ L E R h1 ⟨a1.eq h0.2.2, ⟨h2, (a2'.fr hF (by omega) (by omega) (by omega)).cn cn⟩, a3.fr hF (fun z p q => by omega), a4.fr hF (fun z p q => by omega), a5.fr hF (by omega) (by omega), h3, a7.fr hk (by rw [h0.1]) hF (fun z p q => by omega), a8.fr hF (by omega) (by omega), a9.fr hF (by omega)⟩ (cZ.of hF (fun z q => by omega)) (fun Ma RA _ => by
    obtain ⟨M2, b1, b2, b3, ⟨b4, b5⟩, b6, b7⟩ := hm Ma RA
    obtain ⟨c1, c2, c3, c4, c5, c6, c7⟩ := RA
    have bF : Fr (fun z => z = 146 ∨ z = 146 + 1 ∨ (146 + 21 ≤ z ∧ z ≤ 146 + 23)) Ma M2 := b7
    have bi : ∀ i, i ≠ 39 → i ≠ 40 → i ≠ 44 → M2.1 146 i = Ma.1 146 i := b5
    exact ⟨M2, b1, ⟨⟨b2, c1.2.1.up b6, (c1.2.2.fr bF (by omega)).cn cn⟩, c2.fr bF (fun z p q => by omega), c3.eq (bi _ (by omega) (by omega) (by omega)) (bF _ (by omega)).1, b3, c5.up hk ok.2.2.2.1.2 (bi _ (by omega) (by omega) (by omega)) (fun e e0 e1 => b6 e (by omega)) (fun e e0 e1 => by rw [(bF (146 + 2) (by omega)).2.1]), c6.eq (bi _ (by omega) (by omega) (by omega)) (bF _ (by omega)).1, c7.eq (bi _ (by omega) (by omega) (by omega)) (bi _ (by omega) (by omega) (by omega))⟩, bF.mono (fun z q => by omega), bi _ (by omega) (by omega) (by omega), b4⟩)
theorem mV.of {Ma : Mem} (hF : Fr (Rg (m + 1) (m + 1)) Ma M2) (h : ∀ e : Int, e = 4 ∨ 280 ≤ e → M2.1 (m + 1) e.toNat = Ma.1 (m + 1) e.toNat) : mV m Ma M2 := by
  have m0 := hF m (fun q => by have := q.1; omega)
  exact ⟨⟨m0.2.1, fun i _ _ _ => by rw [m0.1]⟩, h, hF.mono (fun z q => by have := q.1; have := q.2; omega)⟩
theorem n_lay {φ : Nat} (hφ : 30000 < φ) (a b c : Int32) : STEP (fX10_lay 0 a b c) (fX11_lay φ 146 a b c) := by
  obtain ⟨xa, ha, rfl⟩ := iI_ex a
  obtain ⟨xb, hb, rfl⟩ := iI_ex b
  obtain ⟨xc, hc, rfl⟩ := iI_ex c
  refine n_l (fun D T P V k mk Q S g gs y ys M ok C => ?_)
  have gb := C.1.2
  obtain ⟨v, st, F', ⟨M1, r1, r2, r3⟩, lk, hm⟩ := cc_lay C.2.1.1 ha hb hc
  refine ⟨iI v, iI st, F', V, ⟨M1, r1, r2, C.2.2.2.2.2.1.fr r3 (by omega), r3.mono (fun z q => by omega)⟩, fun k => by rw [lk.1 0 (by omega) (by omega) (by omega)], fun Ma RA => ?_⟩
  obtain ⟨M2, s1, s2, s3, s4⟩ := hm 146 φ Ma (by omega) RA.1.1
  exact ⟨M2, s1, s2, RA.2.2.2.1.eq (by rw [(s3 146 (fun q => by have := q.1; omega)).1]) (s3 (146 + 23) (fun q => by have := q.2; omega)).1, mV.of s3 s4⟩
theorem n_wear {φ : Nat} (hφ : 30000 < φ) (a b : Int32) : STEP (fX10_wear φ 0 a b) (fX11_wear φ 146 a b) := by
  obtain ⟨xa, ha, rfl⟩ := iI_ex a
  obtain ⟨xb, hb, rfl⟩ := iI_ex b
  refine n_l (fun D T P V k mk Q S g gs y ys M ok C => ?_)
  have gb := C.1.2
  obtain ⟨v, st, F', ⟨M1, r1, r2, r3⟩, lk, hm⟩ := cc_wear C.2.1.1 ha hb (φ := φ) (by omega)
  refine ⟨iI v, iI st, F', V, ⟨M1, r1, r2, C.2.2.2.2.2.1.fr r3 (by omega), r3.mono (fun z q => by omega)⟩, fun k => by rw [lk.1 0 (by omega) (by omega) (by omega)], fun Ma RA => ?_⟩
  obtain ⟨M2, s1, s2, s3, s4⟩ := hm 146 Ma RA.1.1
  exact ⟨M2, s1, s2, RA.2.2.2.1.eq (by rw [(s3 146 (fun q => by have := q.1; omega)).1]) (s3 (146 + 23) (fun q => by have := q.2; omega)).1, mV.of s3 s4⟩
theorem n_throwing (a b : Int32) : STEP (fX10_throwing 0 a b) (fX11_throwing 146 a b) := by
  obtain ⟨xa, ha, rfl⟩ := iI_ex a
  obtain ⟨xb, hb, rfl⟩ := iI_ex b
  refine n_l (fun D T P V k mk Q S g gs y ys M ok C => ?_)
  have gb := C.1.2
  obtain ⟨v, st, F', ⟨M1, r1, r2, r3⟩, lk, hm⟩ := cc_throwing C.2.1.1 ha hb
  refine ⟨iI v, iI st, F', V, ⟨M1, r1, r2, C.2.2.2.2.2.1.fr r3 (fun q => by have := q.1; have := q.2; omega), r3.mono (fun z q => by have := q.1; have := q.2; omega)⟩, fun k => ?_, fun Ma RA => ?_⟩
  · rcases lk with q | ⟨w, q⟩
    · rw [q]
    · rw [q, u_thr_k D.1 xa w 0 (by omega)]
  · obtain ⟨M2, s1, s2, s3, s4⟩ := hm 146 Ma RA.1.1
    exact ⟨M2, s1, s2, RA.2.2.2.1.eq (by rw [(s3 146 (fun q => by have := q.1; omega)).1]) (s3 (146 + 23) (fun q => by have := q.2; omega)).1, mV.of s3 s4⟩
theorem n_live {φ : Nat} (hφ : 30000 < φ) (a : Int32) : STEP (fX10_live φ 0 a) (fX11_live φ 146 a) := by
  obtain ⟨xa, ha, rfl⟩ := iI_ex a
  refine n_l (fun D T P V k mk Q S g gs y ys M ok C => ?_)
  have gb := C.1.2
  have oo := o2g C.1
  obtain ⟨v, st, F1, V1, w1, cn, hc, hm⟩ := tl_live ok.1.1.1 ok.1.2 V ha (φ := φ) (by omega)
  obtain ⟨M1, r1, r2, r3, r4⟩ := hc g y M (by omega) (by omega) C.2.1.1 C.1.1.2.2.1 oo.2.2.1 C.2.2.1 C.2.2.2.2.2.1
  refine ⟨iI v, iI st, F1, V1, ⟨M1, r1, r2, r3, r4⟩, cn, fun Ma RA => ?_⟩
  obtain ⟨M2, s1, s2, s3, s4⟩ := hm 146 Ma RA.1.1 RA.1.2.1.to RA.2.2.2.1
  exact ⟨M2, s1, s2, s3, s4⟩
theorem n_odds {φ : Nat} (hφ : 30000 < φ) (a b c d : Int32) : STEP (fX10_odds φ 0 a b c d) (fX11_odds φ 146 a b c d) := by
  obtain ⟨xa, ha, rfl⟩ := iI_ex a
  obtain ⟨xb, hb, rfl⟩ := iI_ex b
  obtain ⟨xc, hc, rfl⟩ := iI_ex c
  obtain ⟨xd, hd, rfl⟩ := iI_ex d
  rintro M ⟨D, T, P, V, k, mk, Q, S, ok, ⟨g, gs, y, ys, C⟩, R, L, E⟩
  have gb := C.1.2
  have oo := o2g C.1
  have hk := ok.2.2.2.1.1.2
  obtain ⟨q, h1, h2⟩ := tl_odds ok.1.1.1 ok.1.2 ha hb hc hd (φ := φ) (by omega)
  obtain ⟨M1, r1, r2⟩ := h1 g gs y M D.2.1 (by omega) (by omega) (by omega) (by omega) C.1.1.1 oo.1 C.1.1.2.1 oo.2.1 C.1.1.2.2.1 oo.2.2.1 C.2.1.1.2.2.2.2.1 C.2.1.2 C.2.2.1
  have hF : Fr (fun z => z = 76 ∨ z = 77 ∨ (gs ≤ z ∧ z ≤ gs + 13)) M M1 := r2
  have h0 := hF 0 (by omega)
  exact glueF ok L E R r1 (C.fr hk hF h0.2.2 (by rw [h0.1]) (fun z hz q => by omega)) (cZ.of hF (fun z q => by omega)) (fun Ma RA => by
    obtain ⟨M2, s1, s2⟩ := h2 146 Ma RA.1.1 RA.1.2.1.to
    obtain ⟨⟨s3, s4⟩, s5, s6⟩ := s2
    have bF : Fr (fun z => z = 146 ∨ z = 146 + 1 ∨ z = 146 + 21 ∨ z = 146 + 22) Ma M2 := s6
    have bi : ∀ i, i ≠ 39 → i ≠ 40 → M2.1 146 i = Ma.1 146 i := s4
    obtain ⟨c1, c2, c3, c4, c5, c6, c7⟩ := RA
    refine ⟨M2, s1, ⟨⟨c1.1.sh (fun e e0 e1 => s5 _ (by omega) (by omega)), c1.2.1.sh (by have := ok.1.2.bd; omega) (fun e e0 e1 => s5 _ (by omega) (by omega)), c1.2.2.fr bF (by omega)⟩, c2.fr bF (fun z p q => by omega), c3.eq (bi _ (by omega) (by omega)) (bF _ (by omega)).1, c4.eq (bi _ (by omega) (by omega)) (bF _ (by omega)).1, c5.up hk ok.2.2.2.1.2 (bi _ (by omega) (by omega)) (fun e e0 e1 => s5 e (by omega) (by omega)) (fun e e0 e1 => by rw [(bF (146 + 2) (by omega)).2.1]), c6.eq (bi _ (by omega) (by omega)) (bF _ (by omega)).1, c7.eq (bi _ (by omega) (by omega)) (bi _ (by omega) (by omega))⟩, bF.mono (fun z q => by omega), bi _ (by omega) (by omega), s3⟩)
/-! marks -/
theorem SL0 {D : DS} (h : RS m D M) : SL m 0 D M := by
  unfold SL
  rw [Int.mul_zero, Int.mul_zero]
  exact h
theorem SL0' {D : DS} (h : SL m 0 D M) : RS m D M := by
  unfold SL at h
  rw [Int.mul_zero, Int.mul_zero] at h
  exact h
theorem CM.fr2 {j : Int} {D : DS} (hF : Fr W M M1) (hS : ∀ z, 86 + 20 * j.toNat ≤ z → z ≤ 105 + 20 * j.toNat → ¬ W z) (h : CM j D M) : CM j D M1 := ⟨h.1.fr hF (fun z a b => hS z (by omega) (by omega)), h.2.1.fr hF (hS _ (by omega) (by omega)) (hS _ (by omega) (by omega)) (hS _ (by omega) (by omega)), h.2.2.fr hF (fun z a b => hS z (by omega) (by omega))⟩
theorem n_mark {φ : Nat} (hφ : 30000 < φ) : STEP (fX10_mark 0) (fX11_mark φ 146) := by
  rintro M ⟨D, T, P, V, k, mk, Q, S, ok, ⟨g, gs, y, ys, C⟩, R, L, E⟩
  have gb := C.1.2
  have oo := o2g C.1
  have kb := ok.2.2.2.1.1
  by_cases k3 : k = 3
  · exact glue ok L E R (c_mark_full (by rw [C.2.2.2.2.2.2.1.1, k3])) C (cZ.refl M) (fun Ma RA _ => ⟨Ma, m_mark_full (by rw [RA.2.2.2.2.1.1, k3]), RA, mZ.refl Ma⟩)
  · have hk : 0 ≤ k ∧ k < 3 := by omega
    obtain ⟨a1, ⟨a2, a2'⟩, a3, a4, a5, a6, a7, a8, a9⟩ := C
    obtain ⟨M1, r1, r2, r3, r4, r5, r6, r7⟩ := c_mark hk a7.1 a1.1.1 oo.1 a1.1.2.2.1 oo.2.2.1 ok.1.1.1 a2.2.2.2.2.1 a2' ok.1.2 a3 (by omega) (by omega)
    have hF : Fr (fun z => z = 0 ∨ (86 + 20 * k.toNat ≤ z ∧ z ≤ 105 + 20 * k.toNat)) M M1 := r7
    have dk : ∀ j, 0 ≤ j → j < k + 1 → DOk (if j = k then D else mk j) := fun j j0 j1 => by
      by_cases q : j = k
      · rw [if_pos q]; exact ok.1
      · rw [if_neg q]; exact ok.2.2.2.1.2 j j0 (by omega)
    have ck : CKs (k + 1) (fun j => if j = k then D else mk j) M1 := ⟨r3, fun j j0 j1 => by
      by_cases q : j = k
      · show CM j (if j = k then D else mk j) M1
        rw [if_pos q, q]
        exact r2
      · show CM j (if j = k then D else mk j) M1
        rw [if_neg q]
        exact (a7.2 j j0 (by omega)).fr2 hF (fun z p p' q' => by omega)⟩
    refine glue (g := g) (gs := gs) (y := y) (ys := ys) (D' := D) (T' := T) (P' := P) (V' := V) (k' := k + 1) (mk' := fun j => if j = k then D else mk j) (Q' := Q) (S' := S) ⟨ok.1, ok.2.1, ok.2.2.1, ⟨by omega, dk⟩, ok.2.2.2.2⟩ L E R r1 ⟨a1.eq r6, ⟨a2.fr hF r6 (fun z p p' q => by omega) (fun z p p' q => by omega), a2'.fr hF (by omega) (by omega) (by omega)⟩, a3.fr hF (fun z p p' q => by omega), a4.fr hF (fun z p p' q => by omega), a5.fr hF (by omega) (by omega), a6.fr hF (by omega), ck, a8.fr hF (by omega) (by omega), a9.fr hF (by omega)⟩ ⟨hF.mono (fun z q => by omega), r5⟩ (fun Ma RA _ => ?_)
    obtain ⟨c1, c2, c3, c4, c5, c6, c7⟩ := RA
    obtain ⟨M2, s1, s2, s3, s4, s5, s6, s7, s8⟩ := m_mark (m := 146) hk c5.1 ok.1.1.1 (by have := ok.1.2.bd; omega) (SL0 c1) (fun j j0 j1 => ⟨(ok.2.2.2.1.2 j j0 j1).1.1, by have := (ok.2.2.2.1.2 j j0 j1).2.bd; omega⟩) c5.2 (φ := φ) (by omega)
    have bF : Fr (fun z => 146 ≤ z ∧ z ≤ 146 + 2) Ma M2 := s8
    refine ⟨M2, s1, ⟨SL0' s2, c2.fr bF (fun z p p' q => by omega), c3.eq (s7 _ (by omega)) (bF _ (by omega)).1, c4.eq (s7 _ (by omega)) (bF _ (by omega)).1, ⟨s5, fun j j0 j1 => ?_⟩, c6.eq (s7 _ (by omega)) (bF _ (by omega)).1, c7.eq (s7 _ (by omega)) (s7 _ (by omega))⟩, bF.mono (fun z q => by omega), s7 _ (by omega), s6⟩
    by_cases q : j = k
    · show SL 146 (j + 1) (if j = k then D else mk j) M2
      rw [if_pos q, q]
      exact s3
    · show SL 146 (j + 1) (if j = k then D else mk j) M2
      rw [if_neg q]
      exact s4 j j0 (by omega)
theorem n_back {φ : Nat} (hφ : 30000 < φ) : STEP (fX10_back 0) (fX11_back φ 146) := by
  rintro M ⟨D, T, P, V, k, mk, Q, S, ok, ⟨g, gs, y, ys, C⟩, R, L, E⟩
  have gb := C.1.2
  have oo := o2g C.1
  have kb := ok.2.2.2.1.1
  by_cases k0 : k = 0
  · exact glue ok L E R (c_back_none (by rw [C.2.2.2.2.2.2.1.1, k0])) C (cZ.refl M) (fun Ma RA _ => ⟨Ma, m_back_none (by rw [RA.2.2.2.2.1.1, k0]), RA, mZ.refl Ma⟩)
  · have hk : 0 < k ∧ k ≤ 3 := by omega
    have dk := ok.2.2.2.1.2 (k - 1) (by omega) (by omega)
    obtain ⟨a1, ⟨a2, a2'⟩, a3, a4, a5, a6, a7, a8, a9⟩ := C
    obtain ⟨M1, r1, r2, r3, r4, r5, r6, r7, r8, r9⟩ := c_back hk a7.1 a1.1.1 oo.1 a1.1.2.2.1 oo.2.2.1 dk.1.1 dk.2 (a7.2 (k - 1) (by omega) (by omega)) (by omega) (by omega) (by omega)
    have hF : Fr (fun z => z = 0 ∨ (g ≤ z ∧ z ≤ g + 13) ∨ (y ≤ z ∧ z ≤ y + 5) ∨ z = 57) M M1 := r9
    refine glue (g := g) (gs := gs) (y := y) (ys := ys) (D' := mk (k - 1)) (T' := T) (P' := P) (V' := V) (k' := k - 1) (mk' := mk) (Q' := Q) (S' := S) ⟨dk, ok.2.1, ok.2.2.1, ⟨by omega, fun j j0 j1 => ok.2.2.2.1.2 j j0 (by omega)⟩, ok.2.2.2.2⟩ L E R r1 ⟨a1.eq r8, ⟨r2, r3⟩, r4, a4.fr hF (fun z p p' q => by omega), a5.fr hF (by omega) (by omega), a6.fr hF (by omega), ⟨r5, fun j j0 j1 => (a7.2 j j0 (by omega)).fr2 hF (fun z p p' q => by omega)⟩, a8.fr hF (by omega) (by omega), a9.fr hF (by omega)⟩ ⟨hF.mono (fun z q => by omega), r7⟩ (fun Ma RA _ => ?_)
    obtain ⟨c1, c2, c3, c4, c5, c6, c7⟩ := RA
    obtain ⟨M2, s1, s2, s3, s4, s5, s6, s7⟩ := m_back (m := 146) hk c5.1 (fun j j0 j1 => ⟨(ok.2.2.2.1.2 j j0 j1).1.1, by have := (ok.2.2.2.1.2 j j0 j1).2.bd; omega⟩) c5.2 (φ := φ) (by omega)
    have bF : Fr (fun z => 146 ≤ z ∧ z ≤ 146 + 2) Ma M2 := s7
    exact ⟨M2, s1, ⟨SL0' s2, c2.fr bF (fun z p p' q => by omega), c3.eq (s6 _ (by omega)) (bF _ (by omega)).1, c4.eq (s6 _ (by omega)) (bF _ (by omega)).1, ⟨s4, fun j j0 j1 => s3 j j0 (by omega)⟩, c6.eq (s6 _ (by omega)) (bF _ (by omega)).1, c7.eq (s6 _ (by omega)) (s6 _ (by omega))⟩, bF.mono (fun z q => by omega), s6 _ (by omega), s5⟩
end NL1
