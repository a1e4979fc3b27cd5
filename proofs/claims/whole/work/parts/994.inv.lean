/-! what stands between two calls of the law -/
def DOk (D : DS) : Prop := DX D.1 D.2.1 ∧ YI D.1 D.2.2.1 D.2.2.2
def SOk (D : DS) (T : TS) (P : PkS) (k : Int) (mk : Int → DS) (Q : TPS) : Prop := DOk D ∧ WT T ∧ WPk P ∧ ((0 ≤ k ∧ k ≤ 3) ∧ ∀ j, 0 ≤ j → j < k → DOk (mk j)) ∧ WTp Q
def CRf (g gs y ys : Nat) (M : Mem) : Prop := (M.2.2 0 7 = some g ∧ M.2.2 0 8 = some gs ∧ M.2.2 0 9 = some y ∧ M.2.2 0 10 = some ys) ∧ ((g = 12 ∧ gs = 26) ∨ (g = 26 ∧ gs = 12)) ∧ ((y = 40 ∧ ys = 46) ∨ (y = 46 ∧ ys = 40))
def CKs (k : Int) (mk : Int → DS) (M : Mem) : Prop := M.1 0 13 = iI k ∧ ∀ j, 0 ≤ j → j < k → CM j (mk j) M
def RC (g gs y ys : Nat) (D : DS) (T : TS) (P : PkS) (V : LVS) (k : Int) (mk : Int → DS) (Q : TPS) (S : FS) (M : Mem) : Prop := CRf g gs y ys M ∧ (CI 0 g D.1 M ∧ NCn g D.1 D.2.1 M) ∧ YW y D.2.2.1 D.2.2.2 M ∧ TC1 T M ∧ PkC (0 + 71) P M ∧ LVC V M ∧ CKs k mk M ∧ TpC (0 + 2) Q M ∧ FC (0 + 2) S M
def RS (m : Nat) (D : DS) (M : Mem) : Prop := MR m 0 D.1 M ∧ YS m 0 D.2.2.1 D.2.2.2 M ∧ NB m 0 D.1 D.2.1 M
def RKs (m : Nat) (k : Int) (mk : Int → DS) (M : Mem) : Prop := M.1 m 45 = iI k ∧ ∀ j, 0 ≤ j → j < k → SL m (j + 1) (mk j) M
def RM (m : Nat) (D : DS) (T : TS) (P : PkS) (V : LVS) (k : Int) (mk : Int → DS) (Q : TPS) (S : FS) (M : Mem) : Prop := RS m D M ∧ TM1 m T M ∧ PkM m P M ∧ LVM m V M ∧ RKs m k mk M ∧ TpM m Q M ∧ FMd m S M
def EQ2 (M : Mem) : Prop := M.1 0 0 = M.1 146 2 ∧ M.2.1 0 1 = M.2.1 146 3 ∧ M.2.1 0 2 = M.2.1 146 4
def INV (M : Mem) : Prop := ∃ (D : DS) (T : TS) (P : PkS) (V : LVS) (k : Int) (mk : Int → DS) (Q : TPS) (S : FS), SOk D T P k mk Q ∧ (∃ g gs y ys, RC g gs y ys D T P V k mk Q S M) ∧ RM 146 D T P V k mk Q S M ∧ LM 0 146 M ∧ EQ2 M
def STEP {α : Type} (fc fm : Mem → Option (α × Mem)) : Prop := ∀ M, INV M → ∃ v M1 M2, fc M = some (v, M1) ∧ fm M1 = some (v, M2) ∧ INV M2
def STEPp {α : Type} (fc fm : Mem → Option α) : Prop := ∀ M, INV M → ∃ v, fc M = some v ∧ fm M = some v
section IN
variable {m g gs y ys : Nat} {D D' : DS} {T T' : TS} {P P' : PkS} {V V' : LVS} {k k' : Int} {mk mk' : Int → DS} {Q Q' : TPS} {S S' : FS} {M M' : Mem} {W : Nat → Prop} {F : Fld} {nn : NMs} {N : Int} {Y : Yr}
theorem CI.fr (hF : Fr W M M') (hr : M'.2.2 0 = M.2.2 0) (hg : ∀ z, g ≤ z → z ≤ g + 13 → ¬ W z) (hb : ∀ z, 57 ≤ z → z ≤ 69 → ¬ W z) (I : CI 0 g F M) : CI 0 g F M' := by
  obtain ⟨h1, h2, h3, w, G, hB⟩ := I
  have c := (hF (0 + 57) (hb _ (by omega) (by omega))).1
  refine ⟨by rw [hr]; exact h1, h2, h3, w, G.fr hF hg, ?_⟩
  rcases hB with b | ⟨b1, b2, b3⟩
  · exact Or.inl (by rw [c]; exact b)
  · refine Or.inr ⟨by rw [c]; exact b1, b2.fr hF (fun x a b => hb x (by omega) (by omega)), ?_⟩
    unfold OC at b3 ⊢
    rw [c, (hF (0 + 57 + 12) (hb _ (by omega) (by omega))).1]
    exact b3
theorem PkC.fr {t : Nat} (hF : Fr W M M') (h0 : ¬ W t) (h1 : ¬ W (t + 1)) (h : PkC t P M) : PkC t P M' := by
  unfold PkC at h ⊢
  rw [(hF t h0).1, (hF (t + 1) h1).1]
  exact h
theorem TpC.fr {t : Nat} (hF : Fr W M M') (h0 : ¬ W t) (h1 : ¬ W (t + 1)) (h : TpC t Q M) : TpC t Q M' := by
  unfold TpC at h ⊢
  rw [(hF t h0).1, (hF (t + 1) h1).1]
  exact h
theorem FC.fr {t : Nat} (hF : Fr W M M') (h0 : ¬ W t) (h : FC t S M) : FC t S M' := by
  unfold FC at h ⊢
  rw [(hF t h0).1]
  exact h
theorem CRf.eq (hr : M'.2.2 0 = M.2.2 0) (h : CRf g gs y ys M) : CRf g gs y ys M' := by
  unfold CRf at h ⊢
  rw [hr]
  exact h
theorem CKs.fr (hk : k ≤ 3) (h13 : M'.1 0 13 = M.1 0 13) (hF : Fr W M M') (hS : ∀ z, 86 ≤ z → z ≤ 145 → ¬ W z) (h : CKs k mk M) : CKs k mk M' := ⟨by rw [h13]; exact h.1, fun j j0 j1 => (h.2 j j0 j1).fr (by omega) hF hS⟩
/-- the class's state is kept by what changes none of its cells -/
theorem RC.fr (h : RC g gs y ys D T P V k mk Q S M) (hk : k ≤ 3) (hF : Fr W M M') (hr : M'.2.2 0 = M.2.2 0) (h13 : M'.1 0 13 = M.1 0 13) (hS : ∀ z, ((2 ≤ z ∧ z ≤ 3) ∨ (g ≤ z ∧ z ≤ g + 13) ∨ (y ≤ z ∧ z ≤ y + 5) ∨ (57 ≤ z ∧ z ≤ 69) ∨ (71 ≤ z ∧ z ≤ 72) ∨ z = 74 ∨ (78 ≤ z ∧ z ≤ 145)) → ¬ W z) : RC g gs y ys D T P V k mk Q S M' := by
  obtain ⟨a1, ⟨a2, a2'⟩, a3, a4, a5, a6, a7, a8, a9⟩ := h
  exact ⟨a1.eq hr, ⟨a2.fr hF hr (fun z p q => hS z (by omega)) (fun z p q => hS z (by omega)), a2'.fr hF (hS _ (by omega)) (hS _ (by omega)) (hS _ (by omega))⟩, a3.fr hF (fun z p q => hS z (by omega)), a4.fr hF (fun z p q => hS z (by omega)), a5.fr hF (hS _ (by omega)) (hS _ (by omega)), a6.fr hF (hS _ (by omega)), a7.fr hk h13 hF (fun z p q => hS z (by omega)), a8.fr hF (hS _ (by omega)) (hS _ (by omega)), a9.fr hF (hS _ (by omega))⟩
/-- a new field, its beds, in the same ground -/
theorem RC.qt {M1 : Mem} (h : RC g gs y ys D T P V k mk Q S M) (hk : k ≤ 3) (q : QT 0 g D.1 M M1) : RC g gs y ys D T P V k mk Q S M1 := by
  obtain ⟨a1, ⟨a2, a2'⟩, a3, a4, a5, a6, a7, a8, a9⟩ := h
  obtain ⟨q1, hF⟩ := q
  have gb := a1.2
  have h0 := hF 0 (fun q => by have := q.1; omega)
  have hS : ∀ z, (z < 57 ∨ 70 < z) → ¬ Rg (0 + 57) (0 + 70) z := fun z hz q => by
    have := q.1
    have := q.2
    omega
  exact ⟨a1.eq h0.2.2, ⟨q1, a2'.fr hF (hS _ (by omega)) (hS _ (by omega)) (hS _ (by omega))⟩, a3.fr hF (fun z p q => hS z (by omega)), a4.fr hF (fun z p q => hS z (by omega)), a5.fr hF (hS _ (by omega)) (hS _ (by omega)), a6.fr hF (hS _ (by omega)), a7.fr hk (by rw [h0.1]) hF (fun z p q => hS z (by omega)), a8.fr hF (hS _ (by omega)) (hS _ (by omega)), a9.fr hF (hS _ (by omega))⟩
/-! the reference -/
theorem YS.fr {r : Int} (hF : Fr W M M') (h1 : ¬ W (m + 1)) (h : YS m r N Y M) : YS m r N Y M' := by
  unfold YS at h ⊢
  rw [(hF (m + 1) h1).1]
  exact h
theorem RS.fr (hF : Fr W M M') (h1 : ¬ W (m + 1)) (h2 : ¬ W (m + 2)) (h : RS m D M) : RS m D M' := ⟨h.1.fr hF h1, h.2.1.fr hF h1, h.2.2.fr hF h2⟩
theorem RKs.fr (h45 : M'.1 m 45 = M.1 m 45) (hF : Fr W M M') (h1 : ¬ W (m + 1)) (h2 : ¬ W (m + 2)) (h : RKs m k mk M) : RKs m k mk M' := ⟨by rw [h45]; exact h.1, fun j j0 j1 => (h.2 j j0 j1).fr hF h1 h2⟩
theorem PkM.eq (h0 : M'.1 m 38 = M.1 m 38) (h1 : M'.1 (m + 20) = M.1 (m + 20)) (h : PkM m P M) : PkM m P M' := by
  unfold PkM at h ⊢
  rw [h0, h1]
  exact h
theorem TpM.eq (h0 : M'.1 m 10 = M.1 m 10) (h1 : M'.1 (m + 6) = M.1 (m + 6)) (h : TpM m Q M) : TpM m Q M' := by
  unfold TpM at h ⊢
  rw [h0, h1]
  exact h
theorem FMd.eq (h0 : M'.1 m 16 = M.1 m 16) (h1 : M'.1 m 17 = M.1 m 17) (h : FMd m S M) : FMd m S M' := by
  unfold FMd at h ⊢
  rw [h0, h1]
  exact h
/-- the reference's state is kept by what changes none of its cells -/
theorem RM.fr (h : RM m D T P V k mk Q S M) (hF : Fr W M M') (hm : ∀ i, i = 10 ∨ i = 16 ∨ i = 17 ∨ i = 38 ∨ i = 44 ∨ i = 45 → M'.1 m i = M.1 m i) (hS : ∀ z, (m + 1 ≤ z ∧ z ≤ m + 6) ∨ z = m + 20 ∨ z = m + 23 → ¬ W z) : RM m D T P V k mk Q S M' := by
  obtain ⟨a1, a2, a3, a4, a5, a6, a7⟩ := h
  exact ⟨a1.fr hF (hS _ (by omega)) (hS _ (by omega)), a2.fr hF (fun z p q => hS z (by omega)), a3.eq (hm _ (by omega)) (hF _ (hS _ (by omega))).1, a4.eq (hm _ (by omega)) (hF _ (hS _ (by omega))).1, a5.fr (hm _ (by omega)) hF (hS _ (by omega)) (hS _ (by omega)), a6.eq (hm _ (by omega)) (hF _ (hS _ (by omega))).1, a7.eq (hm _ (by omega)) (hm _ (by omega))⟩
theorem RM.qm {M1 : Mem} (h : RM m D T P V k mk Q S M) (q : QM m M M1) : RM m D T P V k mk Q S M1 := h.fr q.1 (fun i hi => q.2.1 i (by omega) (by omega)) (fun z hz q => by omega)
/-! both calls of a row -/
def cZ (M M1 : Mem) : Prop := Fr (fun z => z < 146 ∧ z ≠ 54 ∧ z ≠ 56) M M1 ∧ M1.2.1 0 = M.2.1 0
def mZ (M M2 : Mem) : Prop := Fr (fun z => 146 ≤ z ∧ z ≠ 157) M M2 ∧ M2.1 146 26 = M.1 146 26 ∧ M2.2.1 146 = M.2.1 146
theorem cZ.refl (M : Mem) : cZ M M := ⟨Fr.refl M, rfl⟩
theorem mZ.refl (M : Mem) : mZ M M := ⟨Fr.refl M, rfl, rfl⟩
theorem cZ.of {M1 : Mem} (hF : Fr W M M1) (h : ∀ z, W z → z ≠ 0 ∧ z < 146 ∧ z ≠ 54 ∧ z ≠ 56) : cZ M M1 := ⟨hF.mono (fun z q => (h z q).2), (hF 0 (fun q => (h 0 q).1 rfl)).2.1⟩
theorem glue_in {M1 M2 Ma Mb : Mem} (ok : SOk D' T' P' k' mk' Q') (hL : LM 0 146 M) (c1 : RC g gs y ys D' T' P' V' k' mk' Q' S' M1) (fa : Fr (fun z => z = 0) M1 Ma) (ra : Ma.2.2 0 = M1.2.2 0) (a13 : Ma.1 0 13 = M1.1 0 13) (c2 : cZ M M1) (m1 : RM 146 D' T' P' V' k' mk' Q' S' M2) (m2 : mZ Ma M2) (fb : Fr (fun z => z = 146) M2 Mb) (b : ∀ i, i ≠ 2 → Mb.1 146 i = M2.1 146 i) (e : EQ2 Mb) : INV Mb := by
  obtain ⟨hF1, _⟩ := c2
  obtain ⟨hF2, h26, _⟩ := m2
  have f : Fr (fun z => z = 0 ∨ 146 ≤ z) M1 Mb := ((fa.mono (fun z q => Or.inl q)).trans (hF2.mono (fun z q => Or.inr q.1))).trans (fb.mono (fun z q => Or.inr (by omega)))
  have z0 : Mb.1 0 = Ma.1 0 := by rw [(fb 0 (by omega)).1, (hF2 0 (by omega)).1]
  have r0 : Mb.2.2 0 = Ma.2.2 0 := by rw [(fb 0 (by omega)).2.2, (hF2 0 (by omega)).2.2]
  have ge := c1.1.2
  refine ⟨D', T', P', V', k', mk', Q', S', ok, ⟨g, gs, y, ys, c1.fr ok.2.2.2.1.1.2 f (by rw [r0, ra]) (by rw [z0, a13]) (fun z hz q => by omega)⟩, m1.fr fb (fun i hi => b i (by omega)) (fun z hz q => by omega), hL.cell ?_ ?_ ?_ ?_, e⟩
  · rw [(fb (0 + 54) (by omega)).1, (hF2 (0 + 54) (by omega)).1, (fa (0 + 54) (by omega)).1, (hF1 (0 + 54) (by omega)).1]
  · rw [(fb (0 + 56) (by omega)).1, (hF2 (0 + 56) (by omega)).1, (fa (0 + 56) (by omega)).1, (hF1 (0 + 56) (by omega)).1]
  · rw [b 26 (by omega), h26, (fa 146 (by omega)).1, (hF1 146 (by omega)).1]
  · rw [(fb (146 + 11) (by omega)).1, (hF2 (146 + 11) (by omega)).1, (fa (146 + 11) (by omega)).1, (hF1 (146 + 11) (by omega)).1]
theorem RM.lo {M1 : Mem} (h : RM 146 D T P V k mk Q S M) (hF : Fr (fun z => z < 146) M M1) : RM 146 D T P V k mk Q S M1 := h.fr hF (fun i hi => by rw [(hF 146 (by omega)).1]) (fun z hz q => by omega)
/-- status alone is told -/
theorem glue {α : Type} {fc fm : Mem → Option (α × Mem)} {v : α} {st : Int32} {M1 : Mem} (ok : SOk D' T' P' k' mk' Q') (hL : LM 0 146 M) (hE : EQ2 M) (hR : RM 146 D T P V k mk Q S M) (hc : fc M = some (v, stI M1 0 0 st)) (c1 : RC g gs y ys D' T' P' V' k' mk' Q' S' M1) (c2 : cZ M M1) (hm : ∀ Ma, RM 146 D T P V k mk Q S Ma → Ma.1 146 2 = M.1 146 2 → ∃ M2, fm Ma = some (v, stI M2 146 2 st) ∧ RM 146 D' T' P' V' k' mk' Q' S' M2 ∧ mZ Ma M2) : ∃ v M1 M2, fc M = some (v, M1) ∧ fm M1 = some (v, M2) ∧ INV M2 := by
  have fa : Fr (fun z => z = 0) M1 (stI M1 0 0 st) := Fr.stI rfl (Fr.refl M1)
  have f1 : Fr (fun z => z < 146) M (stI M1 0 0 st) := (c2.1.mono (fun z q => q.1)).trans (fa.mono (fun z q => by omega))
  obtain ⟨M2, r1, r2, r3⟩ := hm (stI M1 0 0 st) (hR.lo f1) (by rw [(f1 146 (by omega)).1])
  refine ⟨v, _, stI M2 146 2 st, hc, r1, glue_in ok hL c1 fa rfl (rI_nk (by omega)) c2 r2 r3 (Fr.stI rfl (Fr.refl M2)) (fun i hi => rI_nk hi) ⟨?_, ?_, ?_⟩⟩
  · rw [rI_ng (by omega), (r3.1 0 (by omega)).1, rI_at rfl rfl, rI_at rfl rfl]
  · show M2.2.1 0 1 = M2.2.1 146 3
    rw [(r3.1 0 (by omega)).2.1, r3.2.2]
    show M1.2.1 0 1 = M1.2.1 146 3
    rw [c2.2, (c2.1 146 (by omega)).2.1]
    exact hE.2.1
  · show M2.2.1 0 2 = M2.2.1 146 4
    rw [(r3.1 0 (by omega)).2.1, r3.2.2]
    show M1.2.1 0 2 = M1.2.1 146 4
    rw [c2.2, (c2.1 146 (by omega)).2.1]
    exact hE.2.2
/-- a fraction is told -/
theorem glueF {fc fm : Mem → Option (Int32 × Mem)} {r : Fq} {M1 : Mem} (ok : SOk D' T' P' k' mk' Q') (hL : LM 0 146 M) (hE : EQ2 M) (hR : RM 146 D T P V k mk Q S M) (hc : fc M = fC 0 M1 r) (c1 : RC g gs y ys D' T' P' V' k' mk' Q' S' M1) (c2 : cZ M M1) (hm : ∀ Ma, RM 146 D T P V k mk Q S Ma → ∃ M2, fm Ma = fM 146 M2 r ∧ RM 146 D' T' P' V' k' mk' Q' S' M2 ∧ mZ Ma M2) : ∃ v M1 M2, fc M = some (v, M1) ∧ fm M1 = some (v, M2) ∧ INV M2 := by
  cases r with
  | inr st =>
    have hc : fc M = some (iI 0, stI M1 0 0 (iI st)) := hc
    exact glue ok hL hE hR hc c1 c2 (fun Ma h _ => hm Ma h)
  | inl p =>
    obtain ⟨Ma, hMa⟩ : ∃ Ma, Ma = stI (stL (stL M1 0 1 (lI p.1)) 0 2 (lI p.2)) 0 0 (iI 0) := ⟨_, rfl⟩
    have hc : fc M = some (iI 1, Ma) := by rw [hMa]; exact hc
    have fa : Fr (fun z => z = 0) M1 Ma := by
      rw [hMa]
      exact Fr.stI rfl (Fr.stL rfl (Fr.stL rfl (Fr.refl M1)))
    have f1 : Fr (fun z => z < 146) M Ma := (c2.1.mono (fun z q => q.1)).trans (fa.mono (fun z q => by omega))
    obtain ⟨M2, r1, r2, r3⟩ := hm Ma (hR.lo f1)
    obtain ⟨Mb, hMb⟩ : ∃ Mb, Mb = stI (stL (stL M2 146 3 (lI p.1)) 146 4 (lI p.2)) 146 2 (iI 0) := ⟨_, rfl⟩
    have r1 : fm Ma = some (iI 1, Mb) := by rw [hMb]; exact r1
    have fb : Fr (fun z => z = 146) M2 Mb := by
      rw [hMb]
      exact Fr.stI rfl (Fr.stL rfl (Fr.stL rfl (Fr.refl M2)))
    have a1 : Ma.2.1 0 1 = lI p.1 := by
      rw [hMa]
      show (stL (stL M1 0 1 (lI p.1)) 0 2 (lI p.2)).2.1 0 1 = lI p.1
      rw [rL_nk (by omega)]
      exact rL_at rfl rfl
    have a2 : Ma.2.1 0 2 = lI p.2 := by
      rw [hMa]
      show (stL (stL M1 0 1 (lI p.1)) 0 2 (lI p.2)).2.1 0 2 = lI p.2
      exact rL_at rfl rfl
    have b1 : Mb.2.1 146 3 = lI p.1 := by
      rw [hMb]
      show (stL (stL M2 146 3 (lI p.1)) 146 4 (lI p.2)).2.1 146 3 = lI p.1
      rw [rL_nk (by omega)]
      exact rL_at rfl rfl
    have b2 : Mb.2.1 146 4 = lI p.2 := by
      rw [hMb]
      show (stL (stL M2 146 3 (lI p.1)) 146 4 (lI p.2)).2.1 146 4 = lI p.2
      exact rL_at rfl rfl
    have a0 : Ma.1 0 0 = iI 0 := by rw [hMa]; exact rI_at rfl rfl
    have b0 : Mb.1 146 2 = iI 0 := by rw [hMb]; exact rI_at rfl rfl
    have z1 : Mb.1 0 = Ma.1 0 := by rw [(fb 0 (by omega)).1, (r3.1 0 (by omega)).1]
    have z2 : Mb.2.1 0 = Ma.2.1 0 := by rw [(fb 0 (by omega)).2.1, (r3.1 0 (by omega)).2.1]
    refine ⟨iI 1, Ma, Mb, hc, r1, glue_in ok hL c1 fa (by rw [hMa]; rfl) (by rw [hMa, rI_nk (by omega)]; rfl) c2 r2 r3 fb (fun i hi => by rw [hMb, rI_nk hi]; rfl) ⟨by rw [z1, a0, b0], by rw [z2, a1, b1], by rw [z2, a2, b2]⟩⟩
end IN
