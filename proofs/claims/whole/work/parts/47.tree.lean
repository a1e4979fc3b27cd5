/-! folds -/
def foN {β : Type} (f : Int → β → β) : Nat → Int → β → β
  | 0, _, q => q
  | d + 1, i, q => foN f d (i + 1) (f i q)
def fo {β : Type} (f : Int → β → β) (N i : Int) (q : β) : β := foN f (N - i).toNat i q
theorem fo_e {β : Type} (f : Int → β → β) {N i : Int} (h : N ≤ i) (q : β) : fo f N i q = q := by
  unfold fo
  rw [show (N - i).toNat = 0 from by omega]
  rfl
theorem fo_s {β : Type} (f : Int → β → β) {N i : Int} (h : i < N) (q : β) : fo f N i q = fo f N (i + 1) (f i q) := by
  unfold fo
  rw [show (N - i).toNat = (N - (i + 1)).toNat + 1 from by omega]
  rfl
theorem fo_ind {β : Type} {f : Int → β → β} {N : Int} {Q : Int → β → Prop} (hs : ∀ i q, i < N → Q i q → Q (i + 1) (f i q)) : ∀ i q, i ≤ N → Q i q → Q N (fo f N i q) := by
  intro i q hi hq
  obtain ⟨d, hd⟩ : ∃ d : Nat, N - i = d := ⟨(N - i).toNat, by omega⟩
  induction d generalizing i q with
  | zero =>
    rw [fo_e f (by omega)]
    have : i = N := by omega
    rw [this] at hq
    exact hq
  | succ d ih =>
    have hlt : i < N := by omega
    rw [fo_s f hlt]
    exact ih (i + 1) (f i q) (by omega) (hs i q hlt hq) (by omega)
theorem fo_indR {β : Type} {f : Int → β → β} {N a : Int} {Q : Int → β → Prop} (hs : ∀ i q, a ≤ i → i < N → Q i q → Q (i + 1) (f i q)) : ∀ q, a ≤ N → Q a q → Q N (fo f N a q) := by
  intro q ha hq
  have := fo_ind (f := f) (N := N) (Q := fun i q => a ≤ i ∧ Q i q) (fun i q hi hQ => ⟨by omega, hs i q hQ.1 hi hQ.2⟩) a q ha ⟨Int.le_refl a, hq⟩
  exact this.2
/-! the tree of nearest ones -/
def s_sq (F : Fld) (a b : Int) : Int := (F 3 a 0 - F 3 b 0) * (F 3 a 0 - F 3 b 0) + (F 3 a 1 - F 3 b 1) * (F 3 a 1 - F 3 b 1)
theorem s_sq_bd {F : Fld} (w : WF F) {a b : Int} (ha : 0 ≤ a ∧ a < F 0 1 0) (hb : 0 ≤ b ∧ b < F 0 1 0) : -1996002 ≤ s_sq F a b ∧ s_sq F a b ≤ 1996002 := by
  have xa := w.x ha
  have ya := w.y ha
  have xb := w.x hb
  have yb := w.y hb
  have h1 := mul_bd (u := F 3 a 0 - F 3 b 0) (v := F 3 a 0 - F 3 b 0) (A := 999) (B := 999) (by omega) (by omega)
  have h2 := mul_bd (u := F 3 a 1 - F 3 b 1) (v := F 3 a 1 - F 3 b 1) (A := 999) (B := 999) (by omega) (by omega)
  unfold s_sq
  omega
def s_st (F : Fld) (p : Int → Int) (a b : Int) (q : Int × Int) : Int × Int := if p a = p b then q else if q.1 = -1 then (a, b) else if s_sq F a b < s_sq F q.1 q.2 then (a, b) else q
def s_row (F : Fld) (p : Int → Int) (a : Int) (q : Int × Int) : Int × Int := fo (fun b q => s_st F p a b q) (F 0 1 0) (a + 1) q
def s_scan (F : Fld) (p : Int → Int) : Int × Int := fo (fun a q => s_row F p a q) (F 0 1 0) 0 (-1, -1)
def s_rel (p : Int → Int) (q : Int × Int) (h : Int) : Int := if p h = p q.2 then p q.1 else p h
def tP (F : Fld) : Nat → Int → Int
  | 0 => fun h => h
  | k + 1 => s_rel (tP F k) (s_scan F (tP F k))
def tQ (F : Fld) (k : Nat) : Int × Int := s_scan F (tP F k)
theorem tP_s (F : Fld) (k : Nat) : tP F (k + 1) = s_rel (tP F k) (tQ F k) := rfl
/-- a couple that joins what is not joined -/
def s_ok (F : Fld) (p : Int → Int) (q : Int × Int) : Prop := 0 ≤ q.1 ∧ q.1 < q.2 ∧ q.2 < F 0 1 0 ∧ p q.1 ≠ p q.2
theorem s_row_inv {F : Fld} {p : Int → Int} {a : Int} {q : Int × Int} (ha : 0 ≤ a ∧ a < F 0 1 0) (h : s_ok F p q ∨ (q.1 = -1 ∧ ∀ a' b', 0 ≤ a' → a' < a → a' < b' → b' < F 0 1 0 → p a' = p b')) : s_ok F p (s_row F p a q) ∨ ((s_row F p a q).1 = -1 ∧ ∀ a' b', 0 ≤ a' → a' < a + 1 → a' < b' → b' < F 0 1 0 → p a' = p b') := by
  have key := fo_indR (f := fun b q => s_st F p a b q) (N := F 0 1 0) (a := a + 1) (Q := fun b q => s_ok F p q ∨ (q.1 = -1 ∧ (∀ a' b', 0 ≤ a' → a' < a → a' < b' → b' < F 0 1 0 → p a' = p b') ∧ ∀ b', a < b' → b' < b → p a = p b')) (fun b q hb0 hb hQ => by
    unfold s_st
    by_cases he : p a = p b
    · rw [if_pos he]
      rcases hQ with hQ | ⟨h1, h2, h3⟩
      · exact Or.inl hQ
      · refine Or.inr ⟨h1, h2, fun b' c1 c2 => ?_⟩
        by_cases hc : b' = b
        · rw [hc]; exact he
        · exact h3 b' c1 (by omega)
    · rw [if_neg he]
      refine Or.inl ?_
      have hn : s_ok F p (a, b) := ⟨ha.1, by show a < b; omega, hb, he⟩
      rcases hQ with hQ | ⟨h1, h2, h3⟩
      · have := hQ.1
        rw [if_neg (by omega)]
        by_cases hs : s_sq F a b < s_sq F q.1 q.2
        · rw [if_pos hs]; exact hn
        · rw [if_neg hs]; exact hQ
      · rw [if_pos h1]; exact hn) q (by omega) (by
      rcases h with h | ⟨h1, h2⟩
      · exact Or.inl h
      · exact Or.inr ⟨h1, h2, fun b' c1 c2 => by omega⟩)
  rcases key with key | ⟨h1, h2, h3⟩
  · exact Or.inl key
  · refine Or.inr ⟨h1, fun a' b' c1 c2 c3 c4 => ?_⟩
    by_cases hc : a' = a
    · rw [hc] at c3 ⊢; exact h3 b' c3 c4
    · exact h2 a' b' c1 (by omega) c3 c4
theorem s_scan_inv {F : Fld} (w : WF F) (p : Int → Int) : s_ok F p (s_scan F p) ∨ ∀ a b, 0 ≤ a → a < b → b < F 0 1 0 → p a = p b := by
  have h1 := w.n1
  have key := fo_indR (f := fun a q => s_row F p a q) (N := F 0 1 0) (a := 0) (Q := fun a q => s_ok F p q ∨ (q.1 = -1 ∧ ∀ a' b', 0 ≤ a' → a' < a → a' < b' → b' < F 0 1 0 → p a' = p b')) (fun a q h0 h1 hQ => s_row_inv ⟨h0, h1⟩ hQ) (-1, -1) h1.1 (Or.inr ⟨rfl, fun a' b' c1 c2 => by omega⟩)
  rcases key with key | ⟨_, h2⟩
  · exact Or.inl key
  · exact Or.inr fun a b c1 c2 c3 => h2 a b c1 (by omega) c2 c3
theorem sm_upd {f f' : Int → Int} {z : Int} (hf : ∀ h, h ≠ z → f' h = f h) (N : Int) (hz : 0 ≤ z ∧ z < N) : sm f' N = sm f N + (f' z - f z) := by
  have := sm_ind (f := f') (Q := fun i s => s = sm f i + if z < i then f' z - f z else 0) (N := N) (by rw [sm_0, if_neg (by omega)]; rfl) (fun i s h0 h1 hQ => by
    rw [hQ, sm_s f h0]
    by_cases hi : i = z
    · rw [if_neg (by omega), if_pos (by omega), hi]; omega
    · rw [hf i hi]
      by_cases hl : z < i
      · rw [if_pos hl, if_pos (by omega)]; omega
      · rw [if_neg hl, if_neg (by omega)]; omega) N (by omega) (Int.le_refl N)
  rw [this, if_pos hz.2]
/-- roots: how many labels there are -/
def s_rt (F : Fld) (p : Int → Int) : Int := sm (fun h => if p h = h then 1 else 0) (F 0 1 0)
theorem s_rt_id {F : Fld} (w : WF F) : s_rt F (fun h => h) = F 0 1 0 := by
  have h1 := w.n1
  exact sm_ind (f := fun h : Int => if h = h then 1 else 0) (Q := fun i s => s = i) rfl (fun i s _ _ hQ => by rw [hQ, if_pos rfl]) (F 0 1 0) h1.1 (Int.le_refl _)
theorem s_rt_one {F : Fld} (w : WF F) {p : Int → Int} (h : ∀ a b, 0 ≤ a → a < b → b < F 0 1 0 → p a = p b) : s_rt F p ≤ 1 := by
  have h1 := w.n1
  have := sm_ind (f := fun h : Int => if p h = h then 1 else 0) (N := F 0 1 0) (Q := fun i s => s = 0 ∨ (s = 1 ∧ ∃ z, 0 ≤ z ∧ z < i ∧ p z = z)) (Or.inl rfl) (fun i s i0 i1 hQ => by
    by_cases hp : p i = i
    · rw [if_pos hp]
      rcases hQ with hQ | ⟨h2, z, z0, z1, z2⟩
      · exact Or.inr ⟨by omega, i, i0, by omega, hp⟩
      · have := h z i z0 z1 i1
        omega
    · rw [if_neg hp]
      rcases hQ with hQ | ⟨h2, z, z0, z1, z2⟩
      · exact Or.inl (by omega)
      · exact Or.inr ⟨by omega, z, z0, by omega, z2⟩) (F 0 1 0) h1.1 (Int.le_refl _)
  unfold s_rt
  omega
theorem tP_inv {F : Fld} (w : WF F) (k : Nat) : (k : Int) < F 0 1 0 → (∀ h, 0 ≤ h → h < F 0 1 0 → 0 ≤ tP F k h ∧ tP F k h < F 0 1 0 ∧ tP F k (tP F k h) = tP F k h) ∧ s_rt F (tP F k) = F 0 1 0 - k := by
  induction k with
  | zero => exact fun _ => ⟨fun h a b => ⟨a, b, rfl⟩, by rw [show tP F 0 = fun h => h from rfl, s_rt_id w]; omega⟩
  | succ k ih =>
    intro hk
    obtain ⟨h1, h2⟩ := ih (by omega)
    have hok : s_ok F (tP F k) (tQ F k) := by
      rcases s_scan_inv w (tP F k) with h | h
      · exact h
      · have := s_rt_one w h
        omega
    obtain ⟨q1, q2, q3, q4⟩ := hok
    have z1 := h1 _ q1 (by omega)
    have z2 := h1 (tQ F k).2 (by omega) q3
    refine ⟨fun h a b => ?_, ?_⟩
    · have hh := h1 h a b
      rw [tP_s]
      unfold s_rel
      by_cases hc : tP F k h = tP F k (tQ F k).2
      · simp only [if_pos hc]
        refine ⟨z1.1, z1.2.1, ?_⟩
        rw [z1.2.2, if_neg q4]
      · simp only [if_neg hc]
        refine ⟨hh.1, hh.2.1, ?_⟩
        rw [hh.2.2, if_neg hc]
    · have := sm_upd (f := fun h => if tP F k h = h then 1 else 0) (f' := fun h => if tP F (k + 1) h = h then 1 else 0) (z := tP F k (tQ F k).2) (fun h hz => by
        show (if tP F (k + 1) h = h then (1 : Int) else 0) = if tP F k h = h then 1 else 0
        rw [tP_s]
        unfold s_rel
        by_cases hc : tP F k h = tP F k (tQ F k).2
        · rw [if_pos hc, if_neg (fun q => q4 (by rw [← hc, ← q, z1.2.2])), if_neg (fun q => hz (by rw [← hc]; exact q.symm))]
        · rw [if_neg hc]) (F 0 1 0) ⟨z2.1, z2.2.1⟩
      have e1 : (if tP F k (tP F k (tQ F k).2) = tP F k (tQ F k).2 then (1 : Int) else 0) = 1 := if_pos z2.2.2
      have e2 : (if tP F (k + 1) (tP F k (tQ F k).2) = tP F k (tQ F k).2 then (1 : Int) else 0) = 0 := by
        refine if_neg ?_
        rw [tP_s]
        unfold s_rel
        rw [if_pos z2.2.2]
        exact q4
      have e3 : s_rt F (tP F (k + 1)) = s_rt F (tP F k) + ((if tP F (k + 1) (tP F k (tQ F k).2) = tP F k (tQ F k).2 then (1 : Int) else 0) - if tP F k (tP F k (tQ F k).2) = tP F k (tQ F k).2 then (1 : Int) else 0) := this
      rw [e3, e1, e2, h2]
      omega
theorem tQ_ok {F : Fld} (w : WF F) {k : Nat} (hk : (k : Int) < F 0 1 0 - 1) : s_ok F (tP F k) (tQ F k) := by
  obtain ⟨h1, h2⟩ := tP_inv w k (by omega)
  rcases s_scan_inv w (tP F k) with h | h
  · exact h
  · have := s_rt_one w h
    omega
