/-! the beds: labels of layers, numbers of labels -/
def bJ (F : Fld) (a b l : Int) (L : Int → Int) (s : Int) : Int := if s_mt F a b l = -1 then L s else if L s = L (b * 12 + s_mt F a b l) then L (a * 12 + l) else L s
def bC (F : Fld) (a b : Int) (L : Int → Int) : Int → Int := fo (fun l L => bJ F a b l L) (F 3 a 2) 0 L
def bL (F : Fld) : Nat → Int → Int
  | 0 => fun s => s
  | k + 1 => bC F (tQ F k).1 (tQ F k).2 (bL F k)
theorem bL_s (F : Fld) (k : Nat) : bL F (k + 1) = bC F (tQ F k).1 (tQ F k).2 (bL F k) := rfl
/-- a layer that there is -/
def vl (F : Fld) (h l : Int) : Prop := (0 ≤ h ∧ h < F 0 1 0) ∧ 0 ≤ l ∧ l < F 3 h 2
section BJ
variable {F : Fld} {p L : Int → Int} {a b : Int}
/-- what stands while the pairs of a couple are joined, up to layer j of the first -/
def bJi (F : Fld) (p : Int → Int) (a b j : Int) (L : Int → Int) : Prop := (∀ h l h' l', vl F h l → vl F h' l' → L (h * 12 + l) = L (h' * 12 + l') → (p h = p h' ∨ (p h = p a ∧ p h' = p b) ∨ (p h = p b ∧ p h' = p a)) ∧ (h = h' → l = l')) ∧ (∀ i, j ≤ i → i < F 3 a 2 → ∀ h l, vl F h l → L (h * 12 + l) = L (a * 12 + i) → p h = p a) ∧ (∀ y, 0 ≤ y → y < F 3 b 2 → (∀ i, 0 ≤ i → i < j → s_mt F a b i ≠ y) → ∀ h l, vl F h l → L (h * 12 + l) = L (b * 12 + y) → p h = p b)
theorem bJ_step (ha : 0 ≤ a ∧ a < F 0 1 0) (hb : 0 ≤ b ∧ b < F 0 1 0) (hab : p a ≠ p b) {j : Int} (hj : 0 ≤ j ∧ j < F 3 a 2) (hI : bJi F p a b j L) : bJi F p a b (j + 1) (bJ F a b j L) := by
  obtain ⟨h1, h2, h3⟩ := hI
  by_cases hm : s_mt F a b j = -1
  · have e : bJ F a b j L = L := by funext s; exact if_pos hm
    rw [e]
    refine ⟨h1, fun i i0 i1 => h2 i (by omega) i1, fun y y0 y1 hy => h3 y y0 y1 fun i i0 i1 => hy i i0 (by omega)⟩
  · have hr := s_mt_rng F a b hj.1
    have hy0 : 0 ≤ s_mt F a b j ∧ s_mt F a b j < F 3 b 2 := by omega
    have va : vl F a j := ⟨ha, hj⟩
    have vb : vl F b (s_mt F a b j) := ⟨hb, hy0⟩
    have pa : ∀ h l, vl F h l → L (h * 12 + l) = L (a * 12 + j) → p h = p a := h2 j (Int.le_refl j) hj.2
    have pb : ∀ h l, vl F h l → L (h * 12 + l) = L (b * 12 + s_mt F a b j) → p h = p b := h3 _ hy0.1 hy0.2 fun i i0 i1 q => by
      have := s_mt_mono F a b i0 i1 (by omega) hm
      omega
    have e : ∀ s, bJ F a b j L s = if L s = L (b * 12 + s_mt F a b j) then L (a * 12 + j) else L s := fun s => if_neg hm
    have key : ∀ s, (L s = L (b * 12 + s_mt F a b j) ∧ bJ F a b j L s = L (a * 12 + j)) ∨ (L s ≠ L (b * 12 + s_mt F a b j) ∧ bJ F a b j L s = L s) := fun s => by
      by_cases hc : L s = L (b * 12 + s_mt F a b j)
      · exact Or.inl ⟨hc, by rw [e s, if_pos hc]⟩
      · exact Or.inr ⟨hc, by rw [e s, if_neg hc]⟩
    refine ⟨fun h l h' l' v v' hL => ?_, fun i i0 i1 h l v hL => ?_, fun y y0 y1 hy h l v hL => ?_⟩
    · rcases key (h * 12 + l) with ⟨c1, c2⟩ | ⟨c1, c2⟩ <;> rcases key (h' * 12 + l') with ⟨d1, d2⟩ | ⟨d1, d2⟩
      · exact h1 h l h' l' v v' (by rw [c1, d1])
      · rw [c2, d2] at hL
        have q1 := pb h l v c1
        have q2 := pa h' l' v' hL.symm
        refine ⟨Or.inr (Or.inr ⟨q1, q2⟩), fun q => ?_⟩
        rw [q, q2] at q1
        exact absurd q1 hab
      · rw [c2, d2] at hL
        have q1 := pa h l v hL
        have q2 := pb h' l' v' d1
        refine ⟨Or.inr (Or.inl ⟨q1, q2⟩), fun q => ?_⟩
        rw [q, q2] at q1
        exact absurd q1.symm hab
      · rw [c2, d2] at hL
        exact h1 h l h' l' v v' hL
    · have vi : vl F a i := ⟨ha, by omega, i1⟩
      have n1 : L (a * 12 + i) ≠ L (b * 12 + s_mt F a b j) := fun q => hab (pb a i vi q)
      have n2 : L (a * 12 + i) ≠ L (a * 12 + j) := fun q => by
        have := (h1 a i a j vi va q).2 rfl
        omega
      rcases key (a * 12 + i) with ⟨c1, c2⟩ | ⟨c1, c2⟩
      · exact absurd c1 n1
      · rcases key (h * 12 + l) with ⟨d1, d2⟩ | ⟨d1, d2⟩
        · rw [c2, d2] at hL
          exact absurd hL.symm n2
        · rw [c2, d2] at hL
          exact h2 i (by omega) i1 h l v hL
    · have vy : vl F b y := ⟨hb, y0, y1⟩
      have ny : s_mt F a b j ≠ y := hy j hj.1 (by omega)
      have n1 : L (b * 12 + y) ≠ L (b * 12 + s_mt F a b j) := fun q => by
        have := (h1 b y b _ vy vb q).2 rfl
        omega
      have n2 : L (b * 12 + y) ≠ L (a * 12 + j) := fun q => hab (pa b y vy q).symm
      rcases key (b * 12 + y) with ⟨c1, c2⟩ | ⟨c1, c2⟩
      · exact absurd c1 n1
      · rcases key (h * 12 + l) with ⟨d1, d2⟩ | ⟨d1, d2⟩
        · rw [c2, d2] at hL
          exact absurd hL.symm n2
        · rw [c2, d2] at hL
          exact h3 y y0 y1 (fun i i0 i1 => hy i i0 (by omega)) h l v hL
theorem bC_inv (w : WF F) (ha : 0 ≤ a ∧ a < F 0 1 0) (hb : 0 ≤ b ∧ b < F 0 1 0) (hab : p a ≠ p b) (h0 : ∀ h l h' l', vl F h l → vl F h' l' → L (h * 12 + l) = L (h' * 12 + l') → p h = p h' ∧ (h = h' → l = l')) : ∀ h l h' l', vl F h l → vl F h' l' → bC F a b L (h * 12 + l) = bC F a b L (h' * 12 + l') → s_rel p (a, b) h = s_rel p (a, b) h' ∧ (h = h' → l = l') := by
  have hn := w.nl ha
  have key := fo_indR (f := fun l L => bJ F a b l L) (N := F 3 a 2) (a := 0) (Q := fun j L => bJi F p a b j L) (fun j L j0 j1 hQ => bJ_step ha hb hab ⟨j0, j1⟩ hQ) L hn.1 ⟨fun h l h' l' v v' hL => ⟨Or.inl (h0 h l h' l' v v' hL).1, (h0 h l h' l' v v' hL).2⟩, fun i i0 i1 h l v hL => (h0 h l a i v ⟨ha, i0, i1⟩ hL).1, fun y y0 y1 _ h l v hL => (h0 h l b y v ⟨hb, y0, y1⟩ hL).1⟩
  intro h l h' l' v v' hL
  obtain ⟨k1, k2⟩ := key.1 h l h' l' v v' hL
  refine ⟨?_, k2⟩
  unfold s_rel
  show (if p h = p b then p a else p h) = if p h' = p b then p a else p h'
  rcases k1 with k1 | ⟨k1, k3⟩ | ⟨k1, k3⟩
  · rw [k1]
  · rw [k1, k3, if_neg hab, if_pos rfl]
  · rw [k1, k3, if_neg hab, if_pos rfl]
end BJ
theorem bL_inv {F : Fld} (w : WF F) (k : Nat) : (k : Int) ≤ F 0 1 0 - 1 → ∀ h l h' l', vl F h l → vl F h' l' → bL F k (h * 12 + l) = bL F k (h' * 12 + l') → tP F k h = tP F k h' ∧ (h = h' → l = l') := by
  induction k with
  | zero =>
    intro _ h l h' l' v v' hL
    have hL : h * 12 + l = h' * 12 + l' := hL
    have n1 := w.nl v.1
    have n2 := w.nl v'.1
    have v1 := v.2
    have v2 := v'.2
    have e : h = h' := by omega
    exact ⟨e, fun _ => by omega⟩
  | succ k ih =>
    intro hk
    obtain ⟨q1, q2, q3, q4⟩ := tQ_ok w (k := k) (by omega)
    rw [bL_s, tP_s]
    exact bC_inv w ⟨q1, by omega⟩ ⟨by omega, q3⟩ q4 (ih (by omega))
/-- labels stay places -/
theorem bJ_rng {F : Fld} {a b l : Int} {L : Int → Int} (hL : ∀ s, 0 ≤ s → s < 72 → 0 ≤ L s ∧ L s < 72) (ha : 0 ≤ a * 12 + l ∧ a * 12 + l < 72) : ∀ s, 0 ≤ s → s < 72 → 0 ≤ bJ F a b l L s ∧ bJ F a b l L s < 72 := by
  intro s s0 s1
  unfold bJ
  by_cases h1 : s_mt F a b l = -1
  · rw [if_pos h1]; exact hL s s0 s1
  · rw [if_neg h1]
    by_cases h2 : L s = L (b * 12 + s_mt F a b l)
    · rw [if_pos h2]; exact hL _ ha.1 ha.2
    · rw [if_neg h2]; exact hL s s0 s1
theorem bC_rng {F : Fld} (w : WF F) {a b : Int} (ha : 0 ≤ a ∧ a < F 0 1 0) {L : Int → Int} (hL : ∀ s, 0 ≤ s → s < 72 → 0 ≤ L s ∧ L s < 72) : ∀ s, 0 ≤ s → s < 72 → 0 ≤ bC F a b L s ∧ bC F a b L s < 72 := by
  have h1 := w.n1
  have h2 := w.nl ha
  exact fo_indR (f := fun l L => bJ F a b l L) (N := F 3 a 2) (a := 0) (Q := fun _ L => ∀ s, 0 ≤ s → s < 72 → 0 ≤ L s ∧ L s < 72) (fun i q i0 i1 hQ => bJ_rng hQ (by omega)) L h2.1 hL
theorem bL_rng {F : Fld} (w : WF F) (k : Nat) : (k : Int) ≤ F 0 1 0 - 1 → ∀ s, 0 ≤ s → s < 72 → 0 ≤ bL F k s ∧ bL F k s < 72 := by
  induction k with
  | zero => exact fun _ s s0 s1 => ⟨s0, s1⟩
  | succ k ih =>
    intro hk
    obtain ⟨q1, q2, q3, q4⟩ := tQ_ok w (k := k) (by omega)
    rw [bL_s]
    exact bC_rng w ⟨q1, by omega⟩ (ih (by omega))
/-! numbers -/
abbrev NS : Type := Int × (Int → Int)
def nS (L : Int → Int) (s : Int) (q : NS) : NS := if q.2 (L s) = -1 then (q.1 + 1, fun x => if x = L s then q.1 else q.2 x) else q
def nR (F : Fld) (L : Int → Int) (h : Int) (q : NS) : NS := fo (fun l q => nS L (h * 12 + l) q) (F 3 h 2) 0 q
def nA (F : Fld) (L : Int → Int) : NS := fo (fun h q => nR F L h q) (F 0 1 0) 0 (0, fun _ => -1)
/-- numbers are given in order, once -/
def nOk (q : NS) : Prop := 0 ≤ q.1 ∧ (∀ x, q.2 x = -1 ∨ (0 ≤ q.2 x ∧ q.2 x < q.1)) ∧ ∀ x y, q.2 x ≠ -1 → q.2 x = q.2 y → x = y
theorem nS_inv {L : Int → Int} {s : Int} {q : NS} (h : nOk q) : nOk (nS L s q) ∧ (nS L s q).2 (L s) ≠ -1 ∧ (∀ x, q.2 x ≠ -1 → (nS L s q).2 x = q.2 x) ∧ q.1 ≤ (nS L s q).1 ∧ (nS L s q).1 ≤ q.1 + 1 := by
  obtain ⟨h0, h1, h2⟩ := h
  unfold nS
  by_cases hc : q.2 (L s) = -1
  · rw [if_pos hc]
    refine ⟨⟨by show 0 ≤ q.1 + 1; omega, fun x => ?_, fun x y hx hxy => ?_⟩, ?_, fun x hx => ?_, by show q.1 ≤ q.1 + 1; omega, Int.le_refl _⟩
    · show (if x = L s then q.1 else q.2 x) = -1 ∨ (0 ≤ (if x = L s then q.1 else q.2 x) ∧ (if x = L s then q.1 else q.2 x) < q.1 + 1)
      by_cases hx : x = L s
      · rw [if_pos hx]; omega
      · rw [if_neg hx]
        have := h1 x
        omega
    · have hx : (if x = L s then q.1 else q.2 x) ≠ -1 := hx
      have hxy : (if x = L s then q.1 else q.2 x) = if y = L s then q.1 else q.2 y := hxy
      have ux := h1 x
      have uy := h1 y
      by_cases c1 : x = L s
      · by_cases c2 : y = L s
        · rw [c1, c2]
        · rw [if_pos c1, if_neg c2] at hxy
          omega
      · by_cases c2 : y = L s
        · rw [if_neg c1] at hx
          rw [if_neg c1, if_pos c2] at hxy
          omega
        · rw [if_neg c1] at hx
          rw [if_neg c1, if_neg c2] at hxy
          exact h2 x y hx hxy
    · show (if L s = L s then q.1 else q.2 (L s)) ≠ -1
      rw [if_pos rfl]
      omega
    · show (if x = L s then q.1 else q.2 x) = q.2 x
      rw [if_neg (fun e => hx (by rw [e]; exact hc))]
  · rw [if_neg hc]
    exact ⟨⟨h0, h1, h2⟩, hc, fun _ _ => rfl, Int.le_refl _, by omega⟩
theorem nR_inv {F : Fld} (w : WF F) {L : Int → Int} {h : Int} (hh : 0 ≤ h ∧ h < F 0 1 0) {q : NS} (hq : nOk q) : nOk (nR F L h q) ∧ (∀ l, 0 ≤ l → l < F 3 h 2 → (nR F L h q).2 (L (h * 12 + l)) ≠ -1) ∧ (∀ x, q.2 x ≠ -1 → (nR F L h q).2 x = q.2 x) ∧ q.1 ≤ (nR F L h q).1 ∧ (nR F L h q).1 ≤ q.1 + F 3 h 2 := by
  have hn := w.nl hh
  exact fo_indR (f := fun l q => nS L (h * 12 + l) q) (N := F 3 h 2) (a := 0) (Q := fun i r => nOk r ∧ (∀ l, 0 ≤ l → l < i → r.2 (L (h * 12 + l)) ≠ -1) ∧ (∀ x, q.2 x ≠ -1 → r.2 x = q.2 x) ∧ q.1 ≤ r.1 ∧ r.1 ≤ q.1 + i) (fun i r i0 i1 hQ => by
    obtain ⟨c1, c2, c3, c4, c5⟩ := hQ
    obtain ⟨d1, d2, d3, d4, d5⟩ := nS_inv (L := L) (s := h * 12 + i) c1
    refine ⟨d1, fun l l0 l1 => ?_, fun x hx => ?_, by omega, by omega⟩
    · by_cases hl : l = i
      · rw [hl]; exact d2
      · rw [d3 _ (c2 l l0 (by omega))]
        exact c2 l l0 (by omega)
    · rw [d3 x (by rw [c3 x hx]; exact hx), c3 x hx]) q hn.1 ⟨hq, fun l l0 l1 => by omega, fun _ _ => rfl, Int.le_refl _, by omega⟩
theorem nA_inv {F : Fld} (w : WF F) (L : Int → Int) : nOk (nA F L) ∧ (∀ h l, vl F h l → (nA F L).2 (L (h * 12 + l)) ≠ -1) ∧ (nA F L).1 ≤ 72 := by
  have h1 := w.n1
  have := fo_indR (f := fun h q => nR F L h q) (N := F 0 1 0) (a := 0) (Q := fun i r => nOk r ∧ (∀ h l, vl F h l → h < i → r.2 (L (h * 12 + l)) ≠ -1) ∧ r.1 ≤ 12 * i) (fun i r i0 i1 hQ => by
    obtain ⟨c1, c2, c3⟩ := hQ
    have hn := w.nl ⟨i0, i1⟩
    obtain ⟨d1, d2, d3, d4, d5⟩ := nR_inv w (L := L) ⟨i0, i1⟩ c1
    refine ⟨d1, fun h l v hi => ?_, by omega⟩
    by_cases hl : h = i
    · rw [hl]
      rw [hl] at v
      exact d2 l v.2.1 v.2.2
    · rw [d3 _ (c2 h l v (by omega))]
      exact c2 h l v (by omega)) ((0 : Int), fun _ => (-1 : Int)) h1.1 ⟨⟨Int.le_refl 0, fun x => Or.inl rfl, fun x y hx => absurd rfl hx⟩, fun h l v hi => by have := v.1.1; omega, Int.le_refl _⟩
  exact ⟨this.1, fun h l v => this.2.1 h l v v.1.2, by have := this.2.2; unfold nA; omega⟩
/-! the beds as they are told -/
def s_cn (F : Fld) : Nat := (F 0 1 0 - 1).toNat
def s_lab (F : Fld) : Int → Int := bL F (s_cn F)
def bN (F : Fld) : Int := (nA F (s_lab F)).1
def bA (F : Fld) (h l : Int) : Int := (nA F (s_lab F)).2 (s_lab F (h * 12 + l))
def s_fst (F : Fld) (x h : Int) : Int := ff (fun l => bA F h l == x) (F 3 h 2) 0
theorem bA_rng {F : Fld} (w : WF F) {h l : Int} (v : vl F h l) : 0 ≤ bA F h l ∧ bA F h l < bN F := by
  obtain ⟨h1, h2, h3⟩ := nA_inv w (s_lab F)
  have a1 := h1.2.1 (s_lab F (h * 12 + l))
  have a2 := h2 h l v
  unfold bA bN
  omega
theorem bN_rng {F : Fld} (w : WF F) : 0 ≤ bN F ∧ bN F ≤ 72 := by
  obtain ⟨h1, h2, h3⟩ := nA_inv w (s_lab F)
  exact ⟨h1.1, h3⟩
theorem bA_uni {F : Fld} (w : WF F) {h l l' : Int} (v : vl F h l) (v' : vl F h l') (e : bA F h l = bA F h l') : l = l' := by
  obtain ⟨h1, h2, h3⟩ := nA_inv w (s_lab F)
  have hn := w.n1
  have hc : ((s_cn F : Nat) : Int) ≤ F 0 1 0 - 1 := by
    unfold s_cn
    have := v.1
    omega
  have := h1.2.2 _ _ (h2 h l v) e
  exact (bL_inv w (s_cn F) hc h l h l' v v' this).2 rfl
theorem s_fst_rng {F : Fld} (w : WF F) {x h : Int} (hh : 0 ≤ h ∧ h < F 0 1 0) : s_fst F x h = -1 ∨ (0 ≤ s_fst F x h ∧ s_fst F x h < F 3 h 2 ∧ bA F h (s_fst F x h) = x) := by
  have hn := w.nl hh
  rcases ff_rng (fun l => bA F h l == x) (F 3 h 2) 0 (by omega) hn.1 with h1 | h1
  · exact Or.inl h1.1
  · exact Or.inr ⟨h1.1, h1.2.1, by have := h1.2.2.1; simp only [beq_iff_eq] at this; exact this⟩
theorem s_fst_eq {F : Fld} (w : WF F) {h l : Int} (v : vl F h l) : s_fst F (bA F h l) h = l := by
  have hn := w.nl v.1
  have hl := v.2
  rcases ff_rng (fun l' => bA F h l' == bA F h l) (F 3 h 2) 0 (by omega) hn.1 with h1 | h1
  · have := h1.2 l v.2.1 v.2.2
    simp at this
  · have := bA_uni w (l := s_fst F (bA F h l) h) (l' := l) ⟨v.1, h1.1, h1.2.1⟩ v (by have := h1.2.2.1; simp only [beq_iff_eq] at this; exact this)
    exact this
theorem s_fst_no {F : Fld} (w : WF F) {x h : Int} (hh : 0 ≤ h ∧ h < F 0 1 0) (hno : ∀ l, 0 ≤ l → l < F 3 h 2 → bA F h l ≠ x) : s_fst F x h = -1 := by
  rcases s_fst_rng w (x := x) hh with h1 | h1
  · exact h1
  · exact absurd h1.2.2 (hno _ h1.1 h1.2.1)
theorem s_lab_rng {F : Fld} (w : WF F) : ∀ s, 0 ≤ s → s < 72 → 0 ≤ s_lab F s ∧ s_lab F s < 72 := by
  have hn := w.n1
  by_cases h : F 0 1 0 ≤ 0
  · unfold s_lab s_cn
    rw [show (F 0 1 0 - 1).toNat = 0 from by omega]
    exact fun s a b => ⟨a, b⟩
  · exact bL_rng w (s_cn F) (by unfold s_cn; omega)
