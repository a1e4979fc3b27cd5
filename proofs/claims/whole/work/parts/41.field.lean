/-! the field: what both sides show -/
abbrev Fld : Type := Nat → Int → Int → Int
def tw (ax ay bx b_y cx cy : Int) : Int := (bx - ax) * (cy - ay) - (b_y - ay) * (cx - ax)
theorem mul_bd {u v : Int} {A B : Int} (hu : -A ≤ u ∧ u ≤ A) (hv : -B ≤ v ∧ v ≤ B) : -(A * B) ≤ u * v ∧ u * v ≤ A * B := by
  have h : (u * v).natAbs ≤ A.toNat * B.toNat := by
    rw [Int.natAbs_mul]
    exact Nat.mul_le_mul (by omega) (by omega)
  have h2 : ((A.toNat * B.toNat : Nat) : Int) = A * B := by
    rw [Int.natCast_mul, Int.toNat_of_nonneg (by omega), Int.toNat_of_nonneg (by omega)]
  omega
theorem tw_bd {a b c d e f : Int} (ha : 0 ≤ a ∧ a ≤ 999) (hb : 0 ≤ b ∧ b ≤ 999) (hc : 0 ≤ c ∧ c ≤ 999) (hd : 0 ≤ d ∧ d ≤ 999) (he : 0 ≤ e ∧ e ≤ 999) (hf : 0 ≤ f ∧ f ≤ 999) : -1996002 ≤ tw a b c d e f ∧ tw a b c d e f ≤ 1996002 := by
  have h1 := mul_bd (u := c - a) (v := f - b) (A := 999) (B := 999) (by omega) (by omega)
  have h2 := mul_bd (u := d - b) (v := e - a) (A := 999) (B := 999) (by omega) (by omega)
  unfold tw
  omega
def s_turn3 (F : Fld) (a b c : Int) : Int := tw (F 3 a 0) (F 3 a 1) (F 3 b 0) (F 3 b 1) (F 3 c 0) (F 3 c 1)
def s_turn (F : Fld) (t : Int) : Int := s_turn3 F (F 6 t 0) (F 6 t 1) (F 6 t 2)
def s_right (F : Fld) (f h : Int) : Bool := decide (tw (F 7 f 0) (F 7 f 1) (F 7 f 2) (F 7 f 3) (F 3 h 0) (F 3 h 1) < 0)
def s_top (F : Fld) (h n : Int) : Int := sm (fun l => F 5 h l) n
def s_thrown (F : Fld) (h : Int) : Int := sm (fun f => if s_right F f h then F 7 f 4 else 0) (F 0 3 0)
def s_depth (F : Fld) (h l : Int) : Int := s_thrown F h + s_top F h l
def WF (F : Fld) : Prop := ((0 ≤ F 0 0 0 ∧ F 0 0 0 ≤ 8) ∧ (0 ≤ F 0 1 0 ∧ F 0 1 0 ≤ 6) ∧ (0 ≤ F 0 2 0 ∧ F 0 2 0 ≤ 8) ∧ 0 ≤ F 0 3 0 ∧ F 0 3 0 ≤ 2) ∧ (∀ r, 0 ≤ r → r < F 0 0 0 → 0 ≤ F 1 r 0 ∧ F 1 r 0 ≤ 99) ∧ (∀ a b, 0 ≤ a → a < F 0 0 0 → 0 ≤ b → b < F 0 0 0 → 0 ≤ F 2 a b ∧ F 2 a b ≤ 99 ∧ F 2 a a = 0) ∧ (∀ h, 0 ≤ h → h < F 0 1 0 → (0 ≤ F 3 h 0 ∧ F 3 h 0 ≤ 999) ∧ (0 ≤ F 3 h 1 ∧ F 3 h 1 ≤ 999) ∧ 0 ≤ F 3 h 2 ∧ F 3 h 2 ≤ 12) ∧ (∀ h l, 0 ≤ h → h < F 0 1 0 → 0 ≤ l → l < F 3 h 2 → (0 ≤ F 4 h l ∧ F 4 h l < F 0 0 0) ∧ 1 ≤ F 5 h l ∧ F 5 h l ≤ 999) ∧ (∀ t k, 0 ≤ t → t < F 0 2 0 → 0 ≤ k → k < 3 → 0 ≤ F 6 t k ∧ F 6 t k < F 0 1 0) ∧ (∀ t, 0 ≤ t → t < F 0 2 0 → s_turn F t ≠ 0) ∧ ∀ f k, 0 ≤ f → f < F 0 3 0 → 0 ≤ k → k < 5 → 0 ≤ F 7 f k ∧ F 7 f k ≤ 999
theorem WF.n0 {F : Fld} (w : WF F) : 0 ≤ F 0 0 0 ∧ F 0 0 0 ≤ 8 := w.1.1
theorem WF.n1 {F : Fld} (w : WF F) : 0 ≤ F 0 1 0 ∧ F 0 1 0 ≤ 6 := w.1.2.1
theorem WF.n2 {F : Fld} (w : WF F) : 0 ≤ F 0 2 0 ∧ F 0 2 0 ≤ 8 := w.1.2.2.1
theorem WF.n3 {F : Fld} (w : WF F) : 0 ≤ F 0 3 0 ∧ F 0 3 0 ≤ 2 := w.1.2.2.2
theorem WF.sk {F : Fld} (w : WF F) {r : Int} (h : 0 ≤ r ∧ r < F 0 0 0) : 0 ≤ F 1 r 0 ∧ F 1 r 0 ≤ 99 := w.2.1 r h.1 h.2
theorem WF.cp {F : Fld} (w : WF F) {a b : Int} (ha : 0 ≤ a ∧ a < F 0 0 0) (hb : 0 ≤ b ∧ b < F 0 0 0) : 0 ≤ F 2 a b ∧ F 2 a b ≤ 99 := ⟨(w.2.2.1 a b ha.1 ha.2 hb.1 hb.2).1, (w.2.2.1 a b ha.1 ha.2 hb.1 hb.2).2.1⟩
theorem WF.cd {F : Fld} (w : WF F) {a : Int} (ha : 0 ≤ a ∧ a < F 0 0 0) : F 2 a a = 0 := (w.2.2.1 a a ha.1 ha.2 ha.1 ha.2).2.2
theorem WF.x {F : Fld} (w : WF F) {h : Int} (hh : 0 ≤ h ∧ h < F 0 1 0) : 0 ≤ F 3 h 0 ∧ F 3 h 0 ≤ 999 := (w.2.2.2.1 h hh.1 hh.2).1
theorem WF.y {F : Fld} (w : WF F) {h : Int} (hh : 0 ≤ h ∧ h < F 0 1 0) : 0 ≤ F 3 h 1 ∧ F 3 h 1 ≤ 999 := (w.2.2.2.1 h hh.1 hh.2).2.1
theorem WF.nl {F : Fld} (w : WF F) {h : Int} (hh : 0 ≤ h ∧ h < F 0 1 0) : 0 ≤ F 3 h 2 ∧ F 3 h 2 ≤ 12 := (w.2.2.2.1 h hh.1 hh.2).2.2
theorem WF.rk {F : Fld} (w : WF F) {h l : Int} (hh : 0 ≤ h ∧ h < F 0 1 0) (hl : 0 ≤ l ∧ l < F 3 h 2) : 0 ≤ F 4 h l ∧ F 4 h l < F 0 0 0 := (w.2.2.2.2.1 h l hh.1 hh.2 hl.1 hl.2).1
theorem WF.th {F : Fld} (w : WF F) {h l : Int} (hh : 0 ≤ h ∧ h < F 0 1 0) (hl : 0 ≤ l ∧ l < F 3 h 2) : 1 ≤ F 5 h l ∧ F 5 h l ≤ 999 := (w.2.2.2.2.1 h l hh.1 hh.2 hl.1 hl.2).2
theorem WF.co {F : Fld} (w : WF F) {t k : Int} (ht : 0 ≤ t ∧ t < F 0 2 0) (hk : 0 ≤ k ∧ k < 3) : 0 ≤ F 6 t k ∧ F 6 t k < F 0 1 0 := w.2.2.2.2.2.1 t k ht.1 ht.2 hk.1 hk.2
theorem WF.tn {F : Fld} (w : WF F) {t : Int} (ht : 0 ≤ t ∧ t < F 0 2 0) : s_turn F t ≠ 0 := w.2.2.2.2.2.2.1 t ht.1 ht.2
theorem WF.fl {F : Fld} (w : WF F) {f k : Int} (hf : 0 ≤ f ∧ f < F 0 3 0) (hk : 0 ≤ k ∧ k < 5) : 0 ≤ F 7 f k ∧ F 7 f k ≤ 999 := w.2.2.2.2.2.2.2 f k hf.1 hf.2 hk.1 hk.2
theorem WF.top {F : Fld} (w : WF F) {h n : Int} (hh : 0 ≤ h ∧ h < F 0 1 0) (hn : 0 ≤ n ∧ n ≤ F 3 h 2) : 0 ≤ s_top F h n ∧ s_top F h n ≤ 11988 := by
  have h1 := sm_bd (f := fun l => F 5 h l) (N := F 3 h 2) (B := 999) (fun i a b => by have := w.th hh ⟨a, b⟩; exact ⟨by omega, this.2⟩) n hn.1 hn.2
  have h2 := w.nl hh
  unfold s_top
  omega
theorem WF.thrown {F : Fld} (w : WF F) {h : Int} : 0 ≤ s_thrown F h ∧ s_thrown F h ≤ 1998 := by
  have h1 := sm_bd (f := fun f => if s_right F f h then F 7 f 4 else 0) (N := F 0 3 0) (B := 999) (fun i a b => by
    have := w.fl (f := i) (k := 4) ⟨a, b⟩ (by omega)
    show 0 ≤ (if s_right F i h then F 7 i 4 else 0) ∧ (if s_right F i h then F 7 i 4 else 0) ≤ 999
    by_cases hr : s_right F i h = true
    · rw [if_pos hr]; exact this
    · rw [if_neg hr]; omega) (F 0 3 0) w.n3.1 (Int.le_refl _)
  have h2 := w.n3
  unfold s_thrown
  omega
theorem WF.depth {F : Fld} (w : WF F) {h n : Int} (hh : 0 ≤ h ∧ h < F 0 1 0) (hn : 0 ≤ n ∧ n ≤ F 3 h 2) : 0 ≤ s_depth F h n ∧ s_depth F h n ≤ 13986 := by
  have h1 := w.top hh hn
  have h2 := w.thrown (h := h)
  unfold s_depth
  omega
theorem WF.tr3 {F : Fld} (w : WF F) {a b c : Int} (ha : 0 ≤ a ∧ a < F 0 1 0) (hb : 0 ≤ b ∧ b < F 0 1 0) (hc : 0 ≤ c ∧ c < F 0 1 0) : -1996002 ≤ s_turn3 F a b c ∧ s_turn3 F a b c ≤ 1996002 := tw_bd (w.x ha) (w.y ha) (w.x hb) (w.y hb) (w.x hc) (w.y hc)
theorem WF.tr {F : Fld} (w : WF F) {t : Int} (ht : 0 ≤ t ∧ t < F 0 2 0) : -1996002 ≤ s_turn F t ∧ s_turn F t ≤ 1996002 := w.tr3 (w.co ht (by omega)) (w.co ht (by omega)) (w.co ht (by omega))
/-- the ground at g shows F -/
def GR (g : Nat) (F : Fld) (M : Mem) : Prop := (M.1 g 0 = iI (F 0 0 0) ∧ M.1 g 4 = iI (F 0 1 0) ∧ M.1 g 11 = iI (F 0 2 0) ∧ M.1 g 13 = iI (F 0 3 0)) ∧ (∀ r, 0 ≤ r → r < F 0 0 0 → M.1 (g + 2) r.toNat = iI (F 1 r 0)) ∧ (∀ a b, 0 ≤ a → a < F 0 0 0 → 0 ≤ b → b < F 0 0 0 → M.1 (g + 3) (a * 8 + b).toNat = iI (F 2 a b)) ∧ (∀ h, 0 ≤ h → h < F 0 1 0 → M.1 (g + 5) h.toNat = iI (F 3 h 0) ∧ M.1 (g + 6) h.toNat = iI (F 3 h 1) ∧ M.1 (g + 7) h.toNat = iI (F 3 h 2)) ∧ (∀ h l, 0 ≤ h → h < F 0 1 0 → 0 ≤ l → l < F 3 h 2 → M.1 (g + 8) (h * 12 + l).toNat = iI (F 4 h l) ∧ M.1 (g + 9) (h * 12 + l).toNat = iI (F 5 h l)) ∧ (∀ t k, 0 ≤ t → t < F 0 2 0 → 0 ≤ k → k < 3 → M.1 (g + 10) (t * 3 + k).toNat = iI (F 6 t k)) ∧ (∀ f k, 0 ≤ f → f < F 0 3 0 → 0 ≤ k → k < 4 → M.1 (g + 12) (f * 4 + k).toNat = iI (F 7 f k)) ∧ ∀ f, 0 ≤ f → f < F 0 3 0 → M.1 (g + 13) f.toNat = iI (F 7 f 4)
section GRs
variable {g : Nat} {F : Fld} {M : Mem}
theorem GR.n0 (G : GR g F M) : M.1 g 0 = iI (F 0 0 0) := G.1.1
theorem GR.n1 (G : GR g F M) : M.1 g 4 = iI (F 0 1 0) := G.1.2.1
theorem GR.n2 (G : GR g F M) : M.1 g 11 = iI (F 0 2 0) := G.1.2.2.1
theorem GR.n3 (G : GR g F M) : M.1 g 13 = iI (F 0 3 0) := G.1.2.2.2
theorem GR.sk (G : GR g F M) {r : Int} (h : 0 ≤ r ∧ r < F 0 0 0) : M.1 (g + 2) r.toNat = iI (F 1 r 0) := G.2.1 r h.1 h.2
theorem GR.cp (G : GR g F M) {a b : Int} (h : (0 ≤ a ∧ a < F 0 0 0) ∧ 0 ≤ b ∧ b < F 0 0 0) : M.1 (g + 3) (a * 8 + b).toNat = iI (F 2 a b) := G.2.2.1 a b h.1.1 h.1.2 h.2.1 h.2.2
theorem GR.x (G : GR g F M) {h : Int} (hh : 0 ≤ h ∧ h < F 0 1 0) : M.1 (g + 5) h.toNat = iI (F 3 h 0) := (G.2.2.2.1 h hh.1 hh.2).1
theorem GR.y (G : GR g F M) {h : Int} (hh : 0 ≤ h ∧ h < F 0 1 0) : M.1 (g + 6) h.toNat = iI (F 3 h 1) := (G.2.2.2.1 h hh.1 hh.2).2.1
theorem GR.nl (G : GR g F M) {h : Int} (hh : 0 ≤ h ∧ h < F 0 1 0) : M.1 (g + 7) h.toNat = iI (F 3 h 2) := (G.2.2.2.1 h hh.1 hh.2).2.2
theorem GR.rk (G : GR g F M) {h l : Int} (hh : (0 ≤ h ∧ h < F 0 1 0) ∧ 0 ≤ l ∧ l < F 3 h 2) : M.1 (g + 8) (h * 12 + l).toNat = iI (F 4 h l) := (G.2.2.2.2.1 h l hh.1.1 hh.1.2 hh.2.1 hh.2.2).1
theorem GR.th (G : GR g F M) {h l : Int} (hh : (0 ≤ h ∧ h < F 0 1 0) ∧ 0 ≤ l ∧ l < F 3 h 2) : M.1 (g + 9) (h * 12 + l).toNat = iI (F 5 h l) := (G.2.2.2.2.1 h l hh.1.1 hh.1.2 hh.2.1 hh.2.2).2
theorem GR.co (G : GR g F M) {t k : Int} (h : (0 ≤ t ∧ t < F 0 2 0) ∧ 0 ≤ k ∧ k < 3) : M.1 (g + 10) (t * 3 + k).toNat = iI (F 6 t k) := G.2.2.2.2.2.1 t k h.1.1 h.1.2 h.2.1 h.2.2
theorem GR.fl (G : GR g F M) {f k : Int} (h : (0 ≤ f ∧ f < F 0 3 0) ∧ 0 ≤ k ∧ k < 4) : M.1 (g + 12) (f * 4 + k).toNat = iI (F 7 f k) := G.2.2.2.2.2.2.1 f k h.1.1 h.1.2 h.2.1 h.2.2
theorem GR.ft (G : GR g F M) {f : Int} (h : 0 ≤ f ∧ f < F 0 3 0) : M.1 (g + 13) f.toNat = iI (F 7 f 4) := G.2.2.2.2.2.2.2 f h.1 h.2
theorem GR.cell {M' : Mem} (hc : ∀ x, g ≤ x → x ≤ g + 13 → M'.1 x = M.1 x) (G : GR g F M) : GR g F M' := by
  unfold GR at G ⊢
  rw [hc g (by omega) (by omega), hc (g + 2) (by omega) (by omega), hc (g + 3) (by omega) (by omega), hc (g + 5) (by omega) (by omega), hc (g + 6) (by omega) (by omega), hc (g + 7) (by omega) (by omega), hc (g + 8) (by omega) (by omega), hc (g + 9) (by omega) (by omega), hc (g + 10) (by omega) (by omega), hc (g + 12) (by omega) (by omega), hc (g + 13) (by omega) (by omega)]
  exact G
theorem GR.fr {S : Nat → Prop} {M' : Mem} (hF : Fr S M M') (hS : ∀ x, g ≤ x → x ≤ g + 13 → ¬ S x) (G : GR g F M) : GR g F M' := G.cell fun x a b => (hF x (hS x a b)).1
end GRs
/-- the row at r of the reference m shows F -/
def MR (m : Nat) (r : Int) (F : Fld) (M : Mem) : Prop := (∀ w, 0 ≤ w → w < 4 → M.1 (m + 1) (r + w).toNat = iI (F 0 w 0)) ∧ (∀ k, 0 ≤ k → k < 8 → M.1 (m + 1) (r + (10 + k)).toNat = iI (F 1 k 0)) ∧ (∀ a b, 0 ≤ a → a < 8 → 0 ≤ b → b < 8 → M.1 (m + 1) (r + (18 + 8 * a + b)).toNat = iI (F 2 a b)) ∧ (∀ h w, 0 ≤ h → h < 6 → 0 ≤ w → w < 3 → M.1 (m + 1) (r + (82 + 27 * h + w)).toNat = iI (F 3 h w)) ∧ (∀ h l, 0 ≤ h → h < 6 → 0 ≤ l → l < 12 → M.1 (m + 1) (r + (82 + 27 * h + 3 + 2 * l)).toNat = iI (F 4 h l) ∧ M.1 (m + 1) (r + (82 + 27 * h + 3 + 2 * l + 1)).toNat = iI (F 5 h l)) ∧ (∀ t k, 0 ≤ t → t < 8 → 0 ≤ k → k < 3 → M.1 (m + 1) (r + (244 + 3 * t + k)).toNat = iI (F 6 t k)) ∧ ∀ f k, 0 ≤ f → f < 2 → 0 ≤ k → k < 5 → M.1 (m + 1) (r + (268 + 5 * f + k)).toNat = iI (F 7 f k)
theorem MR.cell {m : Nat} {r : Int} {F : Fld} {M M' : Mem} (hr : 0 ≤ r) (hc : ∀ k : Int, r ≤ k → k < r + 280 → M'.1 (m + 1) k.toNat = M.1 (m + 1) k.toNat) (G : MR m r F M) : MR m r F M' := by
  obtain ⟨h0, h1, h2, h3, h4, h5, h6⟩ := G
  refine ⟨fun w a b => ?_, fun k a b => ?_, fun x y a b c d => ?_, fun h w a b c d => ?_, fun h l a b c d => ⟨?_, ?_⟩, fun t k a b c d => ?_, fun f k a b c d => ?_⟩
  · rw [hc _ (by omega) (by omega)]; exact h0 w a b
  · rw [hc _ (by omega) (by omega)]; exact h1 k a b
  · rw [hc _ (by omega) (by omega)]; exact h2 x y a b c d
  · rw [hc _ (by omega) (by omega)]; exact h3 h w a b c d
  · rw [hc _ (by omega) (by omega)]; exact (h4 h l a b c d).1
  · rw [hc _ (by omega) (by omega)]; exact (h4 h l a b c d).2
  · rw [hc _ (by omega) (by omega)]; exact h5 t k a b c d
  · rw [hc _ (by omega) (by omega)]; exact h6 f k a b c d
theorem MR.fr {m : Nat} {r : Int} {F : Fld} {S : Nat → Prop} {M M' : Mem} (hF : Fr S M M') (hS : ¬ S (m + 1)) (G : MR m r F M) : MR m r F M' := by
  unfold MR at G ⊢
  rw [(hF (m + 1) hS).1]
  exact G
/-- the row at 0, read through one place -/
def MR0 (m : Nat) (F : Fld) (M : Mem) : Prop := MR m 0 F M
section MRs
variable {m : Nat} {F : Fld} {M : Mem}
theorem MR.at0 (G : MR m 0 F M) {w e : Int} (h : 0 ≤ w ∧ w < 4 ∧ e = w) : M.1 (m + 1) e.toNat = iI (F 0 w 0) := by
  have := G.1 w h.1 h.2.1
  rw [show (0 : Int) + w = e from by omega] at this
  exact this
theorem MR.c0 (G : MR m 0 F M) : M.1 (m + 1) (Int.toNat 0) = iI (F 0 0 0) := G.at0 (by omega)
theorem MR.c1 (G : MR m 0 F M) : M.1 (m + 1) (Int.toNat 1) = iI (F 0 1 0) := G.at0 (by omega)
theorem MR.c2 (G : MR m 0 F M) : M.1 (m + 1) (Int.toNat 2) = iI (F 0 2 0) := G.at0 (by omega)
theorem MR.c3 (G : MR m 0 F M) : M.1 (m + 1) (Int.toNat 3) = iI (F 0 3 0) := G.at0 (by omega)
theorem MR.sk (G : MR m 0 F M) {k : Int} (h : 0 ≤ k ∧ k < 8) : M.1 (m + 1) (10 + k).toNat = iI (F 1 k 0) := by
  have := G.2.1 k h.1 h.2
  rw [Int.zero_add] at this
  exact this
theorem MR.cp (G : MR m 0 F M) {a b : Int} (h : (0 ≤ a ∧ a < 8) ∧ 0 ≤ b ∧ b < 8) : M.1 (m + 1) (18 + 8 * a + b).toNat = iI (F 2 a b) := by
  have := G.2.2.1 a b h.1.1 h.1.2 h.2.1 h.2.2
  rw [Int.zero_add] at this
  exact this
theorem MR.hw (G : MR m 0 F M) {k w : Int} (h : (0 ≤ k ∧ k < 6) ∧ 0 ≤ w ∧ w < 3) : M.1 (m + 1) (82 + 27 * k + w).toNat = iI (F 3 k w) := by
  have := G.2.2.2.1 k w h.1.1 h.1.2 h.2.1 h.2.2
  rw [Int.zero_add] at this
  exact this
theorem MR.x (G : MR m 0 F M) {k : Int} (h : 0 ≤ k ∧ k < 6) : M.1 (m + 1) (82 + 27 * k).toNat = iI (F 3 k 0) := by
  have := G.hw (k := k) (w := 0) ⟨h, by omega⟩
  rw [Int.add_zero] at this
  exact this
theorem MR.rk (G : MR m 0 F M) {k l : Int} (h : (0 ≤ k ∧ k < 6) ∧ 0 ≤ l ∧ l < 12) : M.1 (m + 1) (82 + 27 * k + 3 + 2 * l).toNat = iI (F 4 k l) := by
  have := (G.2.2.2.2.1 k l h.1.1 h.1.2 h.2.1 h.2.2).1
  rw [Int.zero_add] at this
  exact this
theorem MR.th (G : MR m 0 F M) {k l : Int} (h : (0 ≤ k ∧ k < 6) ∧ 0 ≤ l ∧ l < 12) : M.1 (m + 1) (82 + 27 * k + 3 + 2 * l + 1).toNat = iI (F 5 k l) := by
  have := (G.2.2.2.2.1 k l h.1.1 h.1.2 h.2.1 h.2.2).2
  rw [Int.zero_add] at this
  exact this
theorem MR.co (G : MR m 0 F M) {t k : Int} (h : (0 ≤ t ∧ t < 8) ∧ 0 ≤ k ∧ k < 3) : M.1 (m + 1) (244 + 3 * t + k).toNat = iI (F 6 t k) := by
  have := G.2.2.2.2.2.1 t k h.1.1 h.1.2 h.2.1 h.2.2
  rw [Int.zero_add] at this
  exact this
theorem MR.fl (G : MR m 0 F M) {f k : Int} (h : (0 ≤ f ∧ f < 2) ∧ 0 ≤ k ∧ k < 5) : M.1 (m + 1) (268 + 5 * f + k).toNat = iI (F 7 f k) := by
  have := G.2.2.2.2.2.2 f k h.1.1 h.1.2 h.2.1 h.2.2
  rw [Int.zero_add] at this
  exact this
theorem MR.f0 (G : MR m 0 F M) {f : Int} (h : 0 ≤ f ∧ f < 2) : M.1 (m + 1) (268 + 5 * f).toNat = iI (F 7 f 0) := by
  have := G.fl (f := f) (k := 0) ⟨h, by omega⟩
  rw [Int.add_zero] at this
  exact this
end MRs
