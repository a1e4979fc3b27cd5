/-! one turn, whatever the step -/
section TT
variable {F F1 : Fld} {M : Mem} {Y : Yr} {N : Int}
def TCl (φ : Nat) (F : Fld) (Y : Yr) (N x n ch rf la wo : Int) (R : Int → Int) (F1 : Fld) (x1 ch1 rf1 la1 wo1 : Int) (R1 : Int → Int) (j : Nat) : Prop := ∀ (t g y : Nat) (M : Mem) (u : Int), dj t g y → SC t y g F Y N ch rf la wo n R x M → 0 ≤ u → u + 100 ≤ 900000 → ∀ k, ∃ M1, lX3_run_41 φ t y g (k + j) (iI x) (iI u) M = lX3_run_41 φ t y g k (iI x1) (iI (u + (j : Int))) M1 ∧ SC t y g F1 Y N ch1 rf1 la1 wo1 (n + 1) R1 x1 M1 ∧ (∀ i, i < 2 → M1.1 t i = M.1 t i) ∧ Fr (cL t g) M M1
def TMl (φ : Nat) (F : Fld) (Y : Yr) (N x n ch rf la wo : Int) (R : Int → Int) (F1 : Fld) (x1 ch1 rf1 la1 wo1 : Int) (R1 : Int → Int) : Prop := ∀ (m : Nat) (M : Mem) (K : Mem → Option (Unit × Mem)), SM m F Y N ch rf la wo n R x M → ∀ k, ∃ M1, lX11_lives_32 K φ m (k + 1) (iI x) M = lX11_lives_32 K φ m k (iI x1) M1 ∧ SM m F1 Y N ch1 rf1 la1 wo1 (n + 1) R1 x1 M1 ∧ mB m M M1
def RG (Y : Yr) (N : Int) (R : Int → Int) (x : Int) : Prop := (0 ≤ x ∧ x ≤ 100 ∧ (x < N → Y x 0 ≠ 19)) ∧ RB Y R x ∧ ∀ o, y_in Y x o → Y o 4 ≠ o + 1
theorem turn_do (yn : YN N Y) (hN : 0 ≤ N ∧ N ≤ 60) (hk : ∀ x, 0 ≤ x → x < N → 0 ≤ Y x 0 ∧ Y x 0 ≤ 9999) {x n ch rf la wo ch1 rf1 la1 wo1 : Int} {R : Int → Int} (hx : 0 ≤ x ∧ x < N) (k0 : 13 ≤ Y x 0 ∧ Y x 0 ≤ 16) (hn : 0 ≤ n ∧ n < 300) (rg : RG Y N R x) {φ : Nat} (hφ : 30000 < φ) (hC : ∀ t g y, (t < g ∨ g + 13 < t) → DC φ t g y F F1 Y N x ch rf la wo ch1 rf1 la1 wo1) (hM : ∀ m, DM φ m F F1 Y N x ch rf la wo ch1 rf1 la1 wo1) : ∃ x1 R1 j, RG Y N R1 x1 ∧ j ≤ 63 ∧ TCl φ F Y N x n ch rf la wo R F1 x1 ch1 rf1 la1 wo1 R1 j ∧ TMl φ F Y N x n ch rf la wo R F1 x1 ch1 rf1 la1 wo1 R1 := by
  obtain ⟨q1, q2, q3⟩ := rg
  obtain ⟨x1, R1, j, p1, p2, p3, p4, p5, p6⟩ := ends_l yn hN hk 60 (x + 1) R (by omega) (by omega) (by omega) (fun o ho => q2 o (y_in_s ho (by omega))) (fun o ho => q3 o (y_in_s ho (by omega)))
  refine ⟨x1, R1, j + 1, ⟨p1, p3, p4⟩, by omega, fun t g y M u d S u0 u1 k => ?_, fun m M K S k => ?_⟩
  · have S0 := S
    obtain ⟨G, hY, L, l, h6, h2⟩ := S
    have d0 := d
    obtain ⟨d1, d2, d3⟩ := d
    have fr0 : Fr (fun z => z = t) M (stI M t 2 (iI (n + 1))) := Fr.stI rfl (Fr.refl M)
    obtain ⟨M8, s1, s2, s3, s4, s5⟩ := hC t g y (by omega) (stI M t 2 (iI (n + 1))) (G.fr fr0 (fun z a b q => by omega)) (hY.fr fr0 (fun z a b q => by omega)) ⟨by rw [rI_nk (by omega)]; exact L.1, by rw [rI_nk (by omega)]; exact L.2.1, by rw [rI_nk (by omega)]; exact L.2.2.1, by rw [rI_nk (by omega)]; exact L.2.2.2⟩
    refine TC_of (z := x + 1) (R' := R) hN.2 hx (by omega) hn p2 p5 d0 S0 u0 u1 s1 s2 s3 (fun o ho => ?_) ?_ ?_ (fun i hi => ?_) ((fr0.mono (fun z q => Or.inl q)).trans (s5.mono (fun z q => by rcases q with q | q; exact Or.inl q; exact Or.inr (Or.inr q)))) k
    · rw [(s5 (t + 1) (fun q => by rcases q with q | q <;> omega)).1, rI_ng (by omega)]; exact l o (y_in_s ho (by omega))
    · rw [s4 2 (by omega) (by omega) (by omega) (by omega)]; exact rI_at rfl rfl
    · rw [s4 6 (by omega) (by omega) (by omega) (by omega), rI_nk (by omega)]; exact h6
    · rw [s4 i (by omega) (by omega) (by omega) (by omega), rI_nk (by omega)]
  · obtain ⟨G, hY, L, l, h2⟩ := S
    have fr0 : Fr (fun z => z = m) M (stI M m 40 (iI (n + 1))) := Fr.stI rfl (Fr.refl M)
    have Y0 := hY.st40 (iI (n + 1))
    obtain ⟨M8, s1, s2, s3, s4, s5, s9, s6, s7⟩ := hM m (stI M m 40 (iI (n + 1))) (G.fr fr0 (fun q => by omega)) Y0 (L.eq (rI_nk (by omega)) (by funext b; exact rI_ng (by omega)))
    have b8 : mB m (stI M m 40 (iI (n + 1))) M8 := ⟨⟨s9, fun i h _ => s4 i h⟩, s5 3 (by omega), s7, s6.mono (fun z q => by rcases q with q | q | q; exact Or.inl q; exact Or.inr (Or.inl q); exact Or.inr (Or.inr (Or.inr q)))⟩
    have Y8 : YM m N Y M8 := Y0.ce s7
    obtain ⟨M9, v1, v2, v3⟩ := TM_of (M := M) (n := n) p6 (φ := φ) (by omega) Y8 s2 s3 (fun o ho => by rw [(s6 (m + 21) (fun q => by rcases q with q | q | q <;> omega)).1, rI_ng (by omega)]; exact l o (y_in_s ho (by omega))) (by rw [s4 40 (by omega)]; exact rI_at rfl rfl) ((mB.st40 m M _).trans b8)
    exact ⟨M9, my_turn_do hY hN.2 hx k0 h2 hn s1 (Y8.at0 hx) v1 K k, v2, v3⟩
theorem turn_when (w : WF F) (yn : YN N Y) (hN : 0 ≤ N ∧ N ≤ 60) (hk : ∀ x, 0 ≤ x → x < N → 0 ≤ Y x 0 ∧ Y x 0 ≤ 9999) {x n ch rf la wo : Int} {R : Int → Int} (hx : 0 ≤ x ∧ x < N) (k0 : 1700 ≤ Y x 0) (hw : WS F Y x) (hn : 0 ≤ n ∧ n < 300) (rg : RG Y N R x) {φ : Nat} (hφ : 30000 < φ) : ∃ x1 R1 j, RG Y N R1 x1 ∧ j ≤ 63 ∧ TCl φ F Y N x n ch rf la wo R F x1 ch rf la wo R1 j ∧ TMl φ F Y N x n ch rf la wo R F x1 ch rf la wo R1 := by
  obtain ⟨q1, q2, q3⟩ := rg
  obtain ⟨m1, m2, m3, m4⟩ := yn.1 x hx.1 hx.2 (Or.inr k0)
  have kx := hk x hx.1 hx.2
  obtain ⟨z, hz⟩ : ∃ z, z = if s_holds F Y x = true then x + 1 else Y x 4 + 1 := ⟨_, rfl⟩
  have zb : x + 1 ≤ z ∧ z ≤ N := by rw [hz]; split <;> omega
  have sub : ∀ o, y_in Y z o → y_in Y x o := fun o ho => by
    by_cases hh : s_holds F Y x = true
    · rw [if_pos hh] at hz
      rw [hz] at ho
      exact y_in_s ho (by omega)
    · rw [if_neg hh] at hz
      rw [hz] at ho
      obtain ⟨a, b, c, d⟩ := ho
      have n1 : o ≠ x := fun q => by rw [q] at c; omega
      have n2 : o ≠ Y x 4 := fun q => by rw [q] at c; omega
      have n3 : ¬ x < o := fun q => by
        have := yn.2.2 x o hx.1 q (by omega) (Or.inr k0) (Or.inl c) (by omega)
        omega
      exact ⟨a, by omega, c, by omega⟩
  obtain ⟨x1, R1, j, p1, p2, p3, p4, p5, p6⟩ := ends_l yn hN hk 60 z R (by omega) (by omega) (by omega) (fun o ho => q2 o (sub o ho)) (fun o ho => q3 o (sub o ho))
  refine ⟨x1, R1, j + 1, ⟨p1, p3, p4⟩, by omega, fun t g y M u d S u0 u1 k => ?_, fun m M K S k => ?_⟩
  · have S0 := S
    obtain ⟨G, hY, L, l, h6, h2⟩ := S
    have d0 := d
    obtain ⟨d1, d2, d3⟩ := d
    have fr0 : Fr (fun z => z = t) M (stI M t 2 (iI (n + 1))) := Fr.stI rfl (Fr.refl M)
    have G0 : GR g F (stI M t 2 (iI (n + 1))) := G.fr fr0 (fun z a b q => by omega)
    have s1 := c_when (t := t) w G0 (hY.fr fr0 (fun z a b q => by omega)) hN.2 hx k0 (by omega) hw (φ := φ) (by omega)
    rw [← hz] at s1
    refine TC_of (z := z) (R' := R) hN.2 hx (by omega) hn p2 p5 d0 S0 u0 u1 s1 G0 ⟨by rw [rI_nk (by omega)]; exact L.1, by rw [rI_nk (by omega)]; exact L.2.1, by rw [rI_nk (by omega)]; exact L.2.2.1, by rw [rI_nk (by omega)]; exact L.2.2.2⟩ (fun o ho => ?_) (rI_at rfl rfl) ?_ (fun i hi => ?_) (fr0.mono (fun z q => Or.inl q)) k
    · rw [rI_ng (by omega)]; exact l o (sub o ho)
    · rw [rI_nk (by omega)]; exact h6
    · exact rI_nk (by omega)
  · obtain ⟨G, hY, L, l, h2⟩ := S
    have fr0 : Fr (fun z => z = m) M (stI M m 40 (iI (n + 1))) := Fr.stI rfl (Fr.refl M)
    have Y0 := hY.st40 (iI (n + 1))
    have G0 : MR m 0 F (stI M m 40 (iI (n + 1))) := G.fr fr0 (fun q => by omega)
    have s1 := m_holds w G0 Y0 hN.2 hx k0 hw (φ := φ) (by omega)
    obtain ⟨M9, v1, v2, v3⟩ := TM_of (M := M) (n := n) p6 (φ := φ) (by omega) Y0 G0 (L.eq (rI_nk (by omega)) (by funext b; exact rI_ng (by omega))) (fun o ho => by rw [rI_ng (by omega)]; exact l o (sub o ho)) (rI_at rfl rfl) (mB.st40 m M _)
    rw [hz] at v1
    exact ⟨M9, my_turn_when w hY hN.2 hx ⟨k0, kx.2⟩ h2 hn s1 v1 K k, v2, v3⟩
theorem turn_loop (yn : YN N Y) (hN : 0 ≤ N ∧ N ≤ 60) (hk : ∀ x, 0 ≤ x → x < N → 0 ≤ Y x 0 ∧ Y x 0 ≤ 9999) {x n ch rf la wo : Int} {R : Int → Int} (hx : 0 ≤ x ∧ x < N) (k0 : Y x 0 = 18) (k1 : 1 ≤ Y x 1 ∧ Y x 1 ≤ 9999) (hn : 0 ≤ n ∧ n < 300) (rg : RG Y N R x) {φ : Nat} (hφ : 30000 < φ) : ∃ x1 R1 j, RG Y N R1 x1 ∧ j ≤ 63 ∧ TCl φ F Y N x n ch rf la wo R F x1 ch rf la wo R1 j ∧ TMl φ F Y N x n ch rf la wo R F x1 ch rf la wo R1 := by
  obtain ⟨q1, q2, q3⟩ := rg
  obtain ⟨m1, m2, m3, m4⟩ := yn.1 x hx.1 hx.2 (Or.inl k0)
  have classTurn : ∀ (z : Int) (R' : Int → Int), z = (if Y x 4 = x + 1 then x + 2 else x + 1) → (∀ o, y_in Y z o → (o = x ∧ R' x = Y x 1 - 1) ∨ (o ≠ x ∧ y_in Y x o ∧ R' o = R o)) → ∀ x1 R1 j, j ≤ 61 → EndC Y N z R' x1 R1 j → TCl φ F Y N x n ch rf la wo R F x1 ch rf la wo R1 (j + 1) := by
    intro z R' hz sub x1 R1 j p2 p5 t g y M u d S u0 u1 k
    have S0 := S
    obtain ⟨G, hY, L, l, h6, h2⟩ := S
    have d0 := d
    obtain ⟨d1, d2, d3⟩ := d
    have fr0 : Fr (fun z => z = t) M (stI M t 2 (iI (n + 1))) := Fr.stI rfl (Fr.refl M)
    have fr1 : Fr (cL t g) M (stI (stI M t 2 (iI (n + 1))) (t + 1) x.toNat (iI (Y x 1))) := Fr.stI (Or.inr (Or.inl rfl)) (fr0.mono (fun z q => Or.inl q))
    have s1 := c_loop (g := g) (t := t) (φ := φ) (hY.fr fr0 (fun z a b q => by omega)) hN.2 (by omega) hx k0 (by omega)
    rw [← hz] at s1
    have G0 : GR g F (stI M t 2 (iI (n + 1))) := G.fr fr0 (fun z a b q => by omega)
    have e1 : (stI (stI M t 2 (iI (n + 1))) (t + 1) x.toNat (iI (Y x 1))).1 t = (stI M t 2 (iI (n + 1))).1 t := by funext b; exact rI_ng (by omega)
    refine TC_of (z := z) (R' := R') hN.2 hx (by omega) hn p2 p5 d0 S0 u0 u1 s1 (G0.fr (S := fun z => z = t + 1) (Fr.stI rfl (Fr.refl _)) (fun z a b q => by omega)) (LC.eq e1 ⟨by rw [rI_nk (by omega)]; exact L.1, by rw [rI_nk (by omega)]; exact L.2.1, by rw [rI_nk (by omega)]; exact L.2.2.1, by rw [rI_nk (by omega)]; exact L.2.2.2⟩) (fun o ho => ?_) (by rw [e1]; exact rI_at rfl rfl) ?_ (fun i hi => ?_) fr1 k
    · rcases sub o ho with ⟨a, b⟩ | ⟨a, b, c⟩
      · rw [a, b, show Y x 1 - 1 + 1 = Y x 1 from by omega]; exact rI_at rfl rfl
      · have := b.1
        rw [c, rI_nk (by omega), rI_ng (by omega)]; exact l o b
    · rw [e1, rI_nk (by omega)]; exact h6
    · rw [e1]; exact rI_nk (by omega)
  have refTurn : ∀ (m : Nat) (M : Mem), SM m F Y N ch rf la wo n R x M → MR m 0 F (stI (stI M m 40 (iI (n + 1))) (m + 21) x.toNat (iI (Y x 1 - 1))) ∧ YM m N Y (stI (stI M m 40 (iI (n + 1))) (m + 21) x.toNat (iI (Y x 1 - 1))) ∧ LR m ch rf la wo (stI (stI M m 40 (iI (n + 1))) (m + 21) x.toNat (iI (Y x 1 - 1))) ∧ (stI (stI M m 40 (iI (n + 1))) (m + 21) x.toNat (iI (Y x 1 - 1))).1 m 40 = iI (n + 1) ∧ mB m M (stI (stI M m 40 (iI (n + 1))) (m + 21) x.toNat (iI (Y x 1 - 1))) := by
    intro m M S
    obtain ⟨G, hY, L, l, h2⟩ := S
    have fr0 : Fr (fun z => z = m) M (stI M m 40 (iI (n + 1))) := Fr.stI rfl (Fr.refl M)
    have fr1 : Fr (Rg (m + 21) (m + 21)) (stI M m 40 (iI (n + 1))) (stI (stI M m 40 (iI (n + 1))) (m + 21) x.toNat (iI (Y x 1 - 1))) := Fr.stI ⟨by omega, by omega⟩ (Fr.refl _)
    refine ⟨(G.fr fr0 (fun q => by omega)).fr fr1 (fun q => by have := q.1; omega), (hY.st40 _).fr fr1 (fun q => by have := q.1; omega), L.eq ?_ ?_, ?_, (mB.st40 m M _).trans (mB.r21 fr1)⟩
    · rw [rI_ng (by omega), rI_nk (by omega)]
    · funext b; rw [rI_ng (by omega), rI_ng (by omega)]
    · rw [rI_ng (by omega)]; exact rI_at rfl rfl
  by_cases h4 : Y x 4 = x + 1
  · have sub : ∀ o, y_in Y (x + 2) o → y_in Y x o := fun o ho => by
      obtain ⟨a, b, c, d⟩ := ho
      have n1 : o ≠ x := fun q => by rw [q] at d; omega
      have n2 : o ≠ x + 1 := fun q => by rw [q, ← h4] at c; omega
      exact ⟨a, by omega, c, by omega⟩
    obtain ⟨x1, R1, j, p1, p2, p3, p4, p5, p6⟩ := ends_l yn hN hk 60 (x + 2) R (by omega) (by omega) (by omega) (fun o ho => q2 o (sub o ho)) (fun o ho => q3 o (sub o ho))
    refine ⟨x1, R1, j + 1, ⟨p1, p3, p4⟩, by omega, classTurn (x + 2) R (by rw [if_pos h4]) (fun o ho => Or.inr ⟨fun q => by have := ho.2.2.2; rw [q] at this; omega, sub o ho, rfl⟩) x1 R1 j p2 p5, fun m M K S k => ?_⟩
    obtain ⟨a1, a2, a3, a4, a5⟩ := refTurn m M S
    obtain ⟨G, hY, L, l, h2⟩ := S
    obtain ⟨r, hr⟩ : ∃ r : Nat, Y x 1 - 1 = (r : Int) := ⟨(Y x 1 - 1).toNat, by omega⟩
    obtain ⟨M3, e1, e2, e3⟩ := empty_l yn hN hx k0 h4 r (stI (stI M m 40 (iI (n + 1))) (m + 21) x.toNat (iI (Y x 1 - 1))) (φ - (r + 1)) a2 (by rw [rI_at rfl rfl, hr]) (by omega)
    rw [show φ - (r + 1) + 1 + r = φ from by omega] at e1
    have b3 := mB.r21 e2
    obtain ⟨M9, r1, r2, r3⟩ := p6 m M3 (a2.ce b3.2.2.1) (fun o ho => by
      have so := sub o ho
      have := so.1
      have := so.2.1
      rw [e3 o.toNat (by omega), rI_nk (by omega), rI_ng (by omega)]; exact l o so) (φ - (r + 1)) (by omega)
    have t3 : M3.1 m = (stI (stI M m 40 (iI (n + 1))) (m + 21) x.toNat (iI (Y x 1 - 1))).1 m := (e2 m (fun q => by have := q.1; omega)).1
    have t4 : M3.1 (m + 22) = (stI (stI M m 40 (iI (n + 1))) (m + 21) x.toNat (iI (Y x 1 - 1))).1 (m + 22) := (e2 (m + 22) (fun q => by have := q.2; omega)).1
    have t5 : M9.1 m = M3.1 m := (r3 m (fun q => by have := q.1; omega)).1
    have t6 : M9.1 (m + 22) = M3.1 (m + 22) := (r3 (m + 22) (fun q => by have := q.2; omega)).1
    refine ⟨M9, my_turn_loop hY hN.2 hx k0 k1 h2 hn (e1.trans r1) K k, ⟨(a1.fr e2 (fun q => by have := q.1; omega)).fr r3 (fun q => by have := q.1; omega), (a2.fr e2 (fun q => by have := q.1; omega)).fr r3 (fun q => by have := q.1; omega), a3.eq (by rw [t5, t3]) (by rw [t6, t4]), r2, by rw [t5, t3]; exact a4⟩, (a5.trans b3).trans (mB.r21 r3)⟩
  · have sub : ∀ o, y_in Y (x + 1) o → o = x ∨ (o ≠ x ∧ y_in Y x o) := fun o ho => by
      obtain ⟨a, b, c, d⟩ := ho
      by_cases q : o = x
      · exact Or.inl q
      · exact Or.inr ⟨q, a, by omega, c, by omega⟩
    obtain ⟨x1, R1, j, p1, p2, p3, p4, p5, p6⟩ := ends_l yn hN hk 60 (x + 1) (fun o => if o = x then Y x 1 - 1 else R o) (by omega) (by omega) (by omega) (fun o ho => by
      show 0 ≤ (if o = x then Y x 1 - 1 else R o) ∧ (if o = x then Y x 1 - 1 else R o) ≤ 9999
      rcases sub o ho with q | ⟨q, q'⟩
      · rw [if_pos q]; omega
      · rw [if_neg q]; exact q2 o q') (fun o ho => by
      rcases sub o ho with q | ⟨q, q'⟩
      · rw [q]; exact h4
      · exact q3 o q')
    refine ⟨x1, R1, j + 1, ⟨p1, p3, p4⟩, by omega, classTurn (x + 1) (fun o => if o = x then Y x 1 - 1 else R o) (by rw [if_neg h4]) (fun o ho => by
      rcases sub o ho with q | ⟨q, q'⟩
      · exact Or.inl ⟨q, if_pos rfl⟩
      · exact Or.inr ⟨q, q', if_neg q⟩) x1 R1 j p2 p5, fun m M K S k => ?_⟩
    obtain ⟨a1, a2, a3, a4, a5⟩ := refTurn m M S
    obtain ⟨G, hY, L, l, h2⟩ := S
    obtain ⟨M9, v1, v2, v3⟩ := TM_of (M := M) (n := n) p6 (φ := φ) (by omega) a2 a1 a3 (fun o ho => by
      show _ = iI (if o = x then Y x 1 - 1 else R o)
      rcases sub o ho with q | ⟨q, q'⟩
      · rw [if_pos q, q]; exact rI_at rfl rfl
      · have := q'.1
        rw [if_neg q, rI_nk (by omega), rI_ng (by omega)]; exact l o q') a4 a5
    exact ⟨M9, my_turn_loop hY hN.2 hx k0 k1 h2 hn v1 K k, v2, v3⟩
theorem turn_l (w : WF F) (yn : YN N Y) (hN : 0 ≤ N ∧ N ≤ 60) (hW : ∀ x, 0 ≤ x → x < N → WS F Y x) {x n ch rf la wo : Int} {R : Int → Int} (hx : 0 ≤ x ∧ x < N) (h20 : Y x 0 ≠ 20) (hn : 0 ≤ n ∧ n < 300) (hc : 0 ≤ ch ∧ ch < 65536) (rg : RG Y N R x) {φ : Nat} (hφ : 30000 < φ) : ∃ F1 x1 ch1 rf1 la1 wo1 R1 j, WF F1 ∧ (∀ a, F1 0 a 0 = F 0 a 0) ∧ (0 ≤ ch1 ∧ ch1 < 65536) ∧ RG Y N R1 x1 ∧ j ≤ 63 ∧ TCl φ F Y N x n ch rf la wo R F1 x1 ch1 rf1 la1 wo1 R1 j ∧ TMl φ F Y N x n ch rf la wo R F1 x1 ch1 rf1 la1 wo1 R1 := by
  have hk : ∀ x, 0 ≤ x → x < N → 0 ≤ Y x 0 ∧ Y x 0 ≤ 9999 := fun x a b => by have := (hW x a b).k; omega
  have hw := hW x hx.1 hx.2
  have h19 := rg.1.2.2 hx.2
  have kk := hw.k
  by_cases h13 : Y x 0 = 13
  · obtain ⟨F1, rf1, la1, a1, a2, a3, a4⟩ := d_lay w (ch := ch) (rf := rf) (la := la) (wo := wo) hx hN.2 h13 hw (φ := φ) (by omega)
    obtain ⟨x1, R1, j, b⟩ := turn_do (n := n) yn hN hk hx (by omega) hn rg hφ a3 a4
    exact ⟨F1, x1, ch, rf1, la1, wo, R1, j, a1, a2, hc, b⟩
  by_cases h14 : Y x 0 = 14
  · obtain ⟨F1, wo1, a1, a2, a3, a4⟩ := d_wear w (ch := ch) (rf := rf) (la := la) (wo := wo) hx hN.2 h14 hw (φ := φ) (by omega)
    obtain ⟨x1, R1, j, b⟩ := turn_do (n := n) yn hN hk hx (by omega) hn rg hφ a3 a4
    exact ⟨F1, x1, ch, rf, la, wo1, R1, j, a1, a2, hc, b⟩
  by_cases h15 : Y x 0 = 15
  · obtain ⟨F1, ch1, wo1, a1, a2, a0, a3, a4⟩ := d_storm w (rf := rf) (la := la) (wo := wo) hc hx hN.2 h15 hw (φ := φ) (by omega)
    obtain ⟨x1, R1, j, b⟩ := turn_do (n := n) yn hN hk hx (by omega) hn rg hφ a3 a4
    exact ⟨F1, x1, ch1, rf, la, wo1, R1, j, a1, a2, a0, b⟩
  by_cases h16 : Y x 0 = 16
  · obtain ⟨F1, rf1, a1, a2, a3, a4⟩ := d_move w (ch := ch) (rf := rf) (la := la) (wo := wo) hx hN.2 h16 hw (φ := φ) (by omega)
    obtain ⟨x1, R1, j, b⟩ := turn_do (n := n) yn hN hk hx (by omega) hn rg hφ a3 a4
    exact ⟨F1, x1, ch, rf1, la, wo, R1, j, a1, a2, hc, b⟩
  by_cases h18 : Y x 0 = 18
  · have k1 : 1 ≤ Y x 1 ∧ Y x 1 ≤ 9999 := by unfold WS at hw; omega
    obtain ⟨x1, R1, j, b⟩ := turn_loop (F := F) (ch := ch) (rf := rf) (la := la) (wo := wo) yn hN hk hx h18 k1 hn rg hφ
    exact ⟨F, x1, ch, rf, la, wo, R1, j, w, fun _ => rfl, hc, b⟩
  · obtain ⟨x1, R1, j, b⟩ := turn_when (ch := ch) (rf := rf) (la := la) (wo := wo) w yn hN hk hx (by omega) hw hn rg hφ
    exact ⟨F, x1, ch, rf, la, wo, R1, j, w, fun _ => rfl, hc, b⟩
end TT
