/-! a draft of years: rows, and those not closed yet -/
def dy_row (Y : Yr) (x : Int) (r : Int → Int) : Yr := fun a c => if a = x then r c else Y a c
def dy_lnk (Y : Yr) (o e : Int) : Yr := fun a c => if a = o ∧ c = 4 then e else Y a c
def dy_top (S : Int → Int) (d v : Int) : Int → Int := fun k => if k = d then v else S k
def YDw (F : Fld) (Y : Yr) (N c d : Int) (S : Int → Int) : Prop := ((0 ≤ d ∧ d ≤ 3) ∧ (0 ≤ c ∧ c ≤ 30) ∧ c ≤ N ∧ N + d ≤ 2 * c) ∧ (∀ x, 0 ≤ x → x < N → WS F Y x) ∧ (∀ k, 0 ≤ k → k < d → (0 ≤ S k ∧ S k < N) ∧ y_op Y (S k) ∧ Y (S k) 4 = 0) ∧ (∀ j k, 0 ≤ j → j < k → k < d → S j < S k) ∧ (∀ o, 0 ≤ o → o < N → y_op Y o → (∃ k, (0 ≤ k ∧ k < d) ∧ S k = o) ∨ (o < Y o 4 ∧ Y o 4 < N ∧ Y (Y o 4) 0 = 19 ∧ Y (Y o 4) 4 = o)) ∧ (∀ e, 0 ≤ e → e < N → Y e 0 = 19 → 0 ≤ Y e 4 ∧ Y e 4 < e ∧ y_op Y (Y e 4) ∧ Y (Y e 4) 4 = e) ∧ ∀ o v, 0 ≤ o → o < v → v < N → y_op Y o → y_op Y v → (∀ k, 0 ≤ k → k < d → S k ≠ o) → v < Y o 4 → (∀ k, 0 ≤ k → k < d → S k ≠ v) ∧ Y v 4 < Y o 4
section DY
variable {F : Fld} {Y : Yr} {N c d : Int} {S r : Int → Int}
theorem yp_t (Y : Yr) (x : Int) (r : Int → Int) (k : Int) : dy_row Y x r x k = r k := if_pos rfl
theorem yp_o (Y : Yr) {x a : Int} (r : Int → Int) (k : Int) (h : a ≠ x) : dy_row Y x r a k = Y a k := if_neg h
theorem yl_t (Y : Yr) (o e : Int) : dy_lnk Y o e o 4 = e := if_pos ⟨rfl, rfl⟩
theorem yl_o (Y : Yr) {o e a k : Int} (h : a ≠ o ∨ k ≠ 4) : dy_lnk Y o e a k = Y a k := if_neg (fun q => h.elim (fun z => z q.1) (fun z => z q.2))
theorem sp_t (S : Int → Int) (d v : Int) : dy_top S d v d = v := if_pos rfl
theorem sp_o (S : Int → Int) {d v k : Int} (h : k ≠ d) : dy_top S d v k = S k := if_neg h
theorem yop_0 {Y Y' : Yr} {a b : Int} (h : Y a 0 = Y' b 0) : y_op Y a = y_op Y' b := by
  unfold y_op
  rw [h]
theorem ws_0 {Y Y' : Yr} {a b : Int} (h : ∀ k, k ≠ 4 → Y a k = Y' b k) : WS F Y a = WS F Y' b := by
  unfold WS
  rw [h 0 (by omega), h 1 (by omega), h 2 (by omega), h 3 (by omega), h 5 (by omega)]
theorem YDw.zero (F : Fld) (Y : Yr) (S : Int → Int) : YDw F Y 0 0 0 S := ⟨by omega, fun x a b => by omega, fun k a b => by omega, fun j k a b e => by omega, fun o a b => by omega, fun e a b => by omega, fun o v a b e => by omega⟩
theorem YDw.done (h : YDw F Y N c d S) (h0 : d = 0) : YI F N Y := by
  obtain ⟨⟨d0, c0, cn, nd⟩, w, s1, s2, op, en, ne⟩ := h
  refine Or.inr ⟨by omega, ⟨fun o a b e => ?_, en, fun o v a b e f g i => ?_⟩, w⟩
  · rcases op o a b e with ⟨k, hk, _⟩ | q
    · omega
    · exact q
  · exact (ne o v a b e f g (fun k k0 k1 => by omega) i).2
theorem YDw.row (h : YDw F Y N c d S) (hc : c < 30) (hr : r 0 ≠ 19) (hw : WS F (dy_row Y N r) N) (hop : ¬ y_op (dy_row Y N r) N) : YDw F (dy_row Y N r) (N + 1) (c + 1) d S := by
  obtain ⟨⟨d0, c0, cn, nd⟩, w, s1, s2, op, en, ne⟩ := h
  have o1 : ∀ a k, a ≠ N → dy_row Y N r a k = Y a k := fun a k q => yp_o Y r k q
  have yo : ∀ a, a ≠ N → y_op (dy_row Y N r) a = y_op Y a := fun a q => yop_0 (o1 a 0 q)
  refine ⟨by omega, fun x a b => ?_, fun k a b => ?_, s2, fun o a b e => ?_, fun e a b f => ?_, fun o v a b e f g i j => ?_⟩
  · by_cases q : x = N
    · rw [q]; exact hw
    · rw [ws_0 (Y' := Y) (b := x) (fun k _ => o1 x k q)]; exact w x a (by omega)
  · obtain ⟨x1, x2, x3⟩ := s1 k a b
    refine ⟨by omega, by rw [yo _ (by omega)]; exact x2, by rw [o1 _ _ (by omega)]; exact x3⟩
  · by_cases q : o = N
    · rw [q] at e; exact absurd e hop
    · rw [yo o q] at e
      rcases op o a (by omega) e with z | ⟨z1, z2, z3, z4⟩
      · exact Or.inl z
      · refine Or.inr ?_
        rw [o1 o 4 q, o1 _ 0 (by omega), o1 _ 4 (by omega)]
        exact ⟨z1, by omega, z3, z4⟩
  · by_cases q : e = N
    · rw [q, yp_t] at f; exact absurd f hr
    · rw [o1 e 0 q] at f
      obtain ⟨z1, z2, z3, z4⟩ := en e a (by omega) f
      rw [o1 e 4 q, yo _ (by omega), o1 _ 4 (by omega)]
      exact ⟨z1, z2, z3, z4⟩
  · by_cases q : v = N
    · rw [q] at g; exact absurd g hop
    · rw [yo o (by omega)] at f
      rw [yo v q] at g
      rw [o1 o 4 (by omega)] at j
      rw [o1 o 4 (by omega), o1 v 4 q]
      exact ne o v a b (by omega) f g i j
theorem YDw.opn (h : YDw F Y N c d S) (hc : c < 30) (hd : d < 3) (hr : r 0 ≠ 19) (hw : WS F (dy_row Y N r) N) (hop : y_op (dy_row Y N r) N) (h4 : r 4 = 0) : YDw F (dy_row Y N r) (N + 1) (c + 1) (d + 1) (dy_top S d N) := by
  obtain ⟨⟨d0, c0, cn, nd⟩, w, s1, s2, op, en, ne⟩ := h
  have o1 : ∀ a k, a ≠ N → dy_row Y N r a k = Y a k := fun a k q => yp_o Y r k q
  have yo : ∀ a, a ≠ N → y_op (dy_row Y N r) a = y_op Y a := fun a q => yop_0 (o1 a 0 q)
  have so : ∀ k, k ≠ d → dy_top S d N k = S k := fun k q => sp_o S q
  refine ⟨by omega, fun x a b => ?_, fun k a b => ?_, fun j k a b e => ?_, fun o a b e => ?_, fun e a b f => ?_, fun o v a b e f g i j => ?_⟩
  · by_cases q : x = N
    · rw [q]; exact hw
    · rw [ws_0 (Y' := Y) (b := x) (fun k _ => o1 x k q)]; exact w x a (by omega)
  · by_cases q : k = d
    · rw [q, sp_t, yp_t]
      exact ⟨by omega, hop, h4⟩
    · obtain ⟨x1, x2, x3⟩ := s1 k a (by omega)
      rw [so k q]
      exact ⟨by omega, by rw [yo _ (by omega)]; exact x2, by rw [o1 _ _ (by omega)]; exact x3⟩
  · rw [so j (by omega)]
    by_cases q : k = d
    · rw [q, sp_t]
      have := (s1 j a (by omega)).1
      omega
    · rw [so k q]; exact s2 j k a b (by omega)
  · by_cases q : o = N
    · exact Or.inl ⟨d, by omega, by rw [sp_t, q]⟩
    · rw [yo o q] at e
      rcases op o a (by omega) e with ⟨k, hk, z⟩ | ⟨z1, z2, z3, z4⟩
      · exact Or.inl ⟨k, by omega, by rw [so k (by omega)]; exact z⟩
      · refine Or.inr ?_
        rw [o1 o 4 q, o1 _ 0 (by omega), o1 _ 4 (by omega)]
        exact ⟨z1, by omega, z3, z4⟩
  · by_cases q : e = N
    · rw [q, yp_t] at f; exact absurd f hr
    · rw [o1 e 0 q] at f
      obtain ⟨z1, z2, z3, z4⟩ := en e a (by omega) f
      rw [o1 e 4 q, yo _ (by omega), o1 _ 4 (by omega)]
      exact ⟨z1, z2, z3, z4⟩
  · have i' : ∀ k, 0 ≤ k → k < d → S k ≠ o := fun k k0 k1 => by rw [← so k (by omega)]; exact i k k0 (by omega)
    have oN : o ≠ N := by omega
    rw [yo o oN] at f
    rw [o1 o 4 oN] at j
    have cl : o < Y o 4 ∧ Y o 4 < N := by
      rcases op o a (by omega) f with ⟨k, hk, z⟩ | ⟨z1, z2, z3, z4⟩
      · exact absurd z (i' k hk.1 hk.2)
      · exact ⟨z1, z2⟩
    have vN : v ≠ N := by omega
    rw [yo v vN] at g
    obtain ⟨x1, x2⟩ := ne o v a b (by omega) f g i' j
    refine ⟨fun k k0 k1 => ?_, by rw [o1 o 4 oN, o1 v 4 vN]; exact x2⟩
    by_cases q : k = d
    · rw [q, sp_t]; omega
    · rw [so k q]; exact x1 k k0 (by omega)
theorem YDw.close (h : YDw F Y N c d S) (hd : 0 < d) (h0 : r 0 = 19) (h4 : r 4 = S (d - 1)) : YDw F (dy_row (dy_lnk Y (S (d - 1)) N) N r) (N + 1) c (d - 1) S := by
  obtain ⟨⟨d0, c0, cn, nd⟩, w, s1, s2, op, en, ne⟩ := h
  obtain ⟨o, ho⟩ : ∃ o, o = S (d - 1) := ⟨_, rfl⟩
  rw [← ho] at h4 ⊢
  obtain ⟨p1, p2, p3⟩ := s1 (d - 1) (by omega) (by omega)
  rw [← ho] at p1 p2 p3
  obtain ⟨Z, hZ⟩ : ∃ Z, Z = dy_row (dy_lnk Y o N) N r := ⟨_, rfl⟩
  rw [← hZ]
  have zN : ∀ k, Z N k = r k := fun k => by rw [hZ]; exact yp_t _ _ _ _
  have z1 : ∀ a k, a ≠ N → (a ≠ o ∨ k ≠ 4) → Z a k = Y a k := fun a k q q2 => by rw [hZ, yp_o _ _ _ q, yl_o _ q2]
  have zo : Z o 4 = N := by rw [hZ, yp_o _ _ _ (by omega), yl_t]
  have yo : ∀ a, a ≠ N → y_op Z a = y_op Y a := fun a q => yop_0 (z1 a 0 q (Or.inr (by omega)))
  have nop : ¬ y_op Z N := by
    unfold y_op
    rw [zN, h0]
    omega
  have st : ∀ k, 0 ≤ k → k < d - 1 → S k < o := fun k k0 k1 => by rw [ho]; exact s2 k (d - 1) k0 k1 (by omega)
  refine ⟨by omega, fun x a b => ?_, fun k a b => ?_, fun j k a b e => s2 j k a b (by omega), fun u a b e => ?_, fun e a b f => ?_, fun u v a b e f g i j => ?_⟩
  · by_cases q : x = N
    · rw [q]
      unfold WS
      rw [zN 0, h0]
      omega
    · rw [ws_0 (Y' := Y) (b := x) (fun k hk => z1 x k q (Or.inr hk))]; exact w x a (by omega)
  · obtain ⟨x1, x2, x3⟩ := s1 k a (by omega)
    have := st k a b
    exact ⟨by omega, by rw [yo _ (by omega)]; exact x2, by rw [z1 _ _ (by omega) (Or.inl (by omega))]; exact x3⟩
  · by_cases q : u = N
    · rw [q] at e; exact absurd e nop
    · rw [yo u q] at e
      by_cases q2 : u = o
      · refine Or.inr ?_
        rw [q2, zo, zN, zN]
        exact ⟨by omega, by omega, h0, h4⟩
      · rcases op u a (by omega) e with ⟨k, hk, z⟩ | ⟨y1, y2, y3, y4⟩
        · refine Or.inl ⟨k, ⟨hk.1, ?_⟩, z⟩
          have : k ≠ d - 1 := fun t => q2 (by rw [← z, ho, t])
          omega
        · refine Or.inr ?_
          have ne4 : Y u 4 ≠ o := fun t => by
            rw [t] at y3
            unfold y_op at p2
            omega
          rw [z1 u 4 q (Or.inl q2), z1 _ 0 (by omega) (Or.inr (by omega)), z1 _ 4 (by omega) (Or.inl ne4)]
          exact ⟨y1, by omega, y3, y4⟩
  · by_cases q : e = N
    · rw [q, zN, h4, zo, yo o (by omega)]
      exact ⟨p1.1, p1.2, p2, rfl⟩
    · rw [z1 e 0 q (Or.inr (by omega))] at f
      obtain ⟨y1, y2, y3, y4⟩ := en e a (by omega) f
      have eo : e ≠ o := fun t => by
        rw [t] at f
        unfold y_op at p2
        omega
      have ne4 : Y e 4 ≠ o := fun t => by
        rw [t, p3] at y4
        omega
      rw [z1 e 4 q (Or.inl eo), yo _ (by omega), z1 _ 4 (by omega) (Or.inl ne4)]
      exact ⟨y1, y2, y3, y4⟩
  · have vN : v ≠ N := fun t => by rw [t] at g; exact nop g
    have uN : u ≠ N := by omega
    rw [yo u uN] at f
    rw [yo v vN] at g
    by_cases q2 : u = o
    · rw [q2, zo] at j
      rw [q2] at b
      have vo : ∀ k, 0 ≤ k → k < d → S k ≠ v := fun k k0 k1 t => by
        by_cases q3 : k = d - 1
        · rw [q3, ← ho] at t; omega
        · have := st k k0 (by omega); omega
      refine ⟨fun k k0 k1 => vo k k0 (by omega), ?_⟩
      rw [q2, zo, z1 v 4 vN (Or.inl (by omega))]
      rcases op v (by omega) (by omega) g with ⟨k, hk, z⟩ | ⟨y1, y2, y3, y4⟩
      · exact absurd z (vo k hk.1 hk.2)
      · exact y2
    · have i' : ∀ k, 0 ≤ k → k < d → S k ≠ u := fun k k0 k1 t => by
        by_cases q3 : k = d - 1
        · rw [q3, ← ho] at t; exact q2 t.symm
        · exact i k k0 (by omega) t
      rw [z1 u 4 uN (Or.inl q2)] at j
      obtain ⟨x1, x2⟩ := ne u v a b (by omega) f g i' j
      have vo : v ≠ o := fun t => x1 (d - 1) (by omega) (by omega) (by rw [← ho, t])
      refine ⟨fun k k0 k1 => x1 k k0 (by omega), ?_⟩
      rw [z1 u 4 uN (Or.inl q2), z1 v 4 vN (Or.inl vo)]
      exact x2
end DY
