/-! a row of years on both sides, from its begin to its end -/
def YRes (B : Int → Int) (n p : Int) (F : Fld) (nn : NMs) (GC : Nat → Nat → Nat → Nat → Mem → Option (Int32 × Mem) → Prop) (GM : Nat → Mem → Option (Int32 × Mem) → Prop) : Prop := (∃ fk fp : Int, (1 ≤ fk ∧ fk ≤ 99) ∧ (∀ t yt g ys M f, GC t yt g ys M f → CFail t yt ys 5 fk fp M f) ∧ ∀ m M f, GM m M f → MFy m fk fp M f) ∨ ∃ (N' c' d' : Int) (Y' : Yr) (U' : Int → Int) (p' : Int), (p < p' ∧ p' ≤ n) ∧ YDw F Y' N' c' d' U' ∧ (∀ t yt g ys M f, GC t yt g ys M f → ∃ M1, f = some (iI 1, M1) ∧ CYs t yt g ys B n p' F nn N' c' d' Y' U' M1 ∧ RCw t yt ys 5 M M1) ∧ ∀ m M f, GM m M f → ∃ M1, f = some (iI 1, M1) ∧ MYs m B n p' F nn N' c' d' Y' U' M1 ∧ mYx m M M1
section YRW
variable {B : Int → Int} {n p N c d : Int} {F : Fld} {nn : NMs} {Y : Yr} {U : Int → Int}
theorem YRes.to {p2 : Int} {GC GC2 : Nat → Nat → Nat → Nat → Mem → Option (Int32 × Mem) → Prop} {GM GM2 : Nat → Mem → Option (Int32 × Mem) → Prop} (h : YRes B n p2 F nn GC2 GM2) (hp : p ≤ p2) (hc : ∀ t yt g ys M f, GC t yt g ys M f → GC2 t yt g ys M f) (hm : ∀ m M f, GM m M f → GM2 m M f) : YRes B n p F nn GC GM := by
  rcases h with ⟨fk, fp, h1, h2, h3⟩ | ⟨N', c', d', Y', U', p', h1, h2, h3, h4⟩
  · exact Or.inl ⟨fk, fp, h1, fun t yt g ys M f q => h2 t yt g ys M f (hc t yt g ys M f q), fun m M f q => h3 m M f (hm m M f q)⟩
  · exact Or.inr ⟨N', c', d', Y', U', p', ⟨by omega, h1.2⟩, h2, fun t yt g ys M f q => h3 t yt g ys M f (hc t yt g ys M f q), fun m M f q => h4 m M f (hm m M f q)⟩
theorem y_row {φ : Nat} (hφ : 2000 < φ) (hB : HB B n) (hp : 0 ≤ p ∧ p ≤ n) (hN : 0 ≤ N ∧ N < 60) (hd : 0 ≤ d ∧ d ≤ 3) {op : Bool} (hop : op = true → d < 3) {v k0 v1 : Int} {v3 : Int32} (hv1 : ¬ (iI v1 = (19 : Int32))) {fm : Nat → Mem → Option (Int32 × Mem)} {P : List (Nat × Int) → List (Int × Int) → Prop} (A : RP (fun yt M => fX9_passRest φ yt (iI N) (iI v) M) fm B n p F nn N P) (hP : ∀ lc lm, P lc lm → (∀ w ∈ lm, 1 ≤ w.1 ∧ w.1 < 6) ∧ rowV v k0 op lc (rowR k0 lm) ∧ YDw F (dy_row Y N (rowR k0 lm)) (N + 1) (c + 1) (cond op (d + 1) d) (cond op (dy_top U d N) U)) : YRes B n p F nn (fun t yt g ys M f => EY t yt g ys ∧ ∃ M18, CRb t yt g ys B n p F nn N c d Y U op v M M18 ∧ f = kCe yt (fX9_passRest φ yt (iI N) (iI v) M18)) (fun m M f => ∃ M23, MRb m B n p F nn N c d Y U k0 M M23 ∧ f = kRt φ m (iI v1) (iI N) v3 (bI op) (fm m M23)) := by
  rcases A with ⟨fk, fp, h, a1, a2⟩ | ⟨lc, lm, p', hp', hPP, a1, a2⟩
  · refine Or.inl ⟨fk, fp, h, fun t yt g ys M f ⟨e, M18, R, hf⟩ => ?_, fun m M f ⟨M23, R, hf⟩ => ?_⟩
    · obtain ⟨M1, r1, r2⟩ := a1 t yt g ys M18 e R.2.1
      have r1 : fX9_passRest φ yt (iI N) (iI v) M18 = some (iI 0, M1) := r1
      refine CFail.le R.2.2.2.2.2.2.2.2 ⟨M1, ?_, r2⟩
      rw [hf, r1]
      unfold kCe
      rw [bdP, if_pos i0e]
      rfl
    · obtain ⟨M1, r1, r2⟩ := (a2 m M23 R.2.1).y
      refine MFy.le R.2.2.2.2.2.2.2.2.yw ⟨M1, ?_, r2⟩
      rw [hf, r1]
      unfold kRt
      rw [bdP, if_pos i0e]
      rfl
  · obtain ⟨hl, hr, hD⟩ := hP lc lm hPP
    have hq : 0 ≤ p' ∧ p' ≤ n := ⟨by omega, hp'.2⟩
    have nb := nx_b hB hq
    cases z : isSg (tok B n p') 59 with
    | false =>
      refine Or.inl ⟨fkT (tok B n p') 2, (tok B n p').2.1, fkT_1 (tok B n p') (k := 2) (by omega), fun t yt g ys M f ⟨e, M18, R, hf⟩ => ?_, fun m M f ⟨M23, R, hf⟩ => ?_⟩
      · obtain ⟨M1, r1, r2, r3, r4⟩ := a1 t yt g ys M18 e R.2.1
        have r1 : fX9_passRest φ yt (iI N) (iI v) M18 = some (iI 1, M1) := r1
        rw [hf, r1]
        exact (c_rowEnd hB e hN hq hd R r2 r3 r4 hr).2 z
      · obtain ⟨M1, r1, r2, r3, r4⟩ := a2 m M23 R.2.1
        rw [hf, r1]
        exact (m_rowEnd hφ hB hN hd hop hv1 R r2 r3 r4 hl).2 z
    | true =>
      have t3 : (tok B n p').1 = 3 ∧ (tok B n p').2.2.1 = 59 := of_decide_eq_true z
      refine Or.inr ⟨N + 1, c + 1, cond op (d + 1) d, dy_row Y N (rowR k0 lm), cond op (dy_top U d N) U, nx B n p', ⟨by have := nb.2.2 (by omega); omega, nb.1.2⟩, hD, fun t yt g ys M f ⟨e, M18, R, hf⟩ => ?_, fun m M f ⟨M23, R, hf⟩ => ?_⟩
      · obtain ⟨M1, r1, r2, r3, r4⟩ := a1 t yt g ys M18 e R.2.1
        have r1 : fX9_passRest φ yt (iI N) (iI v) M18 = some (iI 1, M1) := r1
        rw [hf, r1]
        exact (c_rowEnd hB e hN hq hd R r2 r3 r4 hr).1 z
      · obtain ⟨M1, r1, r2, r3, r4⟩ := a2 m M23 R.2.1
        rw [hf, r1]
        exact (m_rowEnd hφ hB hN hd hop hv1 R r2 r3 r4 hl).1 z
/-! what is read of a row, by its kind -/
theorem lm0 : ∀ w ∈ ([] : List (Int × Int)), 1 ≤ w.1 ∧ w.1 < 6 := fun w hw => by cases hw
theorem lmc {a x : Int} {l : List (Int × Int)} (h : 1 ≤ a ∧ a < 6) (hl : ∀ w ∈ l, 1 ≤ w.1 ∧ w.1 < 6) : ∀ w ∈ (a, x) :: l, 1 ≤ w.1 ∧ w.1 < 6 := fun w hw => by
  rcases List.mem_cons.mp hw with q | q
  · rw [q]
    exact h
  · exact hl w q
theorem ws_w {r : Int → Int} {a0 a1 a2 a3 a5 : Int} (e0 : r 0 = a0) (e1 : r 1 = a1) (e2 : r 2 = a2) (e3 : r 3 = a3) (e5 : r 5 = a5) (h : (a0 = 13 ∧ (0 ≤ a1 ∧ a1 < F 0 1 0) ∧ (0 ≤ a2 ∧ a2 < F 0 0 0) ∧ 1 ≤ a3 ∧ a3 ≤ 999) ∨ (a0 = 14 ∧ (0 ≤ a1 ∧ a1 < F 0 1 0) ∧ 0 ≤ a2 ∧ a2 ≤ 9999) ∨ (a0 = 15 ∧ 1 ≤ a1 ∧ a1 ≤ 9999) ∨ (a0 = 16 ∧ (0 ≤ a1 ∧ a1 < F 0 3 0) ∧ 0 ≤ a2 ∧ a2 ≤ 999) ∨ (a0 = 1721 ∧ (0 ≤ a1 ∧ a1 < F 0 1 0) ∧ (0 ≤ a2 ∧ a2 ≤ 9999) ∧ 60 ≤ a5 ∧ a5 ≤ 62) ∨ ((a0 = 1722 ∨ a0 = 1723) ∧ (0 ≤ a1 ∧ a1 < F 0 1 0) ∧ 0 ≤ a2 ∧ a2 < F 0 0 0) ∨ (a0 = 18 ∧ 1 ≤ a1 ∧ a1 ≤ 9999) ∨ a0 = 19 ∨ a0 = 20) : WS F (dy_row Y N r) N := by
  unfold WS
  rw [yp_t Y N r 0, yp_t Y N r 1, yp_t Y N r 2, yp_t Y N r 3, yp_t Y N r 5, e0, e1, e2, e3, e5]
  exact h
theorem op_w {r : Int → Int} {a0 : Int} (e0 : r 0 = a0) : y_op (dy_row Y N r) N = (a0 = 18 ∨ 1700 ≤ a0) := by
  unfold y_op
  rw [yp_t Y N r 0, e0]
theorem yk_13 (D : YDw F Y N c d U) (hc : c < 30) {x y z : Int} (hx : 0 ≤ x ∧ x < F 0 1 0) (hy : 0 ≤ y ∧ y < F 0 0 0) (hz : 1 ≤ z ∧ z ≤ 99) : (∀ w ∈ ([(1, x), (2, y), (3, z)] : List (Int × Int)), (1 : Int) ≤ w.1 ∧ w.1 < 6) ∧ rowV 13 13 false [(2, x), (3, y), (4, z)] (rowR 13 [(1, x), (2, y), (3, z)]) ∧ YDw F (dy_row Y N (rowR 13 [(1, x), (2, y), (3, z)])) (N + 1) (c + 1) d U :=
  ⟨lmc (by omega) (lmc (by omega) (lmc (by omega) lm0)), ⟨rfl, rfl, fun _ _ _ _ => rfl, fun _ => rfl, fun _ _ _ => rfl, fun h _ => by omega⟩, D.row hc (show (13 : Int) ≠ 19 by omega) (ws_w (a0 := 13) (a1 := x) (a2 := y) (a3 := z) (a5 := 0) rfl rfl rfl rfl rfl (by omega)) (by rw [op_w (a0 := 13) rfl]; omega)⟩
theorem yk_14 (D : YDw F Y N c d U) (hc : c < 30) {x z : Int} (hx : 0 ≤ x ∧ x < F 0 1 0) (hz : 1 ≤ z ∧ z ≤ 99) : (∀ w ∈ ([(1, x), (2, z)] : List (Int × Int)), (1 : Int) ≤ w.1 ∧ w.1 < 6) ∧ rowV 14 14 false [(2, x), (4, z)] (rowR 14 [(1, x), (2, z)]) ∧ YDw F (dy_row Y N (rowR 14 [(1, x), (2, z)])) (N + 1) (c + 1) d U :=
  ⟨lmc (by omega) (lmc (by omega) lm0), ⟨rfl, rfl, fun _ _ _ _ => rfl, fun h => by omega, fun _ _ _ => rfl, fun h _ => by omega⟩, D.row hc (show (14 : Int) ≠ 19 by omega) (ws_w (a0 := 14) (a1 := x) (a2 := z) (a3 := 0) (a5 := 0) rfl rfl rfl rfl rfl (by omega)) (by rw [op_w (a0 := 14) rfl]; omega)⟩
theorem yk_15 (D : YDw F Y N c d U) (hc : c < 30) {z : Int} (hz : 1 ≤ z ∧ z ≤ 99) : (∀ w ∈ ([(1, z)] : List (Int × Int)), (1 : Int) ≤ w.1 ∧ w.1 < 6) ∧ rowV 15 15 false [(4, z)] (rowR 15 [(1, z)]) ∧ YDw F (dy_row Y N (rowR 15 [(1, z)])) (N + 1) (c + 1) d U :=
  ⟨lmc (by omega) lm0, ⟨rfl, rfl, fun h _ _ _ => absurd rfl h, fun h => by omega, fun _ _ _ => rfl, fun h _ => by omega⟩, D.row hc (show (15 : Int) ≠ 19 by omega) (ws_w (a0 := 15) (a1 := z) (a2 := 0) (a3 := 0) (a5 := 0) rfl rfl rfl rfl rfl (by omega)) (by rw [op_w (a0 := 15) rfl]; omega)⟩
theorem yk_16 (D : YDw F Y N c d U) (hc : c < 30) {x z : Int} (hx : 0 ≤ x ∧ x < F 0 3 0) (hz : 1 ≤ z ∧ z ≤ 99) : (∀ w ∈ ([(1, x), (2, z)] : List (Int × Int)), (1 : Int) ≤ w.1 ∧ w.1 < 6) ∧ rowV 16 16 false [(2, x), (4, z)] (rowR 16 [(1, x), (2, z)]) ∧ YDw F (dy_row Y N (rowR 16 [(1, x), (2, z)])) (N + 1) (c + 1) d U :=
  ⟨lmc (by omega) (lmc (by omega) lm0), ⟨rfl, rfl, fun _ _ _ _ => rfl, fun h => by omega, fun _ _ _ => rfl, fun h _ => by omega⟩, D.row hc (show (16 : Int) ≠ 19 by omega) (ws_w (a0 := 16) (a1 := x) (a2 := z) (a3 := 0) (a5 := 0) rfl rfl rfl rfl rfl (by omega)) (by rw [op_w (a0 := 16) rfl]; omega)⟩
theorem yk_20 (D : YDw F Y N c d U) (hc : c < 30) : (∀ w ∈ ([] : List (Int × Int)), (1 : Int) ≤ w.1 ∧ w.1 < 6) ∧ rowV 23 20 false [] (rowR 20 []) ∧ YDw F (dy_row Y N (rowR 20 [])) (N + 1) (c + 1) d U :=
  ⟨lm0, ⟨rfl, rfl, fun _ _ _ h => absurd rfl h, fun h => by omega, fun _ h _ => absurd rfl h, fun _ h => absurd rfl h⟩, D.row hc (show (20 : Int) ≠ 19 by omega) (ws_w (a0 := 20) (a1 := 0) (a2 := 0) (a3 := 0) (a5 := 0) rfl rfl rfl rfl rfl (by omega)) (by rw [op_w (a0 := 20) rfl]; omega)⟩
theorem yk_18 (D : YDw F Y N c d U) (hc : c < 30) (hd : d < 3) {z : Int} (hz : 1 ≤ z ∧ z ≤ 99) : (∀ w ∈ ([(1, z)] : List (Int × Int)), (1 : Int) ≤ w.1 ∧ w.1 < 6) ∧ rowV 21 18 true [(4, z)] (rowR 18 [(1, z)]) ∧ YDw F (dy_row Y N (rowR 18 [(1, z)])) (N + 1) (c + 1) (d + 1) (dy_top U d N) :=
  ⟨lmc (by omega) lm0, ⟨rfl, rfl, fun _ h _ _ => absurd rfl h, fun h => by omega, fun _ _ _ => rfl, fun _ _ => rfl⟩, D.opn hc hd (show (18 : Int) ≠ 19 by omega) (ws_w (a0 := 18) (a1 := z) (a2 := 0) (a3 := 0) (a5 := 0) rfl rfl rfl rfl rfl (by omega)) (by rw [op_w (a0 := 18) rfl]; omega) rfl⟩
theorem yk_t1 (D : YDw F Y N c d U) (hc : c < 30) (hd : d < 3) {x y z : Int} (hx : 0 ≤ x ∧ x < F 0 1 0) (hy : 60 ≤ y ∧ y ≤ 62) (hz : 0 ≤ z ∧ z ≤ 9999) : (∀ w ∈ ([(1, x), (5, y), (2, z)] : List (Int × Int)), (1 : Int) ≤ w.1 ∧ w.1 < 6) ∧ rowV 18 1721 true [(2, x), (3, y), (4, z)] (rowR 1721 [(1, x), (5, y), (2, z)]) ∧ YDw F (dy_row Y N (rowR 1721 [(1, x), (5, y), (2, z)])) (N + 1) (c + 1) (d + 1) (dy_top U d N) :=
  ⟨lmc (by omega) (lmc (by omega) (lmc (by omega) lm0)), ⟨rfl, rfl, fun _ _ _ _ => rfl, fun _ => rfl, fun _ _ _ => rfl, fun _ _ => rfl⟩, D.opn hc hd (show (1721 : Int) ≠ 19 by omega) (ws_w (a0 := 1721) (a1 := x) (a2 := z) (a3 := 0) (a5 := y) rfl rfl rfl rfl rfl (by omega)) (by rw [op_w (a0 := 1721) rfl]; omega) rfl⟩
theorem yk_t2 (D : YDw F Y N c d U) (hc : c < 30) (hd : d < 3) {v x y : Int} (hv : v = 19 ∨ v = 20) (hx : 0 ≤ x ∧ x < F 0 1 0) (hy : 0 ≤ y ∧ y < F 0 0 0) : (∀ w ∈ ([(1, x), (2, y)] : List (Int × Int)), (1 : Int) ≤ w.1 ∧ w.1 < 6) ∧ rowV v (1703 + v) true [(2, x), (3, y)] (rowR (1703 + v) [(1, x), (2, y)]) ∧ YDw F (dy_row Y N (rowR (1703 + v) [(1, x), (2, y)])) (N + 1) (c + 1) (d + 1) (dy_top U d N) := by
  rcases hv with q | q
  · rw [q]
    exact ⟨lmc (by omega) (lmc (by omega) lm0), ⟨rfl, rfl, fun _ _ _ _ => rfl, fun _ => rfl, fun _ _ h => absurd rfl h.1, fun _ _ => rfl⟩, D.opn hc hd (show (1703 + 19 : Int) ≠ 19 by omega) (ws_w (a0 := 1722) (a1 := x) (a2 := y) (a3 := 0) (a5 := 0) rfl rfl rfl rfl rfl (by omega)) (by rw [op_w (a0 := 1722) rfl]; omega) rfl⟩
  · rw [q]
    exact ⟨lmc (by omega) (lmc (by omega) lm0), ⟨rfl, rfl, fun _ _ _ _ => rfl, fun _ => rfl, fun _ _ h => absurd rfl h.2, fun _ _ => rfl⟩, D.opn hc hd (show (1703 + 20 : Int) ≠ 19 by omega) (ws_w (a0 := 1723) (a1 := x) (a2 := y) (a3 := 0) (a5 := 0) rfl rfl rfl rfl rfl (by omega)) (by rw [op_w (a0 := 1723) rfl]; omega) rfl⟩
end YRW
