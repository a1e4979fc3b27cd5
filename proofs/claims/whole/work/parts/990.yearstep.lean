/-! one step of years' text, on both sides -/
section YST
variable {t yt g ys m : Nat} {B : Int → Int} {n p N c d : Int} {F : Fld} {nn : NMs} {M : Mem} {Y : Yr} {U : Int → Int}
theorem CRb.pre {op : Bool} {v : Int} {M1 M18 : Mem} (S : YCd ys N c d Y U M) (a : RCw t yt ys 5 M M1) (h : ∀ z, ys ≤ z → M1.1 z = M.1 z) (R : CRb t yt g ys B n p F nn N c d Y U op v M1 M18) : CRb t yt g ys B n p F nn N c d Y U op v M M18 := by
  obtain ⟨b1, b2, b3, b4, b5, b7, b8, b9, b10⟩ := R
  exact ⟨S, b2, b3, b4, b5, b7, b8, fun j i j1 j5 hi => by rw [b9 j i j1 j5 hi, h (ys + j) (by omega)], a.trans b10⟩
theorem c_stepv {φ : Nat} {v : Int} (hB : HB B n) (hp : 0 ≤ p ∧ p ≤ n) (e : EY t yt g ys) (S : CYo t yt g ys B n p F nn M) (h : wv (tok B n p) = v) (hv : v ≠ 22) (op : Bool) (hop : op = decide (v = 17 ∨ v = 21)) : fX9_passStep φ yt M = kP φ yt (iI v) (bI op) M := by
  have w := hB.w hp
  have kb := wv_bd w
  rw [h] at kb
  have ne : ∀ a : Int, 0 ≤ a ∧ a < 24 → v ≠ a → ¬ (iI v = iI a) := fun a ha h q => h (by rw [iI_eq (by omega) (by omega)] at q; exact q)
  have n22 : ¬ (iI v = (22 : Int32)) := ne 22 (by omega) hv
  rw [c_step_eq w e S h, if_neg n22]
  by_cases q : v = 17
  · rw [hop, decide_eq_true (Or.inl q), q, if_pos (show iI 17 = (17 : Int32) from rfl)]
    rfl
  · by_cases q2 : v = 21
    · rw [hop, decide_eq_true (Or.inr q2), q2, if_neg (by decide), if_pos (show iI 21 = (21 : Int32) from rfl)]
      rfl
    · have n17 : ¬ (iI v = (17 : Int32)) := ne 17 (by omega) q
      have n21 : ¬ (iI v = (21 : Int32)) := ne 21 (by omega) q2
      rw [hop, decide_eq_false (by omega), if_neg n17, if_neg n21]
      rfl
theorem c_kP1 {φ : Nat} {v2 : Int32} : kP φ yt v2 (bI true) M = kYb φ yt v2 (bI true) M := by
  unfold kP
  rw [bI_t, if_neg i1n]
theorem c_kP0 {φ : Nat} {v : Int} (hv : v = 13 ∨ v = 14 ∨ v = 15 ∨ v = 16 ∨ v = 23) : kP φ yt (iI v) (bI false) M = kYb φ yt (iI v) (bI false) M := by
  have e1 : fX9_isDoing (iI v) M = some (iI 1) := by rcases hv with q | q | q | q | q <;> rw [q] <;> rfl
  unfold kP
  rw [bI_f, if_pos i0e, e1, sbind, if_neg i1n]
theorem c_kPn {φ : Nat} {v : Int} (hb : -1 ≤ v ∧ v < 24) (hv : ¬ (v = 13 ∨ v = 14 ∨ v = 15 ∨ v = 16 ∨ v = 23)) : kP φ yt (iI v) (bI false) M = cF yt (iI 2) M := by
  have ne : ∀ a : Int, 0 ≤ a ∧ a < 24 → v ≠ a → ¬ (iI v = iI a) := fun a ha h q => h (by rw [iI_eq (by omega) (by omega)] at q; exact q)
  have n13 : ¬ (iI v = (13 : Int32)) := ne 13 (by omega) (by omega)
  have n14 : ¬ (iI v = (14 : Int32)) := ne 14 (by omega) (by omega)
  have n15 : ¬ (iI v = (15 : Int32)) := ne 15 (by omega) (by omega)
  have n16 : ¬ (iI v = (16 : Int32)) := ne 16 (by omega) (by omega)
  have n23 : ¬ (iI v = (23 : Int32)) := ne 23 (by omega) (by omega)
  have e1 : fX9_isDoing (iI v) M = some (iI 0) := by
    unfold fX9_isDoing
    rw [if_neg n13, if_neg n14, if_neg n15, if_neg n16, if_neg n23]
    rfl
  unfold kP
  rw [bI_f, if_pos i0e, e1, sbind, if_pos i0e]
  rfl
theorem m_kS19 {φ : Nat} {v2 v3 : Int32} (S : MYs m B n p F nn N c d Y U M) (hd : 0 ≤ d ∧ d ≤ 3) : (d = 0 → kS φ m (iI 19) v2 v3 (bI false) M = kF φ m (iI 2) M) ∧ (0 < d → kS φ m (iI 19) v2 v3 (bI false) M = kA φ m (iI 19) v2 v3 (bI false) (iI 0) M) := by
  obtain ⟨s1, s2, ⟨s3, s4⟩, s5⟩ := S
  have q19 : iI 19 = (19 : Int32) := rfl
  refine ⟨fun q => ?_, fun q => ?_⟩
  · unfold kS
    rw [if_neg (by decide), if_neg (by decide), jn_eq, jn_eq, jn_eq, if_pos q19, s3, q, if_pos i0e]
    rfl
  · have n0 : ¬ (iI d = (0 : Int32)) := by
      show ¬ (iI d = iI 0)
      rw [iI_eq (by omega) (by omega)]
      omega
    unfold kS
    rw [if_neg (by decide), if_neg (by decide), jn_eq, jn_eq, jn_eq, if_pos q19, s3, if_neg n0, if_pos q19, bI_f, if_pos i0e, if_pos q19]
    rfl
/-- what a step is called from -/
abbrev GCs (φ : Nat) (B : Int → Int) (n p : Int) (F : Fld) (nn : NMs) (N c d : Int) (Y : Yr) (U : Int → Int) : Nat → Nat → Nat → Nat → Mem → Option (Int32 × Mem) → Prop := fun t yt g ys M f => EY t yt g ys ∧ CYs t yt g ys B n p F nn N c d Y U M ∧ f = fX9_passStep φ yt M
abbrev GMs (φ : Nat) (B : Int → Int) (n p : Int) (F : Fld) (nn : NMs) (N c d : Int) (Y : Yr) (U : Int → Int) : Nat → Mem → Option (Int32 × Mem) → Prop := fun m M f => MYs m B n p F nn N c d Y U M ∧ f = fX11_step φ m M
theorem y_no {φ : Nat} {k : Int} (hk : 1 ≤ k ∧ k ≤ 99) (hB : HB B n) (hp : 0 ≤ p ∧ p ≤ n) (hc : ∀ t yt g ys M, EY t yt g ys → CYs t yt g ys B n p F nn N c d Y U M → fX9_passStep φ yt M = cF yt (iI k) M) (hm : ∀ m M, MYs m B n p F nn N c d Y U M → fX11_step φ m M = kF φ m (iI k) M) : YRes B n p F nn (GCs φ B n p F nn N c d Y U) (GMs φ B n p F nn N c d Y U) := by
  refine Or.inl ⟨fkT (tok B n p) k, (tok B n p).2.1, fkT_1 (tok B n p) hk, fun t yt g ys M f ⟨e, S, hf⟩ => ?_, fun m M f ⟨S, hf⟩ => ?_⟩
  · rw [hf, hc t yt g ys M e S]
    exact c_cF hB hp e S.1
  · rw [hf, hm m M S]
    exact (m_kF hB S.1).y
theorem y_go {φ : Nat} {v w : Int} (hφ : 2000 < φ) (hB : HB B n) (hp : 0 ≤ p ∧ p ≤ n) (D : YDw F Y N c d U) (op : Bool) (hv : (op = false ∧ (v = 13 ∨ v = 14 ∨ v = 15 ∨ v = 16 ∨ v = 23)) ∨ (op = true ∧ v = 21)) (hk : wv (tok B n p) = v) (hw : pr v = w) {P : List (Nat × Int) → List (Int × Int) → Prop} (A : c < 30 → RP (fun yt M => fX9_passRest φ yt (iI N) (iI v) M) (fun m M => fX11_yearOrder φ m (iI w) (iI (2880 + 6 * N)) M) B n (nx B n p) F nn N P) (hP : c < 30 → (op = true → d < 3) → ∀ lc lm, P lc lm → (∀ w ∈ lm, 1 ≤ w.1 ∧ w.1 < 6) ∧ rowV v w op lc (rowR w lm) ∧ YDw F (dy_row Y N (rowR w lm)) (N + 1) (c + 1) (cond op (d + 1) d) (cond op (dy_top U d N) U)) : YRes B n p F nn (GCs φ B n p F nn N c d Y U) (GMs φ B n p F nn N c d Y U) := by
  obtain ⟨⟨d0, c0, cn, nd⟩, _⟩ := D
  have nb := nx_b hB hp
  have wb : ((13 ≤ w ∧ w ≤ 20) ∧ w ≠ 19) ∧ w ≠ 17 ∧ (op = decide (w = 17 ∨ w = 18)) := by
    rcases hv with ⟨h0, q | q | q | q | q⟩ | ⟨h0, q⟩ <;> rw [q] at hw <;> rw [← hw, h0] <;> decide
  have vo : op = decide (v = 17 ∨ v = 21) := by
    rcases hv with ⟨h0, q | q | q | q | q⟩ | ⟨h0, q⟩ <;> rw [q, h0] <;> rfl
  have v22 : v ≠ 22 := by omega
  have e1 : ∀ t yt g ys M, EY t yt g ys → CYs t yt g ys B n p F nn N c d Y U M → fX9_passStep φ yt M = kYb φ yt (iI v) (bI op) M := fun t yt g ys M e S => by
    rw [c_stepv hB hp e S.1 hk v22 op vo]
    rcases hv with ⟨h0, q⟩ | ⟨h0, q⟩
    · rw [h0]; exact c_kP0 q
    · rw [h0]; exact c_kP1
  have e2 : ∀ m M, MYs m B n p F nn N c d Y U M → fX11_step φ m M = kS φ m (iI w) (iI N) (iI (2880 + 6 * N)) (bI op) M := fun m M S => m_stepv hφ hB S (by rw [hk, hw]) (by omega) op wb.2.2
  by_cases c3 : c = 30
  · exact y_no (k := 6) (by omega) hB hp (fun t yt g ys M e S => by rw [e1 t yt g ys M e S, c_kB6 e S (by omega)]) (fun m M S => by rw [e2 m M S, m_kS6 S wb.1 c3])
  · by_cases dd : op = true ∧ d = 3
    · have ot := dd.1
      subst ot
      exact y_no (k := 7) (by omega) hB hp (fun t yt g ys M e S => by rw [e1 t yt g ys M e S, c_kB7 e S (by omega) dd.2]) (fun m M S => by rw [e2 m M S, m_kS7 S wb.1 (by omega) dd.2])
    · have hop : op = true → d < 3 := fun q => by
        have : d ≠ 3 := fun z => dd ⟨q, z⟩
        omega
      have hN : 0 ≤ N ∧ N < 60 := by omega
      have n19 : ¬ (iI w = (19 : Int32)) := by
        show ¬ (iI w = iI 19)
        rw [iI_eq (by omega) (by omega)]
        exact wb.1.2
      have n17 : ¬ (iI v = (17 : Int32)) := by
        show ¬ (iI v = iI 17)
        rw [iI_eq (by omega) (by omega)]
        omega
      refine (y_row hφ hB nb.1 hN d0 hop n19 (v3 := iI (2880 + 6 * N)) (A (by omega)) (hP (by omega) hop)).to nb.2.1 (fun t yt g ys M f ⟨e, S, hf⟩ => ⟨e, ?_⟩) (fun m M f ⟨S, hf⟩ => ?_)
      · obtain ⟨M1, r1, r2, r3⟩ := c_kG (φ := φ) (v3 := bI op) e S n17
        obtain ⟨M18, s1, s2⟩ := c_rowBegin (φ := φ) e hN r2 (v := v) (by omega) op d0 hop
        have h2 := e.2
        refine ⟨M18, CRb.pre S.2.1 r3.rw (fun z hz => (r3.2.2 z (by omega)).1) s2, ?_⟩
        rw [hf, e1 t yt g ys M e S, c_kB e S op (by omega) d0 hop, r1, s1]
      · obtain ⟨M23, r1, r2⟩ := m_rowB hφ hB hN S w (bI op)
        refine ⟨M23, r2, ?_⟩
        rw [hf, e2 m M S, m_kS1 S wb.1 op (by omega) d0 hop, r1]
/-- a when: its second word, its readings -/
theorem y_when {φ : Nat} (hφ : 2000 < φ) (hB : HB B n) (hp : 0 ≤ p ∧ p ≤ n) (dw : DX F nn) (D : YDw F Y N c d U) (hk : wv (tok B n p) = 17) : YRes B n p F nn (GCs φ B n p F nn N c d Y U) (GMs φ B n p F nn N c d Y U) := by
  have D0 := D
  obtain ⟨⟨d0, c0, cn, nd⟩, _⟩ := D
  have nb := nx_b hB hp
  have nb2 := nx_b hB nb.1
  have e1 : ∀ t yt g ys M, EY t yt g ys → CYs t yt g ys B n p F nn N c d Y U M → fX9_passStep φ yt M = kYb φ yt (iI 17) (bI true) M := fun t yt g ys M e S => by
    rw [c_stepv hB hp e S.1 hk (by omega) true rfl]
    exact c_kP1
  have e2 : ∀ m M, MYs m B n p F nn N c d Y U M → fX11_step φ m M = kS φ m (iI 17) (iI N) (iI (2880 + 6 * N)) (bI true) M := fun m M S => m_stepv hφ hB S (by rw [hk]; rfl) (by omega) true rfl
  by_cases c3 : c = 30
  · exact y_no (k := 6) (by omega) hB hp (fun t yt g ys M e S => by rw [e1 t yt g ys M e S, c_kB6 e S (by omega)]) (fun m M S => by rw [e2 m M S, m_kS6 S (by omega) c3])
  · by_cases dd : d = 3
    · exact y_no (k := 7) (by omega) hB hp (fun t yt g ys M e S => by rw [e1 t yt g ys M e S, c_kB7 e S (by omega) dd]) (fun m M S => by rw [e2 m M S, m_kS7 S (by omega) (by omega) dd])
    · have hop : true = true → d < 3 := fun _ => by omega
      have d3 : d < 3 := by omega
      have hN : 0 ≤ N ∧ N < 60 := by omega
      have n19 : ¬ (iI 17 = (19 : Int32)) := by decide
      obtain ⟨k, hk2⟩ : ∃ k, wv (tok B n (nx B n p)) = k := ⟨_, rfl⟩
      have gc : (k = 18 ∨ k = 19 ∨ k = 20) → ∀ t yt g ys M f, GCs φ B n p F nn N c d Y U t yt g ys M f → EY t yt g ys ∧ ∃ M18, CRb t yt g ys B n (nx B n (nx B n p)) F nn N c d Y U true k M M18 ∧ f = kCe yt (fX9_passRest φ yt (iI N) (iI k) M18) := fun q t yt g ys M f ⟨e, S, hf⟩ => by
        obtain ⟨M1, r1, r2, r3, r4⟩ := (c_kG17 (φ := φ) (v3 := bI true) hB hp e S hk2).1 q
        obtain ⟨M18, s1, s2⟩ := c_rowBegin (φ := φ) e hN r2 (v := k) (by omega) true d0 hop
        refine ⟨e, M18, CRb.pre S.2.1 r3 r4 s2, ?_⟩
        rw [hf, e1 t yt g ys M e S, c_kB e S true (by omega) d0 hop, r1, s1]
      have em : ∀ m M, MYs m B n p F nn N c d Y U M → ∃ M23, fX11_step φ m M = kRt φ m (iI 17) (iI N) (iI (2880 + 6 * N)) (bI true) (fX11_yearOrder φ m (iI 17) (iI (2880 + 6 * N)) M23) ∧ MRb m B n (nx B n p) F nn N c d Y U 17 M M23 := fun m M S => by
        obtain ⟨M23, r1, r2⟩ := m_rowB hφ hB hN S 17 (bI true)
        exact ⟨M23, by rw [e2 m M S, m_kS1 S (by omega) true (by omega) d0 hop, r1], r2⟩
      have gm1 : k = 18 → ∀ m M f, GMs φ B n p F nn N c d Y U m M f → ∃ M23, MRb m B n (nx B n (nx B n p)) F nn N c d Y U 1721 M M23 ∧ f = kRt φ m (iI 17) (iI N) (iI (2880 + 6 * N)) (bI true) (fl1 (kT1 φ m (2880 + 6 * N) M23)) := fun q m M f ⟨S, hf⟩ => by
        obtain ⟨M23, r1, r2⟩ := em m M S
        obtain ⟨M5, s1, s2⟩ := (m_test hφ hB nb.1 hN r2 hk2).1 q
        exact ⟨M5, s2, by rw [hf, r1, s1]⟩
      have gm2 : k = 19 ∨ k = 20 → ∀ m M f, GMs φ B n p F nn N c d Y U m M f → ∃ M23, MRb m B n (nx B n (nx B n p)) F nn N c d Y U (1703 + k) M M23 ∧ f = kRt φ m (iI 17) (iI N) (iI (2880 + 6 * N)) (bI true) (fl1 (kT2 φ m (2880 + 6 * N) M23)) := fun q m M f ⟨S, hf⟩ => by
        obtain ⟨M23, r1, r2⟩ := em m M S
        obtain ⟨M5, s1, s2⟩ := (m_test hφ hB nb.1 hN r2 hk2).2.1 q
        exact ⟨M5, s2, by rw [hf, r1, s1]⟩
      by_cases q1 : k = 18
      · subst q1
        exact (y_row hφ hB nb2.1 hN d0 hop n19 (v3 := iI (2880 + 6 * N)) (y_t1k hφ hB nb2.1 dw hN) (fun lc lm ⟨x, y, z, hx, hy, hz, h1, h2⟩ => by rw [h1, h2]; exact yk_t1 D0 (by omega) d3 hx hy hz)).to (by omega) (gc (Or.inl rfl)) (gm1 rfl)
      · by_cases q2 : k = 19 ∨ k = 20
        · exact (y_row hφ hB nb2.1 hN d0 hop n19 (v3 := iI (2880 + 6 * N)) (y_t2k q2 hφ hB nb2.1 dw hN) (fun lc lm ⟨x, y, hx, hy, h1, h2⟩ => by rw [h1, h2]; exact yk_t2 D0 (by omega) d3 q2 hx hy)).to (by omega) (gc (Or.inr q2)) (gm2 q2)
        · have q3 : ¬ (k = 18 ∨ k = 19 ∨ k = 20) := by omega
          refine Or.inl ⟨fkT (tok B n (nx B n p)) 2, (tok B n (nx B n p)).2.1, fkT_1 _ (k := 2) (by omega), fun t yt g ys M f ⟨e, S, hf⟩ => ?_, fun m M f ⟨S, hf⟩ => ?_⟩
          · rw [hf, e1 t yt g ys M e S, c_kB e S true (by omega) d0 hop]
            exact (c_kG17 (φ := φ) (v3 := bI true) hB hp e S hk2).2 q3
          · obtain ⟨M23, r1, r2⟩ := em m M S
            obtain ⟨M5, s1, s2⟩ := ((m_test hφ hB nb.1 hN r2 hk2).2.2 q3).y
            refine MFy.le r2.2.2.2.2.2.2.2.2.yw ⟨M5, ?_, s2⟩
            rw [hf, r1, s1]
            unfold kRt
            rw [bdP, if_pos i0e]
            rfl
/-- an end -/
theorem y_end {φ : Nat} (hφ : 2000 < φ) (hB : HB B n) (hp : 0 ≤ p ∧ p ≤ n) (D : YDw F Y N c d U) (hk : wv (tok B n p) = 22) : YRes B n p F nn (GCs φ B n p F nn N c d Y U) (GMs φ B n p F nn N c d Y U) := by
  have D0 := D
  obtain ⟨⟨d0, c0, cn, nd⟩, _⟩ := D
  have nb := nx_b hB hp
  have nb2 := nx_b hB nb.1
  have w := hB.w hp
  have e1 : ∀ t yt g ys M, EY t yt g ys → CYs t yt g ys B n p F nn N c d Y U M → fX9_passStep φ yt M = fl1 (fX9_passEnd yt M) := fun t yt g ys M e S => by
    rw [c_step_eq w e S.1 hk, if_pos (show iI 22 = (22 : Int32) from rfl)]
    rfl
  have e2 : ∀ m M, MYs m B n p F nn N c d Y U M → fX11_step φ m M = kS φ m (iI 19) (iI N) (iI (2880 + 6 * N)) (bI false) M := fun m M S => m_stepv hφ hB S (by rw [hk]; rfl) (by omega) false rfl
  by_cases hd : d = 0
  · refine y_no (k := 2) (by omega) hB hp (fun t yt g ys M e S => ?_) (fun m M S => by rw [e2 m M S, (m_kS19 S d0).1 hd])
    have q0 : ¬ ((0 : Int32) < M.1 yt 1) := by
      rw [S.2.2.1, hd]
      decide
    have ce : fX9_passEnd yt M = cF yt (iI 2) M := by
      unfold fX9_passEnd
      rw [if_neg q0]
      rfl
    have cf := c_cF (k := 2) hB hp e S.1
    obtain ⟨M1, r1, _⟩ := cf
    rw [e1 t yt g ys M e S, ce, r1]
    unfold fl1
    rw [bdP, if_pos (Or.inl i0e)]
  · have d1 : 0 < d := by omega
    have hN : 0 ≤ N ∧ N < 60 := by omega
    cases z : isSg (tok B n (nx B n p)) 59 with
    | false =>
      refine Or.inl ⟨fkT (tok B n (nx B n p)) 2, (tok B n (nx B n p)).2.1, fkT_1 _ (k := 2) (by omega), fun t yt g ys M f ⟨e, S, hf⟩ => ?_, fun m M f ⟨S, hf⟩ => ?_⟩
      · obtain ⟨M1, r1, r2⟩ := (c_close hB hp e D0 d1 hN S).2 z
        refine ⟨M1, ?_, r2⟩
        rw [hf, e1 t yt g ys M e S, r1]
        unfold fl1
        rw [bdP, if_pos (Or.inl i0e)]
      · rw [hf, e2 m M S, (m_kS19 S d0).2 d1]
        exact (m_close hφ hB hp D0 d1 hN S (bI false) rfl).2 z
    | true =>
      have t3 : (tok B n (nx B n p)).1 = 3 ∧ (tok B n (nx B n p)).2.2.1 = 59 := of_decide_eq_true z
      refine Or.inr ⟨N + 1, c, d - 1, dy_row (dy_lnk Y (U (d - 1)) N) N (eR (U (d - 1))), U, nx B n (nx B n p), ⟨by have := nb2.2.2 (by omega); omega, nb2.1.2⟩, D0.close d1 rfl rfl, fun t yt g ys M f ⟨e, S, hf⟩ => ?_, fun m M f ⟨S, hf⟩ => ?_⟩
      · obtain ⟨M1, r1, r2⟩ := (c_close hB hp e D0 d1 hN S).1 z
        refine ⟨M1, ?_, r2⟩
        rw [hf, e1 t yt g ys M e S, r1]
        unfold fl1
        rw [bdP, if_pos (Or.inr (show iI 1 = (1 : Int32) from rfl))]
      · obtain ⟨M1, r1, r2⟩ := (m_close hφ hB hp D0 d1 hN S (bI false) rfl).1 z
        exact ⟨M1, by rw [hf, e2 m M S, (m_kS19 S d0).2 d1, r1], r2⟩
theorem y_step {φ : Nat} (hφ : 2000 < φ) (hB : HB B n) (hp : 0 ≤ p ∧ p ≤ n) (dw : DX F nn) (D : YDw F Y N c d U) : YRes B n p F nn (GCs φ B n p F nn N c d Y U) (GMs φ B n p F nn N c d Y U) := by
  obtain ⟨k, hk⟩ : ∃ k, wv (tok B n p) = k := ⟨_, rfl⟩
  have D0 := D
  obtain ⟨⟨d0, c0, cn, nd⟩, _⟩ := D
  have nb := nx_b hB hp
  have w := hB.w hp
  have kb := wv_bd w
  rw [hk] at kb
  have hN : c < 30 → 0 ≤ N ∧ N < 60 := fun _ => by omega
  by_cases q22 : k = 22
  · exact y_end hφ hB hp D0 (hk.trans q22)
  by_cases q17 : k = 17
  · exact y_when hφ hB hp dw D0 (hk.trans q17)
  by_cases q13 : k = 13
  · exact y_go hφ hB hp D0 false (Or.inl ⟨rfl, by omega⟩) (hk.trans q13) (show pr 13 = 13 from rfl) (fun h => y_r13 hφ hB nb.1 dw (hN h)) (fun h _ lc lm ⟨x, y, z, hx, hy, hz, h1, h2⟩ => by rw [h1, h2]; exact yk_13 D0 h hx hy hz)
  by_cases q14 : k = 14
  · exact y_go hφ hB hp D0 false (Or.inl ⟨rfl, by omega⟩) (hk.trans q14) (show pr 14 = 14 from rfl) (fun h => y_r14 hφ hB nb.1 dw (hN h)) (fun h _ lc lm ⟨x, z, hx, hz, h1, h2⟩ => by rw [h1, h2]; exact yk_14 D0 h hx hz)
  by_cases q15 : k = 15
  · exact y_go hφ hB hp D0 false (Or.inl ⟨rfl, by omega⟩) (hk.trans q15) (show pr 15 = 15 from rfl) (fun h => y_r15 hφ hB nb.1 dw (hN h)) (fun h _ lc lm ⟨z, hz, h1, h2⟩ => by rw [h1, h2]; exact yk_15 D0 h hz)
  by_cases q16 : k = 16
  · exact y_go hφ hB hp D0 false (Or.inl ⟨rfl, by omega⟩) (hk.trans q16) (show pr 16 = 16 from rfl) (fun h => y_r16 hφ hB nb.1 dw (hN h)) (fun h _ lc lm ⟨x, z, hx, hz, h1, h2⟩ => by rw [h1, h2]; exact yk_16 D0 h hx hz)
  by_cases q23 : k = 23
  · exact y_go hφ hB hp D0 false (Or.inl ⟨rfl, by omega⟩) (hk.trans q23) (show pr 23 = 20 from rfl) (fun h => y_r20 hφ hB nb.1 dw (hN h)) (fun h _ lc lm ⟨h1, h2⟩ => by rw [h1, h2]; exact yk_20 D0 h)
  by_cases q21 : k = 21
  · exact y_go hφ hB hp D0 true (Or.inr ⟨rfl, rfl⟩) (hk.trans q21) (show pr 21 = 18 from rfl) (fun h => y_r18 hφ hB nb.1 dw (hN h)) (fun h hd lc lm ⟨z, hz, h1, h2⟩ => by rw [h1, h2]; exact yk_18 D0 h (hd rfl) hz)
  have pb := pr_bd kb
  have np : ∀ a b : Int, (-1 ≤ a ∧ a < 24) → k ≠ a → pr a = b → pr k ≠ b := fun a b ha h e q => by
    rw [← e, pr_inj kb ha] at q
    exact h q
  have b13 := np 13 13 (by omega) q13 rfl
  have b14 := np 14 14 (by omega) q14 rfl
  have b15 := np 15 15 (by omega) q15 rfl
  have b16 := np 16 16 (by omega) q16 rfl
  have b17 := np 17 17 (by omega) q17 rfl
  have b18 := np 21 18 (by omega) q21 rfl
  have b19 := np 22 19 (by omega) q22 rfl
  have b20 := np 23 20 (by omega) q23 rfl
  have out : -1 ≤ pr k ∧ pr k < 24 ∧ ¬ (13 ≤ pr k ∧ pr k ≤ 20) := by omega
  exact y_no (k := 2) (by omega) hB hp (fun t yt g ys M e S => by rw [c_stepv hB hp e S.1 hk q22 false (by rw [decide_eq_false (by omega)]), c_kPn kb (by omega)]) (fun m M S => by rw [m_stepv hφ hB S (by rw [hk]) pb false (by rw [decide_eq_false (by omega)]), m_kS2 out])
end YST
