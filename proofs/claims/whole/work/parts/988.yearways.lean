/-! which way a row of years goes, on each side -/
section YW1
variable {t yt g ys m : Nat} {B : Int → Int} {n p N c d : Int} {F : Fld} {nn : NMs} {M M1 : Mem} {Y : Yr} {U : Int → Int}
theorem YCd.cell (S : YCd ys N c d Y U M) (h : ∀ z, ys ≤ z → M1.1 z = M.1 z) : YCd ys N c d Y U M1 := ⟨⟨by rw [h ys (by omega)]; exact S.1.1, by rw [h ys (by omega)]; exact S.1.2⟩, fun x a b => (S.2 x a b).eq (fun l => l) (fun _ => rfl) (fun j j1 j5 => by rw [h (ys + j) (by omega)])⟩
theorem CYs.go {q : Int} (e : EY t yt g ys) (S : CYs t yt g ys B n p F nn N c d Y U M) (h : RDp t B n q M1) (a : cGo t M M1) : CYs t yt g ys B n q F nn N c d Y U M1 := by
  have e1 := e.2
  exact ⟨S.1.go2 e h a, S.2.1.cell (fun z hz => (a.2.2 z (by omega)).1), by rw [(a.2.2 yt (by omega)).1]; exact S.2.2.1, fun k k0 k1 => by rw [(a.2.2 (yt + 1) (by omega)).1]; exact S.2.2.2 k k0 k1⟩
theorem c_cF {k : Int} (hB : HB B n) (hp : 0 ≤ p ∧ p ≤ n) (e : EY t yt g ys) (S : CYo t yt g ys B n p F nn M) : CFail t yt ys 5 (fkT (tok B n p) k) (tok B n p).2.1 M (cF yt (iI k) M) := by
  have w := hB.w hp
  refine CFail.of M ?_
  unfold cF
  rw [S.2.2.2.1, ldr_ok e.1.1, sbind, c_refuse w S.1, bdP, if_pos (Or.inl i0e)]
theorem m_kF {φ : Nat} {k : Int} (hB : HB B n) (S : MYo m B n p F nn M) : MFail m (fkT (tok B n p) k) (tok B n p).2.1 M (kF φ m (iI k) M) := by
  refine MFail.of M ?_
  unfold kF
  rw [m_fails hB.2 S.1 S.2.2.2, bdP, if_pos (Or.inl i0e)]
theorem c_full0 (h : M.1 ys 1 = iI c) (hc : 0 ≤ c ∧ c < 30) : fX8_isFull ys M = some (iI 0) := by
  unfold fX8_isFull
  rw [h, k_30, if_pos (by rw [iI_lt (by omega) (by omega)]; omega)]
  rfl
theorem c_full1 (h : M.1 ys 1 = iI c) (hc : 30 ≤ c ∧ c < 100) : fX8_isFull ys M = some (iI 1) := by
  unfold fX8_isFull
  rw [h, k_30, if_neg (by rw [iI_lt (by omega) (by omega)]; omega)]
  rfl
theorem c_kB {φ : Nat} {v2 : Int32} (e : EY t yt g ys) (S : CYs t yt g ys B n p F nn N c d Y U M) (op : Bool) (hc : 0 ≤ c ∧ c < 30) (hd : 0 ≤ d ∧ d ≤ 3) (hop : op = true → d < 3) : kYb φ yt v2 (bI op) M = kG φ yt v2 (bI op) M := by
  unfold kYb
  rw [S.1.2.2.2.2.2, ldr_ok e.1.2.2, sbind, c_full0 S.2.1.1.1 hc, sbind, if_pos i0e]
  cases op with
  | false => rw [bI_f, if_pos i0e]
  | true =>
    have := hop rfl
    rw [bI_t, if_neg i1n, S.2.2.1, k_3, if_pos (by rw [iI_lt (by omega) (by omega)]; omega)]
theorem c_kB6 {φ : Nat} {v2 v3 : Int32} (e : EY t yt g ys) (S : CYs t yt g ys B n p F nn N c d Y U M) (hc : 30 ≤ c ∧ c < 100) : kYb φ yt v2 v3 M = cF yt (iI 6) M := by
  unfold kYb
  rw [S.1.2.2.2.2.2, ldr_ok e.1.2.2, sbind, c_full1 S.2.1.1.1 hc, sbind, if_neg i1n]
  rfl
theorem c_kB7 {φ : Nat} {v2 : Int32} (e : EY t yt g ys) (S : CYs t yt g ys B n p F nn N c d Y U M) (hc : 0 ≤ c ∧ c < 30) (hd : d = 3) : kYb φ yt v2 (bI true) M = cF yt (iI 7) M := by
  unfold kYb
  rw [S.1.2.2.2.2.2, ldr_ok e.1.2.2, sbind, c_full0 S.2.1.1.1 hc, sbind, if_pos i0e, bI_t, if_neg i1n, S.2.2.1, k_3, if_neg (by rw [iI_lt (by omega) (by omega)]; omega)]
  rfl
theorem c_kG {φ : Nat} {v : Int} {v3 : Int32} (e : EY t yt g ys) (S : CYs t yt g ys B n p F nn N c d Y U M) (hv : ¬ (iI v = (17 : Int32))) : ∃ M1, kG φ yt (iI v) v3 M = kC φ yt v3 (iI v) M1 ∧ CYs t yt g ys B n (nx B n p) F nn N c d Y U M1 ∧ cGo t M M1 := by
  obtain ⟨M1, r1, r2, r3⟩ := c_goOn S.1.1
  refine ⟨M1, ?_, S.go e r2 r3, r3⟩
  unfold kG
  rw [S.1.2.2.2.1, ldr_ok e.1.1, sbind, r1, bdP, if_neg hv]
theorem c_kG17 {φ : Nat} {v3 : Int32} {k : Int} (hB : HB B n) (hp : 0 ≤ p ∧ p ≤ n) (e : EY t yt g ys) (S : CYs t yt g ys B n p F nn N c d Y U M) (hk : wv (tok B n (nx B n p)) = k) : ((k = 18 ∨ k = 19 ∨ k = 20) → ∃ M1, kG φ yt (iI 17) v3 M = kC φ yt v3 (iI k) M1 ∧ CYs t yt g ys B n (nx B n (nx B n p)) F nn N c d Y U M1 ∧ RCw t yt ys 5 M M1 ∧ ∀ z, ys ≤ z → M1.1 z = M.1 z) ∧ (¬ (k = 18 ∨ k = 19 ∨ k = 20) → CFail t yt ys 5 (fkT (tok B n (nx B n p)) 2) (tok B n (nx B n p)).2.1 M (kG φ yt (iI 17) v3 M)) := by
  have nb := nx_b hB hp
  have w := hB.w nb.1
  obtain ⟨M1, r1, r2, r3⟩ := c_goOn S.1.1
  have S1 := S.go e r2 r3
  have ew := c_word w S1.1.1
  rw [hk] at ew
  have kb := wv_bd w
  rw [hk] at kb
  have eq : kG φ yt (iI 17) v3 M = jn ((ldr 6 (M1.2.2 yt 2)).bind fun vr30 => bd (fX6_goOn vr30 M1) fun vu31 M32 => kC φ yt v3 (iI k) M32) (fun J29 => if iI k = (18 : Int32) then J29 else if iI k = (19 : Int32) then J29 else if iI k = (20 : Int32) then J29 else cF yt 2 M1) := by
    unfold kG
    rw [S.1.2.2.2.1, ldr_ok e.1.1, sbind, r1, bdP, if_pos (show iI 17 = (17 : Int32) from rfl), S1.1.2.2.2.1, ldr_ok e.1.1, sbind, ew, sbind]
  have ne : ∀ a : Int, 0 ≤ a ∧ a < 24 → k ≠ a → ¬ (iI k = iI a) := fun a ha h q => h (by rw [iI_eq (by omega) (by omega)] at q; exact q)
  refine ⟨fun q => ?_, fun q => ?_⟩
  · obtain ⟨M2, s1, s2, s3⟩ := c_goOn S1.1.1
    refine ⟨M2, ?_, S1.go e s2 s3, (r3.rw).trans s3.rw, fun z hz => by rw [(s3.2.2 z (by have := e.2; omega)).1, (r3.2.2 z (by have := e.2; omega)).1]⟩
    have ej : ((ldr 6 (M1.2.2 yt 2)).bind fun vr30 => bd (fX6_goOn vr30 M1) fun vu31 M32 => kC φ yt v3 (iI k) M32) = kC φ yt v3 (iI k) M2 := by
      rw [S1.1.2.2.2.1, ldr_ok e.1.1, sbind, s1, bdP]
    rw [eq, jn_eq, ej]
    rcases q with z | z | z
    · rw [z, if_pos (show iI 18 = (18 : Int32) from rfl)]
    · rw [z, if_neg (by decide), if_pos (show iI 19 = (19 : Int32) from rfl)]
    · rw [z, if_neg (by decide), if_neg (by decide), if_pos (show iI 20 = (20 : Int32) from rfl)]
  · refine CFail.le r3.rw ?_
    have := c_cF (k := 2) hB nb.1 e S1.1
    have n18 : ¬ (iI k = (18 : Int32)) := ne 18 (by omega) (by omega)
    have n19 : ¬ (iI k = (19 : Int32)) := ne 19 (by omega) (by omega)
    have n20 : ¬ (iI k = (20 : Int32)) := ne 20 (by omega) (by omega)
    rw [eq, jn_eq, if_neg n18, if_neg n19, if_neg n20]
    exact this
/-! the reference -/
theorem m_kS1 {φ : Nat} {v : Int} {v2 v3 : Int32} (S : MYs m B n p F nn N c d Y U M) (hv : (13 ≤ v ∧ v ≤ 20) ∧ v ≠ 19) (op : Bool) (hc : 0 ≤ c ∧ c < 30) (hd : 0 ≤ d ∧ d ≤ 3) (hop : op = true → d < 3) : kS φ m (iI v) v2 v3 (bI op) M = kA φ m (iI v) v2 v3 (bI op) (iI 1) M := by
  obtain ⟨s1, s2, ⟨s3, s4⟩, s5⟩ := S
  have n19 : ¬ (iI v = (19 : Int32)) := by
    show ¬ (iI v = iI 19)
    rw [iI_eq (by omega) (by omega)]
    exact hv.2
  have l13 : ¬ (iI v < (13 : Int32)) := by
    show ¬ (iI v < iI 13)
    rw [iI_lt (by omega) (by omega)]
    omega
  have l20 : ¬ ((20 : Int32) < iI v) := by
    show ¬ (iI 20 < iI v)
    rw [iI_lt (by omega) (by omega)]
    omega
  have n30 : ¬ (iI c = (30 : Int32)) := by
    show ¬ (iI c = iI 30)
    rw [iI_eq (by omega) (by omega)]
    omega
  unfold kS
  rw [if_neg l13, if_neg l20, jn_eq, jn_eq, jn_eq, if_neg n19, if_neg n19, s4, if_neg n30, if_neg n19]
  cases op with
  | false => rw [bI_f, if_pos i0e]; rfl
  | true =>
    have n3 : ¬ (iI d = (3 : Int32)) := by
      have := hop rfl
      show ¬ (iI d = iI 3)
      rw [iI_eq (by omega) (by omega)]
      omega
    rw [bI_t, if_neg i1n, s3, if_neg n3]; rfl
theorem m_kS6 {φ : Nat} {v : Int} {v2 v3 v4 : Int32} (S : MYs m B n p F nn N c d Y U M) (hv : (13 ≤ v ∧ v ≤ 20) ∧ v ≠ 19) (hc : c = 30) : kS φ m (iI v) v2 v3 v4 M = kF φ m (iI 6) M := by
  obtain ⟨s1, s2, ⟨s3, s4⟩, s5⟩ := S
  have n19 : ¬ (iI v = (19 : Int32)) := by
    show ¬ (iI v = iI 19)
    rw [iI_eq (by omega) (by omega)]
    exact hv.2
  have l13 : ¬ (iI v < (13 : Int32)) := by
    show ¬ (iI v < iI 13)
    rw [iI_lt (by omega) (by omega)]
    omega
  have l20 : ¬ ((20 : Int32) < iI v) := by
    show ¬ (iI 20 < iI v)
    rw [iI_lt (by omega) (by omega)]
    omega
  unfold kS
  rw [if_neg l13, if_neg l20, jn_eq, jn_eq, jn_eq, if_neg n19, if_neg n19, s4, hc, if_pos (show iI 30 = (30 : Int32) from rfl)]
  rfl
theorem m_kS7 {φ : Nat} {v : Int} {v2 v3 : Int32} (S : MYs m B n p F nn N c d Y U M) (hv : (13 ≤ v ∧ v ≤ 20) ∧ v ≠ 19) (hc : 0 ≤ c ∧ c < 30) (hd : d = 3) : kS φ m (iI v) v2 v3 (bI true) M = kF φ m (iI 7) M := by
  obtain ⟨s1, s2, ⟨s3, s4⟩, s5⟩ := S
  have n19 : ¬ (iI v = (19 : Int32)) := by
    show ¬ (iI v = iI 19)
    rw [iI_eq (by omega) (by omega)]
    exact hv.2
  have l13 : ¬ (iI v < (13 : Int32)) := by
    show ¬ (iI v < iI 13)
    rw [iI_lt (by omega) (by omega)]
    omega
  have l20 : ¬ ((20 : Int32) < iI v) := by
    show ¬ (iI 20 < iI v)
    rw [iI_lt (by omega) (by omega)]
    omega
  have n30 : ¬ (iI c = (30 : Int32)) := by
    show ¬ (iI c = iI 30)
    rw [iI_eq (by omega) (by omega)]
    omega
  unfold kS
  rw [if_neg l13, if_neg l20, jn_eq, jn_eq, jn_eq, if_neg n19, if_neg n19, s4, if_neg n30, if_neg n19, bI_t, if_neg i1n, s3, hd, if_pos (show iI 3 = (3 : Int32) from rfl)]
  rfl
theorem m_kS2 {φ : Nat} {v : Int} {v2 v3 v4 : Int32} (hv : -1 ≤ v ∧ v < 24 ∧ ¬ (13 ≤ v ∧ v ≤ 20)) : kS φ m (iI v) v2 v3 v4 M = kF φ m (iI 2) M := by
  unfold kS
  by_cases q : v < 13
  · have l13 : iI v < (13 : Int32) := by
      show iI v < iI 13
      rw [iI_lt (by omega) (by omega)]
      exact q
    rw [if_pos l13]
    rfl
  · have l13 : ¬ (iI v < (13 : Int32)) := by
      show ¬ (iI v < iI 13)
      rw [iI_lt (by omega) (by omega)]
      exact q
    have l20 : (20 : Int32) < iI v := by
      show iI 20 < iI v
      rw [iI_lt (by omega) (by omega)]
      omega
    rw [if_neg l13, if_pos l20]
    rfl
theorem m_rowB {φ : Nat} (hφ : 2000 < φ) (hB : HB B n) (hN : 0 ≤ N ∧ N < 60) (S : MYs m B n p F nn N c d Y U M) (v : Int) (v4 : Int32) : ∃ M23, kA φ m (iI v) (iI N) (iI (2880 + 6 * N)) v4 (iI 1) M = kRt φ m (iI v) (iI N) (iI (2880 + 6 * N)) v4 (fX11_yearOrder φ m (iI v) (iI (2880 + 6 * N)) M23) ∧ MRb m B n (nx B n p) F nn N c d Y U v M M23 := by
  obtain ⟨M23, r1, r2, r3, r4, r5, r6, r7, r8, r9, r10⟩ := m_rowBegin hφ hB hN S v v4 1
  exact ⟨M23, r1, S.2.1, r2, ⟨r3, r4⟩, fun k k0 k1 => by rw [r5]; exact S.2.2.2 k k0 k1, r6, r7, r8, r9, r10⟩
theorem m_stepv {φ : Nat} (hφ : 2000 < φ) (hB : HB B n) (S : MYs m B n p F nn N c d Y U M) {v : Int} (hv : pr (wv (tok B n p)) = v) (hb : -1 ≤ v ∧ v < 24) (op : Bool) (hop : op = decide (v = 17 ∨ v = 18)) : fX11_step φ m M = kS φ m (iI v) (iI N) (iI (2880 + 6 * N)) (bI op) M := by
  have e0 := m_words hφ hB.1 hB.2 S.1.1
  rw [hv] at e0
  rw [m_step_eq e0 S.2.1.1]
  have ne : ∀ a : Int, 0 ≤ a ∧ a < 24 → v ≠ a → ¬ (iI v = iI a) := fun a ha h q => h (by rw [iI_eq (by omega) (by omega)] at q; exact q)
  by_cases q : v = 17
  · rw [hop, decide_eq_true (Or.inl q), q, if_pos (show iI 17 = (17 : Int32) from rfl)]
    rfl
  · by_cases q2 : v = 18
    · rw [hop, decide_eq_true (Or.inr q2), q2, if_neg (by decide), if_pos (show iI 18 = (18 : Int32) from rfl)]
      rfl
    · have n17 : ¬ (iI v = (17 : Int32)) := ne 17 (by omega) q
      have n18 : ¬ (iI v = (18 : Int32)) := ne 18 (by omega) q2
      rw [hop, decide_eq_false (by omega), if_neg n17, if_neg n18]
      rfl
end YW1
