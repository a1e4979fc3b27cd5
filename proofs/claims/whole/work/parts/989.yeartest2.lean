/-! a test's row, an end's row -/
def fl1 (f : Option (Int32 × Mem)) : Option (Int32 × Mem) := bd f fun v M => if v = 0 ∨ v = 1 then some (v, M) else none
theorem pl_5 (v : Int) : iI v + (5 : Int32) = iI (v + 5) := by rw [k_5, iI_add]
theorem pl_4 (v : Int) : iI v + (4 : Int32) = iI (v + 4) := by rw [k_4, iI_add]
section YT2
variable {t yt g ys m : Nat} {B : Int → Int} {n p N c d : Int} {F : Fld} {nn : NMs} {M : Mem} {Y : Yr} {U : Int → Int}
theorem y_t1k {φ : Nat} (hφ : 2000 < φ) (hB : HB B n) (hp : 0 ≤ p ∧ p ≤ n) (dw : DX F nn) (hN : 0 ≤ N ∧ N < 60) : RP (fun yt M => fX9_passRest φ yt (iI N) (iI 18) M) (fun m M => fl1 (kT1 φ m (2880 + 6 * N) M)) B n p F nn N (fun lc lm => ∃ x y z, (0 ≤ x ∧ x < F 0 1 0) ∧ (60 ≤ y ∧ y ≤ 62) ∧ (0 ≤ z ∧ z ≤ 9999) ∧ lc = [(2, x), (3, y), (4, z)] ∧ lm = [(1, x), (5, y), (2, z)]) := by
  refine (y_t1 hφ hB hp dw hN).to (fun t yt g ys M e S v M1 hv h => h) (fun m M S v M1 hv h => bd_one hv ?_)
  have h : (bd (bd (fX11_holeTo φ m (iI (2880 + 6 * N + 1)) M) fun v M1 => if v = 0 then some ((0 : Int32), M1) else kSn φ m (2880 + 6 * N) M1) fun v M1 => if v = 0 then some ((0 : Int32), M1) else fX11_number φ m (iI (2880 + 6 * N + 2)) (iI 0) (iI 9999) M1) = some (v, M1) := h
  rcases y_hole hφ hB hp dw hN (c := 1) (by omega) with ⟨fk, fp, _, _, hm⟩ | ⟨x, p', hp', hx, _, hm⟩
  · obtain ⟨M7, r, _⟩ := hm m M S
    have r : fX11_holeTo φ m (iI (2880 + 6 * N + 1)) M = some (iI 0, M7) := r
    rw [r, bdP, if_pos i0e, bdP, if_pos rfl] at h
    unfold kT1
    rw [r, bdP, if_pos i0e]
    exact h
  · obtain ⟨M7, r, S7, _⟩ := hm m M S
    have r : fX11_holeTo φ m (iI (2880 + 6 * N + 1)) M = some (iI 1, M7) := r
    rw [r, bdP, if_neg i1n] at h
    unfold kT1
    rw [r, bdP, if_neg i1n, kSg_eq hB hN S7]
    exact bd_two' hv h
theorem y_t2k {φ : Nat} {k : Int} (hk : k = 19 ∨ k = 20) (hφ : 2000 < φ) (hB : HB B n) (hp : 0 ≤ p ∧ p ≤ n) (dw : DX F nn) (hN : 0 ≤ N ∧ N < 60) : RP (fun yt M => fX9_passRest φ yt (iI N) (iI k) M) (fun m M => fl1 (kT2 φ m (2880 + 6 * N) M)) B n p F nn N (fun lc lm => ∃ x y, (0 ≤ x ∧ x < F 0 1 0) ∧ (0 ≤ y ∧ y < F 0 0 0) ∧ lc = [(2, x), (3, y)] ∧ lm = [(1, x), (2, y)]) :=
  (y_t2 hk hφ hB hp dw hN).to (fun t yt g ys M e S v M1 hv h => h) (fun m M S v M1 hv h => bd_one hv h)
/-- the reference reads a test's word -/
theorem m_test {φ : Nat} (hφ : 2000 < φ) (hB : HB B n) (hp : 0 ≤ p ∧ p ≤ n) (hN : 0 ≤ N ∧ N < 60) {M M23 : Mem} {k : Int} (R : MRb m B n p F nn N c d Y U 17 M M23) (hk : wv (tok B n p) = k) : (k = 18 → ∃ M5, fX11_yearOrder φ m (iI 17) (iI (2880 + 6 * N)) M23 = fl1 (kT1 φ m (2880 + 6 * N) M5) ∧ MRb m B n (nx B n p) F nn N c d Y U 1721 M M5) ∧ (k = 19 ∨ k = 20 → ∃ M5, fX11_yearOrder φ m (iI 17) (iI (2880 + 6 * N)) M23 = fl1 (kT2 φ m (2880 + 6 * N) M5) ∧ MRb m B n (nx B n p) F nn N c d Y U (1703 + k) M M5) ∧ (¬ (k = 18 ∨ k = 19 ∨ k = 20) → MFail m (fkT (tok B n p) 2) (tok B n p).2.1 M23 (fX11_yearOrder φ m (iI 17) (iI (2880 + 6 * N)) M23)) := by
  have w := hB.w hp
  have kb := wv_bd w
  rw [hk] at kb
  obtain ⟨b1, b2, b3, b4, b5, b6, b7, b8, b9⟩ := R
  have ew := m_words hφ hB.1 hB.2 b2.1
  rw [hk] at ew
  -- the row's kind is written over, the reader goes on
  have go : ∀ v : Int, ∃ M5, fX11_ahead φ m (stI M23 (m + 1) (2880 + 6 * N).toNat (iI v)) = some ((), M5) ∧ MRb m B n (nx B n p) F nn N c d Y U v M M5 := fun v => by
    obtain ⟨M5, g1, g2, g3⟩ := m_goOn hφ hB.1 hB.2 (b2.1.st (2880 + 6 * N).toNat (iI v))
    obtain ⟨s1, s2, s3⟩ := b2.ah (e := 2880 + 6 * N) (v := iI v) (by omega) g2 g3
    have k5 : M5.1 (m + 8) = M23.1 (m + 8) := (s2.2.2.2 (m + 8) (by omega)).1
    refine ⟨M5, g1, b1, s1, ⟨by rw [s2.1 21 (by omega) (by omega) (by omega) (by omega)]; exact b3.1, by rw [s2.1 22 (by omega) (by omega) (by omega) (by omega)]; exact b3.2⟩, fun k k0 k1 => by rw [k5]; exact b4 k k0 k1, by rw [s3, rI_nk (by omega)]; exact b5, fun e e0 e1 => by rw [s3, rI_nk (by omega)]; exact b6 e e0 e1, by rw [s3]; exact rI_at rfl rfl, fun k k0 k1 => by rw [s3, rI_nk (by omega)]; exact b8 k k0 k1, b9.trans s2.yx⟩
  have eo : fX11_yearOrder φ m (iI 17) (iI (2880 + 6 * N)) M23 = fl1 (fX11_test φ m (iI (2880 + 6 * N)) M23) := by
    unfold fX11_yearOrder fl1
    rw [if_neg (by decide), if_neg (by decide), if_neg (by decide), if_neg (by decide), if_pos (show iI 17 = (17 : Int32) from rfl)]
  have e17 : (iI (2880 + 6 * N)).toNatClampNeg = (2880 + 6 * N).toNat := iI_nat (by omega)
  refine ⟨fun q => ?_, fun q => ?_, fun q => ?_⟩
  · obtain ⟨M5, g1, R5⟩ := go 1721
    refine ⟨M5, ?_, R5⟩
    rw [q] at ew
    have ew : fX11_inWords φ m 1002 M23 = some (iI 21) := ew
    have q21 : iI 21 = (21 : Int32) := rfl
    have e21 : (1700 : Int32) + iI 21 = iI 1721 := by rw [k_1700, iI_add]; rfl
    rw [eo]
    refine congrArg fl1 ?_
    unfold fX11_test kT1 kSg
    rw [ew, sbind, jn_eq, if_pos q21, ixkI (by omega), e17, e21, nm_eq, g1, bdP]
    simp only [if_pos q21, pl_1, pl_2, pl_5]
  · obtain ⟨M5, g1, R5⟩ := go (1703 + k)
    refine ⟨M5, ?_, R5⟩
    have ew : fX11_inWords φ m 1002 M23 = some (iI (k + 3)) := by
      rcases q with z | z <;> rw [z] at ew ⊢ <;> exact ew
    have n21 : ¬ (iI (k + 3) = (21 : Int32)) := by rcases q with z | z <;> rw [z] <;> decide
    have q22 : iI (k + 3) = (22 : Int32) ∨ ¬ (iI (k + 3) = (22 : Int32)) ∧ iI (k + 3) = (23 : Int32) := by
      rcases q with z | z
      · rw [z]; exact Or.inl rfl
      · rw [z]; exact Or.inr ⟨by decide, rfl⟩
    have e21 : (1700 : Int32) + iI (k + 3) = iI (1703 + k) := by
      rw [k_1700, iI_add, show 1700 + (k + 3) = 1703 + k by omega]
    rw [eo]
    refine congrArg fl1 ?_
    unfold fX11_test kT2
    rcases q22 with z | ⟨z1, z2⟩
    · rw [ew, sbind, jn_eq, if_neg n21, if_pos z, ixkI (by omega), e17, e21, nm_eq, g1, bdP]
      simp only [if_neg n21, pl_1, pl_2]
    · rw [ew, sbind, jn_eq, if_neg n21, if_neg z1, if_pos z2, ixkI (by omega), e17, e21, nm_eq, g1, bdP]
      simp only [if_neg n21, pl_1, pl_2]
  · have pb := pr_bd kb
    have np : ∀ a b : Int, (-1 ≤ a ∧ a < 24) → k ≠ a → pr a = b → ¬ (iI (pr k) = iI b) := fun a b ha h e => by
      have := pr_bd ha
      rw [← e, iI_eq (by omega) (by omega), pr_inj kb ha]
      exact h
    have n21 : ¬ (iI (pr k) = (21 : Int32)) := np 18 21 (by omega) (by omega) rfl
    have n22 : ¬ (iI (pr k) = (22 : Int32)) := np 19 22 (by omega) (by omega) rfl
    have n23 : ¬ (iI (pr k) = (23 : Int32)) := np 20 23 (by omega) (by omega) rfl
    have cr : fX11_fails m (2 : Int32) M23 = _ := m_fails hB.2 b2.1 b2.2.2.2 2
    refine MFail.of M23 ?_
    rw [eo]
    unfold fX11_test fl1
    rw [ew, sbind, jn_eq, if_neg n21, if_neg n22, if_neg n23, cr, bdP, if_pos (Or.inl i0e), bdP, if_pos (Or.inl i0e)]
/-- an end's row -/
def eR (o : Int) : Int → Int := fun c => if c = 0 then 19 else if c = 4 then o else 0
theorem c_close (hB : HB B n) (hp : 0 ≤ p ∧ p ≤ n) (e : EY t yt g ys) (D : YDw F Y N c d U) (hd : 0 < d) (hN : 0 ≤ N ∧ N < 60) (S : CYs t yt g ys B n p F nn N c d Y U M) : (isSg (tok B n (nx B n p)) 59 = true → ∃ M1, fX9_passEnd yt M = some (iI 1, M1) ∧ CYs t yt g ys B n (nx B n (nx B n p)) F nn (N + 1) c (d - 1) (dy_row (dy_lnk Y (U (d - 1)) N) N (eR (U (d - 1)))) U M1 ∧ RCw t yt ys 5 M M1) ∧ (isSg (tok B n (nx B n p)) 59 = false → CFail t yt ys 5 (fkT (tok B n (nx B n p)) 2) (tok B n (nx B n p)).2.1 M (fX9_passEnd yt M)) := by
  have nb := nx_b hB hp
  obtain ⟨⟨d0, c0, cn, nd⟩, ws, s1, s2, opn, en, ne⟩ := D
  obtain ⟨o, ho⟩ : ∃ o, o = U (d - 1) := ⟨_, rfl⟩
  obtain ⟨p1, p2, p3⟩ := s1 (d - 1) (by omega) (by omega)
  rw [← ho] at p1 p2 p3 ⊢
  have S0 := S
  obtain ⟨S1, S2, S3, S4⟩ := S
  have h2 := e.2
  obtain ⟨M8, a1, a2, a3, a4, a5, a6, a7, a8, a9, a10, a11⟩ := c_endRow (yt := yt) (ys := ys) (c := c) (by omega) e.1.2.2 S1.2.2.2.2.2 hN S2.1.2 S2.1.1 ⟨hd, by omega⟩ S3 p1 (by rw [S4 (d - 1) (by omega) (by omega), ← ho])
  have T1 : CYo t yt g ys B n p F nn M8 := S1.fr e a11 (fun z q => by omega) (by rw [a10])
  have x8 : RCw t yt ys 5 M M8 := ⟨fun i _ _ _ => by rw [(a11 t (by omega)).1], by rw [a10], a11.mono (fun z q => by omega)⟩
  have T2 : YCd ys (N + 1) c (d - 1) (dy_row (dy_lnk Y o N) N (eR o)) U M8 := by
    refine ⟨⟨a5, a4⟩, fun x x0 x1 => ?_⟩
    by_cases q : x = N
    · rw [q]
      unfold rowC y_o y_n
      simp only [yp_t]
      show M8.1 (ys + 1) N.toNat = iI (y_k 19) ∧ ((19 : Int) ≠ 15 → (19 : Int) ≠ 18 → (19 : Int) ≠ 19 → _ → _) ∧ ((19 : Int) = 13 ∨ 1700 ≤ (19 : Int) → _) ∧ ((19 : Int) ≠ 19 → _ → _ → _) ∧ ((18 : Int) ≤ 19 → (19 : Int) ≠ 20 → _ → M8.1 (ys + 5) N.toNat = iI o)
      exact ⟨a6, fun _ _ h _ => absurd rfl h, fun h => by omega, fun h _ _ => absurd rfl h, fun _ _ _ => a7⟩
    · have z1 : ∀ k, k ≠ 4 → dy_row (dy_lnk Y o N) N (eR o) x k = Y x k := fun k hk => by rw [yp_o _ _ _ q, yl_o _ (Or.inr hk)]
      have rw0 := S2.2 x x0 (by omega)
      by_cases q2 : x = o
      · obtain ⟨r1, r2, r3, r4, r5⟩ := rw0
        have c14 : ∀ j, 1 ≤ j → j ≤ 4 → M8.1 (ys + j) x.toNat = M.1 (ys + j) x.toNat := fun j j1 j4 => a9 j _ j1 (by omega) (by omega) (Or.inl (by omega))
        unfold rowC y_o y_n at *
        rw [z1 0 (by omega), z1 1 (by omega), z1 2 (by omega), z1 3 (by omega), z1 5 (by omega), c14 1 (by omega) (by omega), c14 2 (by omega) (by omega), c14 3 (by omega) (by omega), c14 4 (by omega) (by omega)]
        refine ⟨r1, r2, r3, r4, fun _ _ _ => ?_⟩
        rw [yp_o _ _ _ q, q2, yl_t]
        exact a8
      · refine rw0.eq (fun l k k0 k1 => ?_) (fun k => ?_) (fun j j1 j5 => a9 j _ j1 j5 (by omega) (Or.inr (by omega)))
        · by_cases z : k = d - 1
          · rw [z, ← ho]
            exact fun h => q2 h.symm
          · exact l k k0 (by omega)
        · rw [yp_o _ _ _ q, yl_o _ (Or.inl q2)]
  obtain ⟨M9, g1, g2, g3⟩ := c_goOn T1.1
  have T9 := T1.go2 e g2 g3
  have e9 : fX9_passEnd yt M = (ldr 6 (M9.2.2 yt 2)).bind fun vr12 => bd (fX6_passSemicolon vr12 M9) fun v13 M14 => if v13 = 0 ∨ v13 = 1 then some (v13, M14) else none := by
    rw [a1]
    unfold kEc
    rw [T1.2.2.2.1, ldr_ok e.1.1, sbind, g1, bdP]
  have w := hB.w nb.1
  obtain ⟨u1, u2⟩ := c_passSemi w T9.1
  rw [e9, T9.2.2.2.1, ldr_ok e.1.1, sbind]
  refine ⟨fun q => ?_, fun q => ?_⟩
  · obtain ⟨M10, v1, v2, v3⟩ := u1 q
    have f : ∀ z, z ≠ t → M10.1 z = M8.1 z := fun z h => by rw [(v3.2.2 z h).1, (g3.2.2 z h).1]
    refine ⟨M10, by rw [v1, bdP, if_pos (Or.inr (show iI 1 = (1 : Int32) from rfl))], ⟨T9.go2 e v2 v3, T2.cell (fun z hz => f z (by omega)), by rw [f yt (by omega)]; exact a2, fun k k0 k1 => by rw [f (yt + 1) (by omega), a3]; exact S4 k k0 (by omega)⟩, (x8.trans g3.rw).trans v3.rw⟩
  · refine CFail.le (x8.trans g3.rw) (CFail.of M9 ?_)
    rw [u2 q, bdP, if_pos (Or.inl i0e)]
theorem m_close {φ : Nat} (hφ : 2000 < φ) (hB : HB B n) (hp : 0 ≤ p ∧ p ≤ n) (D : YDw F Y N c d U) (hd : 0 < d) (hN : 0 ≤ N ∧ N < 60) (S : MYs m B n p F nn N c d Y U M) (v4 : Int32) (h4 : v4 = 0) : (isSg (tok B n (nx B n p)) 59 = true → ∃ M1, kA φ m (iI 19) (iI N) (iI (2880 + 6 * N)) v4 (iI 0) M = some (iI 1, M1) ∧ MYs m B n (nx B n (nx B n p)) F nn (N + 1) c (d - 1) (dy_row (dy_lnk Y (U (d - 1)) N) N (eR (U (d - 1)))) U M1 ∧ mYx m M M1) ∧ (isSg (tok B n (nx B n p)) 59 = false → MFy m (fkT (tok B n (nx B n p)) 2) (tok B n (nx B n p)).2.1 M (kA φ m (iI 19) (iI N) (iI (2880 + 6 * N)) v4 (iI 0) M)) := by
  have nb := nx_b hB hp
  obtain ⟨⟨d0, c0, cn, nd⟩, ws, s1, s2, opn, en, ne⟩ := D
  obtain ⟨o, ho⟩ : ∃ o, o = U (d - 1) := ⟨_, rfl⟩
  obtain ⟨p1, p2, p3⟩ := s1 (d - 1) (by omega) (by omega)
  rw [← ho] at p1 p2 p3 ⊢
  obtain ⟨M3, r1, r2, r3, r4, r5, r6, r7, r8, r9, r10⟩ := m_rowBegin hφ hB hN S 19 v4 0
  obtain ⟨S1, S2, S3, S4⟩ := S
  have q8 : ∀ k : Int, 0 ≤ k → k < d → M3.1 (m + 8) k.toNat = iI (U k) := fun k k0 k1 => by rw [r5]; exact S4 k k0 k1
  obtain ⟨M4, hM4⟩ : ∃ M4, M4 = stI M3 m 21 (iI (d - 1)) := ⟨_, rfl⟩
  obtain ⟨M5, hM5⟩ : ∃ M5, M5 = stI M4 (m + 1) (2880 + 6 * N + 4).toNat (iI o) := ⟨_, rfl⟩
  obtain ⟨M6, hM6⟩ : ∃ M6, M6 = stI M5 (m + 1) (2880 + 6 * o + 4).toNat (iI N) := ⟨_, rfl⟩
  have x6 : mYx m M3 M6 := by
    rw [hM6, hM5, hM4]
    exact ((mYx.cell (Or.inl rfl) _ _).trans (mYx.row (by omega) _ _)).trans (mYx.row (by omega) _ _)
  have c21 : M4.1 m 21 = iI (d - 1) := by rw [hM4]; exact rI_at rfl rfl
  have c21' : M5.1 m 21 = iI (d - 1) := by rw [hM5, rI_ng (by omega)]; exact c21
  have t4 : M4.1 (m + 8) (d - 1).toNat = iI o := by rw [hM4, rI_ng (by omega), q8 (d - 1) (by omega) (by omega), ← ho]
  have t5 : M5.1 (m + 8) (d - 1).toNat = iI o := by rw [hM5, rI_ng (by omega)]; exact t4
  have T6 : MYo m B n (nx B n p) F nn M6 := r2.x (r2.1.eq (fun i i0 i1 => by rw [hM6, rI_ng (by omega), hM5, rI_ng (by omega), hM4, rI_nk (by omega)]) (by funext i; rw [hM6, rI_ng (by omega), hM5, rI_ng (by omega), hM4, rI_ng (by omega)])) x6
  have ek : kA φ m (iI 19) (iI N) (iI (2880 + 6 * N)) v4 (iI 0) M = fl1 (fX11_wantSign φ m (59 : Int32) M6) := by
    have e0 : fX11_yearOrder φ m (iI 19) (iI (2880 + 6 * N)) M3 = some (iI 1, M3) := by
      unfold fX11_yearOrder
      rw [if_neg (by decide), if_neg (by decide), if_neg (by decide), if_neg (by decide), if_neg (by decide), if_neg (by decide)]
      rfl
    have e6 : (2880 : Int32) + (6 : Int32) * iI o + (4 : Int32) = iI (2880 + 6 * o + 4) := by rw [k_2880, k_6, iI_mul, iI_add, pl_4]
    rw [r1, e0]
    unfold kRt kRn
    rw [bdP, if_neg i1n, if_pos h4, if_pos (show iI 19 = (19 : Int32) from rfl), r3, k_1, iI_sub, nm_eq, ← hM4, c21, ixkI (by omega), pl_4, ixkI (by omega), iI_nat (by omega), iI_nat (by omega), t4, nm_eq, ← hM5, c21', ixkI (by omega), iI_nat (by omega), t5, e6, ixkI (by omega), iI_nat (by omega), nm_eq, ← hM6]
    rfl
  have x := r10.trans x6
  obtain ⟨u1, u2⟩ := m_wSign hφ hB.1 hB.2 T6.1 T6.2.2.2
  have z59 : (59 : Int32) = iI 59 := rfl
  have z : MYs m B n (nx B n p) F nn (N + 1) c (d - 1) (dy_row (dy_lnk Y o N) N (eR o)) U M6 := by
    refine ⟨T6, ⟨by rw [hM6, rI_nk (by omega), hM5, rI_nk (by omega), hM4, rI_ng (by omega)]; exact r6, fun x k x0 x1 k0 k1 => ?_⟩, ⟨by rw [hM6, rI_ng (by omega)]; exact c21', by rw [hM6, rI_ng (by omega), hM5, rI_ng (by omega), hM4, rI_nk (by omega), r4, Int.add_zero]⟩, fun k k0 k1 => by rw [hM6, rI_ng (by omega), hM5, rI_ng (by omega), hM4, rI_ng (by omega)]; exact q8 k k0 (by omega)⟩
    by_cases q : x = N
    · rw [q, yp_t]
      by_cases z4 : k = 4
      · rw [z4, hM6, rI_nk (by omega), hM5]
        exact rI_at rfl rfl
      · rw [hM6, rI_nk (by omega), hM5, rI_nk (by omega), hM4, rI_ng (by omega)]
        by_cases z0 : k = 0
        · rw [z0, Int.add_zero]
          exact r8
        · rw [r9 k (by omega) k1]
          show _ = iI (if k = 0 then 19 else if k = 4 then o else 0)
          rw [if_neg z0, if_neg z4]
    · rw [yp_o _ _ _ q]
      by_cases q2 : x = o ∧ k = 4
      · rw [q2.1, q2.2, yl_t, hM6]
        exact rI_at rfl rfl
      · rw [yl_o _ (by omega), hM6, rI_nk (by omega), hM5, rI_nk (by omega), hM4, rI_ng (by omega), r7 _ (by omega) (by omega)]
        exact S2.2 x k x0 (by omega) k0 k1
  rw [ek]
  refine ⟨fun q => ?_, fun q => ?_⟩
  · obtain ⟨M7, v1, v2, v3⟩ := u1 q
    have f1 : M7.1 (m + 1) = M6.1 (m + 1) := (v3.2.2 (m + 1) (by omega)).1
    refine ⟨M7, ?_, ⟨T6.x v2 v3.yx, ⟨by rw [f1]; exact z.2.1.1, fun x k x0 x1 k0 k1 => by rw [f1]; exact z.2.1.2 x k x0 x1 k0 k1⟩, ⟨by rw [v3.1 21 (by omega) (by omega) (by omega) (by omega)]; exact z.2.2.1.1, by rw [v3.1 22 (by omega) (by omega) (by omega) (by omega)]; exact z.2.2.1.2⟩, fun k k0 k1 => by rw [(v3.2.2 (m + 8) (by omega)).1]; exact z.2.2.2 k k0 k1⟩, x.trans v3.yx⟩
    unfold fl1
    rw [z59, v1, bdP, if_pos (Or.inr (show iI 1 = (1 : Int32) from rfl))]
  · refine MFy.le x.yw (MFail.y (MFail.of M6 ?_))
    unfold fl1
    rw [z59, u2 q, bdP, if_pos (Or.inl i0e)]
end YT2
