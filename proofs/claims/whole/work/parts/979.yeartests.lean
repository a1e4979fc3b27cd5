/-! a test's row behind its word, on both sides -/
def kSg (φ m : Nat) (v : Int) (M7 : Mem) : Option (Int32 × Mem) := (fX11_isSign m (60 : Int32) M7).bind fun v8 =>
 jn (ixk (iI (v + 5)) 3900 (nm (stI M7 (m + 1) (iI (v + 5)).toNatClampNeg (M7.1 m 15)) (fun M10 =>
 bd (fX11_ahead φ m M10) fun vu11 M12 =>
 bd (fX11_number φ m (iI (v + 2)) (0 : Int32) (9999 : Int32) M12) fun v13 M14 =>
 if v13 = 0 ∨ v13 = 1 then some (v13, M14) else none))) (fun J9 => if v8 = 0 then
 (fX11_isSign m (62 : Int32) M7).bind fun v16 =>
 if v16 = 0 then
 (fX11_isSign m (61 : Int32) M7).bind fun v17 =>
 if v17 = 0 then
 bd (fX11_fails m (2 : Int32) M7) fun v18 M19 =>
 if v18 = 0 ∨ v18 = 1 then some (v18, M19) else none
 else
 J9
 else
 J9
 else
 J9)
def kT1 (φ m : Nat) (v : Int) (M5 : Mem) : Option (Int32 × Mem) := bd (fX11_holeTo φ m (iI (v + 1)) M5) fun v6 M7 => if v6 = 0 then some ((0 : Int32), M7) else kSg φ m v M7
def kT2 (φ m : Nat) (v : Int) (M5 : Mem) : Option (Int32 × Mem) := bd (fX11_holeTo φ m (iI (v + 1)) M5) fun v6 M7 => if v6 = 0 then some ((0 : Int32), M7) else bd (fX11_rockTo φ m (iI (v + 2)) M7) fun v21 M22 => if v21 = 0 ∨ v21 = 1 then some (v21, M22) else none
theorem bd_two' {a : Option (Int32 × Mem)} {b : Mem → Option (Int32 × Mem)} {v : Int32} {M1 : Mem} (hv : v = iI 0 ∨ v = iI 1) (h : (bd a fun v M => if v = 0 then some ((0 : Int32), M) else b M) = some (v, M1)) : (bd a fun v M => if v = 0 then some ((0 : Int32), M) else bd (b M) fun v M => if v = 0 ∨ v = 1 then some (v, M) else none) = some (v, M1) := by
  cases a with
  | none => rw [bd_no] at h; cases h
  | some q =>
    obtain ⟨w, M2⟩ := q
    rw [bdP] at h ⊢
    by_cases z : w = 0
    · rw [if_pos z] at h ⊢
      exact h
    · rw [if_neg z] at h ⊢
      exact bd_one hv h
section YT
variable {B : Int → Int} {n p N : Int} {F : Fld} {nn : NMs}
theorem y_t2 {φ : Nat} {k : Int} (hk : k = 19 ∨ k = 20) (hφ : 2000 < φ) (hB : HB B n) (hp : 0 ≤ p ∧ p ≤ n) (dw : DX F nn) (hN : 0 ≤ N ∧ N < 60) : RP (fun yt M => fX9_passRest φ yt (iI N) (iI k) M) (fun m M => kT2 φ m (2880 + 6 * N) M) B n p F nn N (fun lc lm => ∃ x y, (0 ≤ x ∧ x < F 0 1 0) ∧ (0 ≤ y ∧ y < F 0 0 0) ∧ lc = [(2, x), (3, y)] ∧ lm = [(1, x), (2, y)]) := by
  refine ((((y_hole hφ hB ⟨by omega, by omega⟩ dw hN (c := 1) (by omega)).rp).seq (fun p' h1 h2 => y_rock hφ hB ⟨by omega, by omega⟩ dw hN (c := 2) (by omega))).to (fun t yt g ys M e S v M1 hv h => ?_) (fun m M S v M1 hv h => ?_)).mono (fun lc lm ⟨l1, l2, z, ⟨x, hx, e1, e2⟩, hz, e5, e6⟩ => ⟨x, z, hx, hz, by rw [e5, e1]; rfl, by rw [e6, e2]; rfl⟩)
  · unfold fX9_passRest
    rcases hk with q | q
    · rw [q, if_neg (by decide), if_neg (by decide), if_neg (by decide), if_neg (by decide), if_neg (by decide), if_neg (by decide), if_pos (show iI 19 = (19 : Int32) from rfl)]
      exact bd_two hv h
    · rw [q, if_neg (by decide), if_neg (by decide), if_neg (by decide), if_neg (by decide), if_neg (by decide), if_neg (by decide), if_neg (by decide), if_pos (show iI 20 = (20 : Int32) from rfl)]
      exact bd_two hv h
  · unfold kT2
    exact bd_two' hv h
theorem kSg_eq {φ m : Nat} {M : Mem} (hB : HB B n) (hN : 0 ≤ N ∧ N < 60) (S : MYo m B n p F nn M) : kSg φ m (2880 + 6 * N) M = bd (kSn φ m (2880 + 6 * N) M) fun w M12 => if w = 0 then some ((0 : Int32), M12) else bd (fX11_number φ m (iI (2880 + 6 * N + 2)) (0 : Int32) (9999 : Int32) M12) fun v13 M14 => if v13 = 0 ∨ v13 = 1 then some (v13, M14) else none := by
  have ms : ∀ c : Int, 0 ≤ c ∧ c ≤ 255 → fX11_isSign m (iI c) M = some (bI (isSg (tok B n p) c)) := fun c hc => m_isSign hB.2 S.1 hc
  have k60 : (60 : Int32) = iI 60 := rfl
  have k61 : (61 : Int32) = iI 61 := rfl
  have k62 : (62 : Int32) = iI 62 := rfl
  have cr : fX11_fails m (2 : Int32) M = _ := m_fails hB.2 S.1 S.2.2.2 2
  obtain ⟨J, hJ⟩ : ∃ J, J = (ixk (iI (2880 + 6 * N + 5)) 3900 (nm (stI M (m + 1) (iI (2880 + 6 * N + 5)).toNatClampNeg (M.1 m 15)) (fun M10 => bd (fX11_ahead φ m M10) fun vu11 M12 => bd (fX11_number φ m (iI (2880 + 6 * N + 2)) (0 : Int32) (9999 : Int32) M12) fun v13 M14 => if v13 = 0 ∨ v13 = 1 then some (v13, M14) else none))) := ⟨_, rfl⟩
  obtain ⟨J', hJ'⟩ : ∃ J, J = (ixk (iI (2880 + 6 * N + 5)) 3900 (nm (stI M (m + 1) (iI (2880 + 6 * N + 5)).toNatClampNeg (M.1 m 15)) (fun M10 => bd (fX11_ahead φ m M10) fun vu11 M12 => some (iI 1, M12)))) := ⟨_, rfl⟩
  have ej : J = bd J' fun w M12 => if w = 0 then some ((0 : Int32), M12) else bd (fX11_number φ m (iI (2880 + 6 * N + 2)) (0 : Int32) (9999 : Int32) M12) fun v13 M14 => if v13 = 0 ∨ v13 = 1 then some (v13, M14) else none := by
    rw [hJ, hJ', ixkI (by omega), ixkI (by omega), nm_eq, nm_eq]
    cases h : fX11_ahead φ m (stI M (m + 1) (iI (2880 + 6 * N + 5)).toNatClampNeg (M.1 m 15)) with
    | none => rfl
    | some q =>
      obtain ⟨w, M2⟩ := q
      rw [bdP, bdP, bdP, if_neg i1n]
  unfold kSg kSn
  rw [← hJ, ← hJ', k60, ms 60 (by omega), sbind, sbind, jn_eq, jn_eq, k62, ms 62 (by omega), k61, ms 61 (by omega), cr]
  cases isSg (tok B n p) 60 with
  | true => rw [bI_t, if_neg i1n, if_neg i1n]; exact ej
  | false =>
    rw [bI_f, if_pos i0e, if_pos i0e]
    simp only [sbind]
    cases isSg (tok B n p) 62 with
    | true => rw [bI_t, if_neg i1n, if_neg i1n]; exact ej
    | false =>
      rw [bI_f, if_pos i0e, if_pos i0e]
      cases isSg (tok B n p) 61 with
      | true => rw [bI_t, if_neg i1n, if_neg i1n]; exact ej
      | false =>
        rw [bI_f, if_pos i0e, if_pos i0e, bdP, if_pos (Or.inl i0e), bdP, if_pos i0e]
        rfl
theorem y_t1 {φ : Nat} (hφ : 2000 < φ) (hB : HB B n) (hp : 0 ≤ p ∧ p ≤ n) (dw : DX F nn) (hN : 0 ≤ N ∧ N < 60) : RP (fun yt M => fX9_passRest φ yt (iI N) (iI 18) M) (fun m M => bd (bd (fX11_holeTo φ m (iI (2880 + 6 * N + 1)) M) fun v M1 => if v = 0 then some ((0 : Int32), M1) else kSn φ m (2880 + 6 * N) M1) fun v M1 => if v = 0 then some ((0 : Int32), M1) else fX11_number φ m (iI (2880 + 6 * N + 2)) (iI 0) (iI 9999) M1) B n p F nn N (fun lc lm => ∃ x y z, (0 ≤ x ∧ x < F 0 1 0) ∧ (60 ≤ y ∧ y ≤ 62) ∧ (0 ≤ z ∧ z ≤ 9999) ∧ lc = [(2, x), (3, y), (4, z)] ∧ lm = [(1, x), (5, y), (2, z)]) := by
  refine ((((((y_hole hφ hB ⟨by omega, by omega⟩ dw hN (c := 1) (by omega)).rp).seq (fun p' h1 h2 => y_sign hφ hB ⟨by omega, by omega⟩ hN)).seq (fun p' h1 h2 => y_num hφ hB ⟨by omega, by omega⟩ hN (a := 0) (b := 9999) (c := 2) (by omega) (by omega) (by omega))).to (fun t yt g ys M e S v M1 hv h => ?_) (fun m M S v M1 hv h => h))).mono (fun lc lm ⟨l1, l2, z, ⟨l3, l4, y, ⟨x, hx, e1, e2⟩, hy, e3, e4⟩, hz, e5, e6⟩ => ⟨x, y, z, hx, hy, hz, by rw [e5, e3, e1]; rfl, by rw [e6, e4, e2]; rfl⟩)
  unfold fX9_passRest
  rw [if_neg (by decide), if_neg (by decide), if_neg (by decide), if_neg (by decide), if_neg (by decide), if_pos (show iI 18 = (18 : Int32) from rfl)]
  exact bd_three hv h
end YT
