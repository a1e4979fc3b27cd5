/-! a years' row by its kind, on both sides -/
theorem bd_no {f : Int32 → Mem → Option (Int32 × Mem)} : bd (none : Option (Int32 × Mem)) f = none := rfl
theorem bd_one {a : Option (Int32 × Mem)} {v : Int32} {M1 : Mem} (hv : v = iI 0 ∨ v = iI 1) (h : a = some (v, M1)) : (bd a fun v M => if v = 0 ∨ v = 1 then some (v, M) else none) = some (v, M1) := by
  rw [h, bdP]
  exact if_pos hv
theorem bd_fin {a : Option (Int32 × Mem)} {v : Int32} {M1 : Mem} (hv : v = iI 0 ∨ v = iI 1) (h : a = some (v, M1)) : (bd a fun v M => if v = 0 then some ((0 : Int32), M) else some ((1 : Int32), M)) = some (v, M1) := by
  rw [h, bdP]
  rcases hv with q | q
  · rw [q, if_pos i0e]
    rfl
  · rw [q, if_neg i1n]
    rfl
theorem bd_two {a : Option (Int32 × Mem)} {b : Mem → Option (Int32 × Mem)} {v : Int32} {M1 : Mem} (hv : v = iI 0 ∨ v = iI 1) (h : (bd a fun v M => if v = 0 then some ((0 : Int32), M) else b M) = some (v, M1)) : (bd a fun v M => if v = 0 then some ((0 : Int32), M) else bd (b M) fun v M => if v = 0 then some ((0 : Int32), M) else some ((1 : Int32), M)) = some (v, M1) := by
  cases a with
  | none => rw [bd_no] at h; cases h
  | some q =>
    obtain ⟨w, M2⟩ := q
    rw [bdP] at h ⊢
    by_cases z : w = 0
    · rw [if_pos z] at h ⊢
      exact h
    · rw [if_neg z] at h ⊢
      exact bd_fin hv h
theorem bd_three {a : Option (Int32 × Mem)} {b c : Mem → Option (Int32 × Mem)} {v : Int32} {M1 : Mem} (hv : v = iI 0 ∨ v = iI 1) (h : (bd (bd a fun v M => if v = 0 then some ((0 : Int32), M) else b M) fun v M => if v = 0 then some ((0 : Int32), M) else c M) = some (v, M1)) : (bd a fun v M => if v = 0 then some ((0 : Int32), M) else bd (b M) fun v M => if v = 0 then some ((0 : Int32), M) else bd (c M) fun v M => if v = 0 then some ((0 : Int32), M) else some ((1 : Int32), M)) = some (v, M1) := by
  cases a with
  | none => rw [bd_no, bd_no] at h; cases h
  | some q =>
    obtain ⟨w, M2⟩ := q
    rw [bdP] at h ⊢
    by_cases z : w = 0
    · rw [if_pos z] at h ⊢
      rw [bdP, if_pos rfl] at h
      exact h
    · rw [if_neg z] at h ⊢
      exact bd_two hv h
theorem RP.mono {fc fm : Nat → Mem → Option (Int32 × Mem)} {B : Int → Int} {n p N : Int} {F : Fld} {nn : NMs} {P Q : List (Nat × Int) → List (Int × Int) → Prop} (A : RP fc fm B n p F nn N P) (h : ∀ lc lm, P lc lm → Q lc lm) : RP fc fm B n p F nn N Q := by
  rcases A with a | ⟨lc, lm, p', hp, hP, a1, a2⟩
  · exact Or.inl a
  · exact Or.inr ⟨lc, lm, p', hp, h lc lm hP, a1, a2⟩
section YK
variable {B : Int → Int} {n p N : Int} {F : Fld} {nn : NMs}
theorem pl_2 (v : Int) : iI v + (2 : Int32) = iI (v + 2) := by rw [k_2, iI_add]
theorem pl_3 (v : Int) : iI v + (3 : Int32) = iI (v + 3) := by rw [k_3, iI_add]
theorem pl_1 (v : Int) : iI v + (1 : Int32) = iI (v + 1) := by rw [k_1, iI_add]
theorem y_r13 {φ : Nat} (hφ : 2000 < φ) (hB : HB B n) (hp : 0 ≤ p ∧ p ≤ n) (dw : DX F nn) (hN : 0 ≤ N ∧ N < 60) : RP (fun yt M => fX9_passRest φ yt (iI N) (iI 13) M) (fun m M => fX11_yearOrder φ m (iI 13) (iI (2880 + 6 * N)) M) B n p F nn N (fun lc lm => ∃ x y z, (0 ≤ x ∧ x < F 0 1 0) ∧ (0 ≤ y ∧ y < F 0 0 0) ∧ (1 ≤ z ∧ z ≤ 99) ∧ lc = [(2, x), (3, y), (4, z)] ∧ lm = [(1, x), (2, y), (3, z)]) := by
  refine (((((y_hole hφ hB ⟨by omega, by omega⟩ dw hN (c := 1) (by omega)).rp).seq (fun p' h1 h2 => y_rock hφ hB ⟨by omega, by omega⟩ dw hN (c := 2) (by omega))).seq (fun p' h1 h2 => y_num hφ hB ⟨by omega, by omega⟩ hN (a := 1) (b := 99) (c := 3) (by omega) (by omega) (by omega))).to (fun t yt g ys M e S v M1 hv h => ?_) (fun m M S v M1 hv h => ?_)).mono (fun lc lm ⟨l1, l2, z, ⟨l3, l4, y, ⟨x, hx, e1, e2⟩, hy, e3, e4⟩, hz, e5, e6⟩ => ⟨x, y, z, hx, hy, hz, by rw [e5, e3, e1]; rfl, by rw [e6, e4, e2]; rfl⟩)
  · unfold fX9_passRest
    rw [if_pos (show iI 13 = (13 : Int32) from rfl)]
    exact bd_three hv h
  · unfold fX11_yearOrder
    rw [if_pos (show iI 13 = (13 : Int32) from rfl), pl_1, pl_2, pl_3]
    exact bd_three hv h
theorem y_r14 {φ : Nat} (hφ : 2000 < φ) (hB : HB B n) (hp : 0 ≤ p ∧ p ≤ n) (dw : DX F nn) (hN : 0 ≤ N ∧ N < 60) : RP (fun yt M => fX9_passRest φ yt (iI N) (iI 14) M) (fun m M => fX11_yearOrder φ m (iI 14) (iI (2880 + 6 * N)) M) B n p F nn N (fun lc lm => ∃ x z, (0 ≤ x ∧ x < F 0 1 0) ∧ (1 ≤ z ∧ z ≤ 99) ∧ lc = [(2, x), (4, z)] ∧ lm = [(1, x), (2, z)]) := by
  refine ((((y_hole hφ hB ⟨by omega, by omega⟩ dw hN (c := 1) (by omega)).rp).seq (fun p' h1 h2 => y_num hφ hB ⟨by omega, by omega⟩ hN (a := 1) (b := 99) (c := 2) (by omega) (by omega) (by omega))).to (fun t yt g ys M e S v M1 hv h => ?_) (fun m M S v M1 hv h => ?_)).mono (fun lc lm ⟨l1, l2, z, ⟨x, hx, e1, e2⟩, hz, e5, e6⟩ => ⟨x, z, hx, hz, by rw [e5, e1]; rfl, by rw [e6, e2]; rfl⟩)
  · unfold fX9_passRest
    rw [if_neg (by decide), if_pos (show iI 14 = (14 : Int32) from rfl)]
    exact bd_two hv h
  · unfold fX11_yearOrder
    rw [if_neg (by decide), if_pos (show iI 14 = (14 : Int32) from rfl), pl_1, pl_2]
    exact bd_two hv h
theorem y_r15 {φ : Nat} (hφ : 2000 < φ) (hB : HB B n) (hp : 0 ≤ p ∧ p ≤ n) (dw : DX F nn) (hN : 0 ≤ N ∧ N < 60) : RP (fun yt M => fX9_passRest φ yt (iI N) (iI 15) M) (fun m M => fX11_yearOrder φ m (iI 15) (iI (2880 + 6 * N)) M) B n p F nn N (fun lc lm => ∃ z, (1 ≤ z ∧ z ≤ 99) ∧ lc = [(4, z)] ∧ lm = [(1, z)]) := by
  refine ((y_num hφ hB ⟨by omega, by omega⟩ hN (a := 1) (b := 99) (c := 1) (by omega) (by omega) (by omega)).rp).to (fun t yt g ys M e S v M1 hv h => ?_) (fun m M S v M1 hv h => ?_)
  · unfold fX9_passRest
    rw [if_neg (by decide), if_neg (by decide), if_pos (show iI 15 = (15 : Int32) from rfl)]
    exact bd_one hv h
  · unfold fX11_yearOrder
    rw [if_neg (by decide), if_neg (by decide), if_pos (show iI 15 = (15 : Int32) from rfl), pl_1]
    exact bd_one hv h
theorem y_r18 {φ : Nat} (hφ : 2000 < φ) (hB : HB B n) (hp : 0 ≤ p ∧ p ≤ n) (dw : DX F nn) (hN : 0 ≤ N ∧ N < 60) : RP (fun yt M => fX9_passRest φ yt (iI N) (iI 21) M) (fun m M => fX11_yearOrder φ m (iI 18) (iI (2880 + 6 * N)) M) B n p F nn N (fun lc lm => ∃ z, (1 ≤ z ∧ z ≤ 99) ∧ lc = [(4, z)] ∧ lm = [(1, z)]) := by
  refine ((y_num hφ hB ⟨by omega, by omega⟩ hN (a := 1) (b := 99) (c := 1) (by omega) (by omega) (by omega)).rp).to (fun t yt g ys M e S v M1 hv h => ?_) (fun m M S v M1 hv h => ?_)
  · unfold fX9_passRest
    rw [if_neg (by decide), if_neg (by decide), if_neg (by decide), if_neg (by decide), if_neg (by decide), if_neg (by decide), if_neg (by decide), if_neg (by decide), if_pos (show iI 21 = (21 : Int32) from rfl)]
    exact bd_one hv h
  · unfold fX11_yearOrder
    rw [if_neg (by decide), if_neg (by decide), if_neg (by decide), if_neg (by decide), if_neg (by decide), if_pos (show iI 18 = (18 : Int32) from rfl), pl_1]
    exact bd_one hv h
theorem y_r16 {φ : Nat} (hφ : 2000 < φ) (hB : HB B n) (hp : 0 ≤ p ∧ p ≤ n) (dw : DX F nn) (hN : 0 ≤ N ∧ N < 60) : RP (fun yt M => fX9_passRest φ yt (iI N) (iI 16) M) (fun m M => fX11_yearOrder φ m (iI 16) (iI (2880 + 6 * N)) M) B n p F nn N (fun lc lm => ∃ x z, (0 ≤ x ∧ x < F 0 3 0) ∧ (1 ≤ z ∧ z ≤ 99) ∧ lc = [(2, x), (4, z)] ∧ lm = [(1, x), (2, z)]) := by
  refine ((((y_fault hφ hB ⟨by omega, by omega⟩ dw hN (c := 1) (by omega)).rp).seq (fun p' h1 h2 => y_num hφ hB ⟨by omega, by omega⟩ hN (a := 1) (b := 99) (c := 2) (by omega) (by omega) (by omega))).to (fun t yt g ys M e S v M1 hv h => ?_) (fun m M S v M1 hv h => ?_)).mono (fun lc lm ⟨l1, l2, z, ⟨x, hx, e1, e2⟩, hz, e5, e6⟩ => ⟨x, z, hx, hz, by rw [e5, e1]; rfl, by rw [e6, e2]; rfl⟩)
  · unfold fX9_passRest
    rw [if_neg (by decide), if_neg (by decide), if_neg (by decide), if_pos (show iI 16 = (16 : Int32) from rfl)]
    exact bd_two hv h
  · have e1 : M.1 (m + 1) (Int.toNat 3) = iI (F 0 3 0) := S.2.1.1 3 (by omega) (by omega)
    unfold fX11_yearOrder
    rw [if_neg (by decide), if_neg (by decide), if_neg (by decide), if_pos (show iI 16 = (16 : Int32) from rfl), pl_1, pl_2, k_3, ixkI (by omega), iI_nat (by omega), e1]
    exact bd_two hv h
theorem y_r20 {φ : Nat} (hφ : 2000 < φ) (hB : HB B n) (hp : 0 ≤ p ∧ p ≤ n) (dw : DX F nn) (hN : 0 ≤ N ∧ N < 60) : RP (fun yt M => fX9_passRest φ yt (iI N) (iI 23) M) (fun m M => fX11_yearOrder φ m (iI 20) (iI (2880 + 6 * N)) M) B n p F nn N (fun lc lm => lc = [] ∧ lm = []) := by
  refine (RP.nil (B := B) (F := F) (nn := nn) (N := N) hp.2 (P := fun lc lm => lc = [] ∧ lm = []) ⟨rfl, rfl⟩).to (fun t yt g ys M e S v M1 hv h => ?_) (fun m M S v M1 hv h => ?_)
  · unfold fX9_passRest
    rw [if_neg (by decide), if_neg (by decide), if_neg (by decide), if_neg (by decide), if_neg (by decide), if_neg (by decide), if_neg (by decide), if_neg (by decide), if_neg (by decide)]
    exact h
  · unfold fX11_yearOrder
    rw [if_neg (by decide), if_neg (by decide), if_neg (by decide), if_neg (by decide), if_neg (by decide), if_neg (by decide)]
    exact h
end YK
