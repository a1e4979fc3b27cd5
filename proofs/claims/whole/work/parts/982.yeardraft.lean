/-! the draft of years, as each side holds it -/
def rowC (ys : Nat) (Y : Yr) (x : Int) (L : Prop) (M : Mem) : Prop := M.1 (ys + 1) x.toNat = iI (y_k (Y x 0)) ∧ (Y x 0 ≠ 15 → Y x 0 ≠ 18 → Y x 0 ≠ 19 → Y x 0 ≠ 20 → M.1 (ys + 2) x.toNat = iI (Y x 1)) ∧ (Y x 0 = 13 ∨ 1700 ≤ Y x 0 → M.1 (ys + 3) x.toNat = iI (y_o Y x)) ∧ (Y x 0 ≠ 19 → Y x 0 ≠ 20 → (Y x 0 ≠ 1722 ∧ Y x 0 ≠ 1723) → M.1 (ys + 4) x.toNat = iI (y_n Y x)) ∧ (18 ≤ Y x 0 → Y x 0 ≠ 20 → L → M.1 (ys + 5) x.toNat = iI (Y x 4))
def YCd (ys : Nat) (N c d : Int) (Y : Yr) (S : Int → Int) (M : Mem) : Prop := (M.1 ys 1 = iI c ∧ M.1 ys 2 = iI N) ∧ ∀ x : Int, 0 ≤ x → x < N → rowC ys Y x (∀ k, 0 ≤ k → k < d → S k ≠ x) M
def YMd (m : Nat) (N : Int) (Y : Yr) (M : Mem) : Prop := M.1 (m + 1) (Int.toNat 2604) = iI N ∧ ∀ x c : Int, 0 ≤ x → x < N → 0 ≤ c → c < 6 → M.1 (m + 1) (2880 + 6 * x + c).toNat = iI (Y x c)
section YDR
variable {ys m : Nat} {N c d c1 d1 : Int} {Y : Yr} {S S1 r : Int → Int} {M M1 : Mem}
theorem YCd.done (h : YCd ys N c 0 Y S M) : YC ys N Y M := ⟨h.1.2, fun x a b => by
  obtain ⟨h1, h2, h3, h4, h5⟩ := h.2 x a b
  exact ⟨h1, h2, h3, h4, fun p q => h5 p q (fun k k0 k1 => by omega)⟩⟩
theorem rowC.eq {Y' : Yr} {x : Int} {L L' : Prop} (hL : L' → L) (hY : ∀ k, Y' x k = Y x k) (hM : ∀ j, 1 ≤ j → j ≤ 5 → M1.1 (ys + j) x.toNat = M.1 (ys + j) x.toNat) (h : rowC ys Y x L M) : rowC ys Y' x L' M1 := by
  unfold rowC y_o y_n at h ⊢
  rw [hY 0, hY 1, hY 2, hY 3, hY 4, hY 5, hM 1 (by omega) (by omega), hM 2 (by omega) (by omega), hM 3 (by omega) (by omega), hM 4 (by omega) (by omega), hM 5 (by omega) (by omega)]
  exact ⟨h.1, h.2.1, h.2.2.1, h.2.2.2.1, fun p q l => h.2.2.2.2 p q (hL l)⟩
theorem YCd.put (hN : 0 ≤ N) (h : YCd ys N c d Y S M) (hb : cBl ys N M M1) (h1 : M1.1 ys 1 = iI c1) (h2 : M1.1 ys 2 = iI (N + 1)) (hS : ∀ x, 0 ≤ x → x < N → (∀ k, 0 ≤ k → k < d1 → S1 k ≠ x) → ∀ k, 0 ≤ k → k < d → S k ≠ x) (hr : rowC ys (dy_row Y N r) N (∀ k, 0 ≤ k → k < d1 → S1 k ≠ N) M1) : YCd ys (N + 1) c1 d1 (dy_row Y N r) S1 M1 := by
  refine ⟨⟨h1, h2⟩, fun x a b => ?_⟩
  by_cases q : x = N
  · rw [q]; exact hr
  · exact (h.2 x a (by omega)).eq (hS x a (by omega)) (fun k => yp_o Y r k q) (fun j j1 j5 => hb j _ j1 j5 (by omega))
theorem YMd.put (hN : 0 ≤ N) (h : YMd m N Y M) (h2 : M1.1 (m + 1) (Int.toNat 2604) = iI (N + 1)) (hb : ∀ e : Int, 2880 ≤ e → e < 2880 + 6 * N → M1.1 (m + 1) e.toNat = M.1 (m + 1) e.toNat) (hr : ∀ k, 0 ≤ k → k < 6 → M1.1 (m + 1) (2880 + 6 * N + k).toNat = iI (r k)) : YMd m (N + 1) (dy_row Y N r) M1 := by
  refine ⟨h2, fun x k a b k0 k1 => ?_⟩
  by_cases q : x = N
  · rw [q, yp_t]; exact hr k k0 k1
  · rw [yp_o Y r k q, hb _ (by omega) (by omega)]
    exact h.2 x k a (by omega) k0 k1
end YDR
