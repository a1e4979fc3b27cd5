/-! the least costs and the pairs of two holes -/
def s_left (F : Fld) (h l : Int) : Int := F 1 (F 4 h l) 0 + F 5 h l
def s_pair (F : Fld) (a i b k : Int) : Int := s_un F (F 4 a i) (F 4 b k) + s_abs (F 5 a i - F 5 b k)
def s_mn (x y : Int) : Int := if x < y then x else y
theorem s_mn_ite {x y : Int} [Decidable (x < y)] : (if x < y then x else y) = s_mn x y := by unfold s_mn; by_cases h : x < y <;> simp only [h, if_true, if_false]
theorem s_mn_le (x y : Int) : s_mn x y ≤ x := by unfold s_mn; by_cases h : x < y <;> simp only [h, if_true, if_false] <;> omega
theorem s_mn_ge {x y c : Int} (hx : c ≤ x) (hy : c ≤ y) : c ≤ s_mn x y := by unfold s_mn; by_cases h : x < y <;> simp only [h, if_true, if_false] <;> omega
def cT (F : Fld) (a b i k : Int) : Int :=
  if i < F 3 a 2 then
    if k < F 3 b 2 then s_mn (s_left F b k + cT F a b i (k + 1)) (s_mn (s_left F a i + cT F a b (i + 1) k) (s_pair F a i b k + cT F a b (i + 1) (k + 1)))
    else s_left F a i + cT F a b (i + 1) k
  else if k < F 3 b 2 then s_left F b k + cT F a b i (k + 1) else 0
termination_by (F 3 a 2 - i).toNat + (F 3 b 2 - k).toNat
decreasing_by all_goals omega
section CTs
variable {F : Fld} {a b i k : Int}
theorem cT_nm (hi : i < F 3 a 2) (hk : k < F 3 b 2) : cT F a b i k = s_mn (s_left F b k + cT F a b i (k + 1)) (s_mn (s_left F a i + cT F a b (i + 1) k) (s_pair F a i b k + cT F a b (i + 1) (k + 1))) := by
  rw [cT, if_pos hi, if_pos hk]
theorem cT_n (hi : i < F 3 a 2) (hk : ¬ k < F 3 b 2) : cT F a b i k = s_left F a i + cT F a b (i + 1) k := by
  rw [cT, if_pos hi, if_neg hk]
theorem cT_m (hi : ¬ i < F 3 a 2) (hk : k < F 3 b 2) : cT F a b i k = s_left F b k + cT F a b i (k + 1) := by
  rw [cT, if_neg hi, if_pos hk]
theorem cT_z (hi : ¬ i < F 3 a 2) (hk : ¬ k < F 3 b 2) : cT F a b i k = 0 := by
  rw [cT, if_neg hi, if_neg hk]
theorem s_left_bd (w : WF F) {h l : Int} (hh : 0 ≤ h ∧ h < F 0 1 0) (hl : 0 ≤ l ∧ l < F 3 h 2) : 0 ≤ s_left F h l ∧ s_left F h l ≤ 1098 := by
  have h1 := w.sk (w.rk hh hl)
  have h2 := w.th hh hl
  unfold s_left
  omega
theorem s_abs_bd {x c : Int} (h : -c ≤ x ∧ x ≤ c) : 0 ≤ s_abs x ∧ s_abs x ≤ c := by
  unfold s_abs
  by_cases hx : 0 ≤ x
  · rw [if_pos hx]; omega
  · rw [if_neg hx]; omega
theorem s_un_bd (w : WF F) (ha : 0 ≤ a ∧ a < F 0 0 0) (hb : 0 ≤ b ∧ b < F 0 0 0) : 0 ≤ s_un F a b ∧ s_un F a b ≤ 99 := by
  rw [s_un_eq w ha]
  exact w.cp ha hb
theorem s_pair_bd (w : WF F) (ha : 0 ≤ a ∧ a < F 0 1 0) (hb : 0 ≤ b ∧ b < F 0 1 0) (hi : 0 ≤ i ∧ i < F 3 a 2) (hk : 0 ≤ k ∧ k < F 3 b 2) : 0 ≤ s_pair F a i b k ∧ s_pair F a i b k ≤ 1098 := by
  have h1 := s_un_bd w (w.rk ha hi) (w.rk hb hk)
  have h2 := w.th ha hi
  have h3 := w.th hb hk
  have h4 := s_abs_bd (x := F 5 a i - F 5 b k) (c := 999) (by omega)
  unfold s_pair
  omega
theorem cT_bd' (w : WF F) (ha : 0 ≤ a ∧ a < F 0 1 0) (hb : 0 ≤ b ∧ b < F 0 1 0) (d : Nat) : ∀ i k, 0 ≤ i → 0 ≤ k → (F 3 a 2 - i).toNat + (F 3 b 2 - k).toNat ≤ d → 0 ≤ cT F a b i k ∧ cT F a b i k ≤ 1098 * d := by
  induction d with
  | zero =>
    intro i k h0 h1 hd
    rw [cT_z (by omega) (by omega)]
    omega
  | succ d ih =>
    intro i k h0 h1 hd
    by_cases hi : i < F 3 a 2
    · have li := s_left_bd w ha ⟨h0, hi⟩
      have r1 := ih (i + 1) k (by omega) h1 (by omega)
      by_cases hk : k < F 3 b 2
      · have lk := s_left_bd w hb ⟨h1, hk⟩
        have pk := s_pair_bd w ha hb ⟨h0, hi⟩ ⟨h1, hk⟩
        have r2 := ih i (k + 1) h0 (by omega) (by omega)
        have r3 := ih (i + 1) (k + 1) (by omega) (by omega) (by omega)
        rw [cT_nm hi hk]
        have u := s_mn_le (s_left F b k + cT F a b i (k + 1)) (s_mn (s_left F a i + cT F a b (i + 1) k) (s_pair F a i b k + cT F a b (i + 1) (k + 1)))
        have v : (0 : Int) ≤ s_mn (s_left F b k + cT F a b i (k + 1)) (s_mn (s_left F a i + cT F a b (i + 1) k) (s_pair F a i b k + cT F a b (i + 1) (k + 1))) := s_mn_ge (by omega) (s_mn_ge (by omega) (by omega))
        omega
      · rw [cT_n hi hk]
        omega
    · by_cases hk : k < F 3 b 2
      · have lk := s_left_bd w hb ⟨h1, hk⟩
        have r2 := ih i (k + 1) h0 (by omega) (by omega)
        rw [cT_m hi hk]
        omega
      · rw [cT_z hi hk]
        omega
theorem cT_bd (w : WF F) (ha : 0 ≤ a ∧ a < F 0 1 0) (hb : 0 ≤ b ∧ b < F 0 1 0) (hi : 0 ≤ i) (hk : 0 ≤ k) : 0 ≤ cT F a b i k ∧ cT F a b i k ≤ 26352 := by
  have h1 := w.nl ha
  have h2 := w.nl hb
  have := cT_bd' w ha hb ((F 3 a 2 - i).toNat + (F 3 b 2 - k).toNat) i k hi hk (Nat.le_refl _)
  omega
end CTs
/-- the mate of layer x of the first, from layers i, k on -/
def mt (F : Fld) (a b i k x : Int) : Int :=
  if i < F 3 a 2 then
    if k < F 3 b 2 ∧ cT F a b i k = s_pair F a i b k + cT F a b (i + 1) (k + 1) then (if x = i then k else mt F a b (i + 1) (k + 1) x)
    else if F 3 b 2 ≤ k ∨ cT F a b i k = s_left F a i + cT F a b (i + 1) k then (if x = i then -1 else mt F a b (i + 1) k x)
    else mt F a b i (k + 1) x
  else -1
termination_by (F 3 a 2 - i).toNat + (F 3 b 2 - k).toNat
decreasing_by all_goals omega
section MTs
variable {F : Fld} {a b i k x : Int}
theorem mt_p (hi : i < F 3 a 2) (hp : k < F 3 b 2 ∧ cT F a b i k = s_pair F a i b k + cT F a b (i + 1) (k + 1)) : mt F a b i k x = if x = i then k else mt F a b (i + 1) (k + 1) x := by
  rw [mt, if_pos hi, if_pos hp]
theorem mt_l (hi : i < F 3 a 2) (hp : ¬ (k < F 3 b 2 ∧ cT F a b i k = s_pair F a i b k + cT F a b (i + 1) (k + 1))) (hl : F 3 b 2 ≤ k ∨ cT F a b i k = s_left F a i + cT F a b (i + 1) k) : mt F a b i k x = if x = i then -1 else mt F a b (i + 1) k x := by
  rw [mt, if_pos hi, if_neg hp, if_pos hl]
theorem mt_r (hi : i < F 3 a 2) (hp : ¬ (k < F 3 b 2 ∧ cT F a b i k = s_pair F a i b k + cT F a b (i + 1) (k + 1))) (hl : ¬ (F 3 b 2 ≤ k ∨ cT F a b i k = s_left F a i + cT F a b (i + 1) k)) : mt F a b i k x = mt F a b i (k + 1) x := by
  rw [mt, if_pos hi, if_neg hp, if_neg hl]
theorem mt_e (hi : ¬ i < F 3 a 2) : mt F a b i k x = -1 := by rw [mt, if_neg hi]
theorem mt_out' (hx : F 3 a 2 ≤ x) (d : Nat) : ∀ i k, (F 3 a 2 - i).toNat + (F 3 b 2 - k).toNat ≤ d → mt F a b i k x = -1 := by
  induction d with
  | zero => intro i k hd; exact mt_e (by omega)
  | succ d ih =>
    intro i k hd
    by_cases hi : i < F 3 a 2
    · by_cases hp : k < F 3 b 2 ∧ cT F a b i k = s_pair F a i b k + cT F a b (i + 1) (k + 1)
      · rw [mt_p hi hp, if_neg (by omega), ih _ _ (by omega)]
      · by_cases hl : F 3 b 2 ≤ k ∨ cT F a b i k = s_left F a i + cT F a b (i + 1) k
        · rw [mt_l hi hp hl, if_neg (by omega), ih _ _ (by omega)]
        · rw [mt_r hi hp hl, ih _ _ (by omega)]
    · exact mt_e hi
theorem mt_out (hx : F 3 a 2 ≤ x) : mt F a b i k x = -1 := mt_out' hx _ i k (Nat.le_refl _)
theorem mt_rng' (d : Nat) : ∀ i k, (F 3 a 2 - i).toNat + (F 3 b 2 - k).toNat ≤ d → i ≤ x → mt F a b i k x = -1 ∨ (k ≤ mt F a b i k x ∧ mt F a b i k x < F 3 b 2) := by
  induction d with
  | zero => intro i k hd hx; exact Or.inl (mt_e (by omega))
  | succ d ih =>
    intro i k hd hx
    by_cases hi : i < F 3 a 2
    · by_cases hp : k < F 3 b 2 ∧ cT F a b i k = s_pair F a i b k + cT F a b (i + 1) (k + 1)
      · rw [mt_p hi hp]
        by_cases hxi : x = i
        · rw [if_pos hxi]; exact Or.inr ⟨Int.le_refl _, hp.1⟩
        · rw [if_neg hxi]
          have := ih (i + 1) (k + 1) (by omega) (by omega)
          omega
      · by_cases hl : F 3 b 2 ≤ k ∨ cT F a b i k = s_left F a i + cT F a b (i + 1) k
        · rw [mt_l hi hp hl]
          by_cases hxi : x = i
          · rw [if_pos hxi]; exact Or.inl rfl
          · rw [if_neg hxi]; exact ih (i + 1) k (by omega) (by omega)
        · rw [mt_r hi hp hl]
          have := ih i (k + 1) (by omega) hx
          omega
    · exact Or.inl (mt_e hi)
theorem mt_rng (hx : i ≤ x) : mt F a b i k x = -1 ∨ (k ≤ mt F a b i k x ∧ mt F a b i k x < F 3 b 2) := mt_rng' _ i k (Nat.le_refl _) hx
theorem mt_mono' {y : Int} (hxy : x < y) (d : Nat) : ∀ i k, (F 3 a 2 - i).toNat + (F 3 b 2 - k).toNat ≤ d → i ≤ x → mt F a b i k x ≠ -1 → mt F a b i k y ≠ -1 → mt F a b i k x < mt F a b i k y := by
  induction d with
  | zero => intro i k hd hx h1 h2; exact absurd (mt_e (by omega)) h1
  | succ d ih =>
    intro i k hd hx h1 h2
    by_cases hi : i < F 3 a 2
    · by_cases hp : k < F 3 b 2 ∧ cT F a b i k = s_pair F a i b k + cT F a b (i + 1) (k + 1)
      · rw [mt_p hi hp] at h1 h2
        rw [mt_p hi hp, mt_p hi hp]
        rw [if_neg (by omega : ¬ y = i)] at h2 ⊢
        by_cases hxi : x = i
        · rw [if_pos hxi]
          have := mt_rng (F := F) (a := a) (b := b) (i := i + 1) (k := k + 1) (x := y) (by omega)
          omega
        · rw [if_neg hxi] at h1 ⊢
          exact ih (i + 1) (k + 1) (by omega) (by omega) h1 h2
      · by_cases hl : F 3 b 2 ≤ k ∨ cT F a b i k = s_left F a i + cT F a b (i + 1) k
        · rw [mt_l hi hp hl] at h1 h2
          rw [mt_l hi hp hl, mt_l hi hp hl]
          rw [if_neg (by omega : ¬ y = i)] at h2 ⊢
          by_cases hxi : x = i
          · rw [if_pos hxi] at h1; exact absurd rfl h1
          · rw [if_neg hxi] at h1 ⊢
            exact ih (i + 1) k (by omega) (by omega) h1 h2
        · rw [mt_r hi hp hl] at h1 h2
          rw [mt_r hi hp hl, mt_r hi hp hl]
          exact ih i (k + 1) (by omega) hx h1 h2
    · exact absurd (mt_e hi) h1
end MTs
/-- the mate of a layer; how many pairs -/
def s_mt (F : Fld) (a b x : Int) : Int := mt F a b 0 0 x
def s_pn (F : Fld) (a b : Int) : Int := sm (fun x => if s_mt F a b x = -1 then 0 else 1) 12
theorem s_mt_rng (F : Fld) (a b : Int) {x : Int} (h : 0 ≤ x) : s_mt F a b x = -1 ∨ (0 ≤ s_mt F a b x ∧ s_mt F a b x < F 3 b 2) := mt_rng h
theorem s_mt_out (F : Fld) (a b : Int) {x : Int} (h : F 3 a 2 ≤ x) : s_mt F a b x = -1 := mt_out h
theorem s_mt_mono (F : Fld) (a b : Int) {x y : Int} (h0 : 0 ≤ x) (hxy : x < y) (h1 : s_mt F a b x ≠ -1) (h2 : s_mt F a b y ≠ -1) : s_mt F a b x < s_mt F a b y := mt_mono' hxy _ 0 0 (Nat.le_refl _) h0 h1 h2
theorem sm_tail {f : Int → Int} {N K : Int} (h0 : 0 ≤ N) (hK : N ≤ K) (hf : ∀ x, N ≤ x → x < K → f x = 0) : sm f K = sm f N := by
  obtain ⟨d, rfl⟩ : ∃ d : Nat, K = N + d := ⟨(K - N).toNat, by omega⟩
  induction d with
  | zero => simp
  | succ d ih =>
    have h1 := sm_s f (i := N + d) (by omega)
    rw [hf (N + d) (by omega) (by omega), ih (by omega) (fun x a b => hf x a (by omega))] at h1
    rw [show N + ((d + 1 : Nat) : Int) = N + d + 1 from by omega]
    omega
theorem s_pn_n (F : Fld) {a : Int} (b : Int) (hn : 0 ≤ F 3 a 2 ∧ F 3 a 2 ≤ 12) : s_pn F a b = sm (fun x => if s_mt F a b x = -1 then 0 else 1) (F 3 a 2) := sm_tail hn.1 hn.2 fun x h1 _ => if_pos (s_mt_out F a b h1)
