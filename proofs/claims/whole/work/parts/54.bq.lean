/-! questions to the beds, of the class -/
theorem ff_tail {P : Int → Bool} {N K : Int} (hK : N ≤ K) (h : ∀ i, N ≤ i → i < K → P i = false) (i : Int) (h0 : 0 ≤ i) (h1 : i ≤ N) : ff P K i = ff P N i := by
  rcases ff_rng P K i h0 (by omega) with a | a
  · rcases ff_rng P N i h0 h1 with b | b
    · rw [a.1, b.1]
    · have := a.2 _ b.1 (by omega)
      rw [b.2.2.1] at this
      cases this
  · rcases ff_rng P N i h0 h1 with b | b
    · by_cases hc : ff P K i < N
      · have := b.2 _ a.1 hc
        rw [a.2.2.1] at this
        cases this
      · have := h _ (by omega) a.2.1
        rw [a.2.2.1] at this
        cases this
    · by_cases hc : ff P K i < ff P N i
      · have := b.2.2.2 _ a.1 hc
        rw [a.2.2.1] at this
        cases this
      · by_cases hd : ff P N i < ff P K i
        · have := a.2.2.2 _ b.1 hd
          rw [b.2.2.1] at this
          cases this
        · omega
def anN (P : Int → Bool) : Nat → Bool
  | 0 => false
  | n + 1 => anN P n || P n
def an (P : Int → Bool) (i : Int) : Bool := anN P i.toNat
theorem an_0 (P : Int → Bool) : an P 0 = false := rfl
theorem an_s (P : Int → Bool) {i : Int} (h : 0 ≤ i) : an P (i + 1) = (an P i || P i) := by
  unfold an
  rw [show (i + 1).toNat = i.toNat + 1 from by omega]
  show (anN P i.toNat || P (i.toNat : Int)) = _
  rw [show ((i.toNat : Nat) : Int) = i from by omega]
def s_li (F : Fld) (x h : Int) : Int := if h < F 0 1 0 then s_fst F x h else -1
def s_hig (F : Fld) (a b : Int) : Bool := ff (fun h => decide (s_fst F a h ≠ -1 ∧ s_fst F b h ≠ -1 ∧ s_fst F a h < s_fst F b h)) (F 0 1 0) 0 != -1
theorem s_hig_ii {F : Fld} (w : WF F) (a : Int) : s_hig F a a = false := by
  have h1 := w.n1
  unfold s_hig
  rcases ff_rng (fun h => decide (s_fst F a h ≠ -1 ∧ s_fst F a h ≠ -1 ∧ s_fst F a h < s_fst F a h)) (F 0 1 0) 0 (by omega) h1.1 with h | h
  · rw [h.1]; rfl
  · have := of_decide_eq_true h.2.2.1
    omega
theorem s_fst_bd {F : Fld} (w : WF F) {x h : Int} (hh : 0 ≤ h ∧ h < F 0 1 0) : -1 ≤ s_fst F x h ∧ s_fst F x h < F 3 h 2 ∧ s_fst F x h < 12 := by
  have h1 := w.nl hh
  have := s_fst_rng w (x := x) hh
  omega
/-- the set of holes, bit by bit -/
def sB (v : Int32) (h : Int) (c : Bool) : Int32 := if c then v ||| (iI 1 <<< (iI h &&& 31)) else v
def s_set (F : Fld) (x : Int) : Int32 := fo (fun h v => sB v h (s_fst F x h != -1)) (F 0 1 0) 0 (iI 0)
def s_c (F : Fld) (x h : Int) : Bool := s_li F x h != -1
def s_cnt (F : Fld) (x : Int) : Int := sm (fun h => if s_c F x h then 1 else 0) 6
def s6 (c0 c1 c2 c3 c4 c5 : Bool) : Int32 := sB (sB (sB (sB (sB (sB (iI 0) 0 c0) 1 c1) 2 c2) 3 c3) 4 c4) 5 c5
theorem fo_cg {β : Type} {f f' : Int → β → β} {N : Int} (h : ∀ i q, i < N → f i q = f' i q) (i : Int) (q : β) (hi : i ≤ N) : fo f N i q = fo f' N i q := by
  obtain ⟨d, hd⟩ : ∃ d : Nat, N - i = d := ⟨(N - i).toNat, by omega⟩
  induction d generalizing i q with
  | zero => rw [fo_e f (by omega), fo_e f' (by omega)]
  | succ d ih => rw [fo_s f (by omega), fo_s f' (by omega), h i q (by omega), ih _ _ (by omega) (by omega)]
theorem fo_tail {β : Type} {f : Int → β → β} {N K : Int} (hK : N ≤ K) (h : ∀ i q, N ≤ i → f i q = q) (i : Int) (q : β) (hi : i ≤ N) : fo f K i q = fo f N i q := by
  have tail : ∀ (d : Nat) (i : Int) (q : β), N ≤ i → K - i = d → fo f K i q = q := by
    intro d
    induction d with
    | zero => intro i q _ hd; exact fo_e f (by omega) q
    | succ d ih => intro i q h0 hd; rw [fo_s f (by omega), ih _ _ (by omega) (by omega), h i q h0]
  obtain ⟨d, hd⟩ : ∃ d : Nat, N - i = d := ⟨(N - i).toNat, by omega⟩
  induction d generalizing i q with
  | zero => rw [fo_e (N := N) f (by omega)]; exact tail (K - i).toNat i q (by omega) (by omega)
  | succ d ih => rw [fo_s f (N := N) (by omega), fo_s f (N := K) (by omega), ih _ _ (by omega) (by omega)]
theorem s_set6 {F : Fld} (w : WF F) (x : Int) : s_set F x = s6 (s_c F x 0) (s_c F x 1) (s_c F x 2) (s_c F x 3) (s_c F x 4) (s_c F x 5) := by
  have h1 := w.n1
  have e : s_set F x = fo (fun h v => sB v h (s_c F x h)) 6 0 (iI 0) := by
    rw [fo_tail (N := F 0 1 0) h1.2 (fun i q hi => by
      have : s_c F x i = false := by unfold s_c s_li; rw [if_neg (by omega)]; rfl
      rw [this]; rfl) 0 (iI 0) h1.1]
    exact fo_cg (fun i q hi => by
      have : s_c F x i = (s_fst F x i != -1) := by unfold s_c s_li; rw [if_pos hi]
      rw [this]) 0 (iI 0) h1.1
  rw [e]
  rfl
theorem s_cnt6 (F : Fld) (x : Int) : s_cnt F x = (if s_c F x 0 then 1 else 0) + (if s_c F x 1 then 1 else 0) + (if s_c F x 2 then 1 else 0) + (if s_c F x 3 then 1 else 0) + (if s_c F x 4 then 1 else 0) + (if s_c F x 5 then (1 : Int) else 0) := by
  have e : s_cnt F x = 0 + (if s_c F x 0 then 1 else 0) + (if s_c F x 1 then 1 else 0) + (if s_c F x 2 then 1 else 0) + (if s_c F x 3 then 1 else 0) + (if s_c F x 4 then 1 else 0) + (if s_c F x 5 then (1 : Int) else 0) := rfl
  rw [e, Int.zero_add]
theorem c_bits (M : Mem) (c0 c1 c2 c3 c4 c5 : Bool) : fJ6_bitCount_0f7a4 (s6 c0 c1 c2 c3 c4 c5) M = some (iI ((if c0 then 1 else 0) + (if c1 then 1 else 0) + (if c2 then 1 else 0) + (if c3 then 1 else 0) + (if c4 then 1 else 0) + (if c5 then (1 : Int) else 0))) := by
  cases c0 <;> cases c1 <;> cases c2 <;> cases c3 <;> cases c4 <;> cases c5 <;> rfl
theorem m_bits (M : Mem) (n : Nat) (c0 c1 c2 c3 c4 c5 : Bool) : lX11_bits_4 M (n + 7) (iI 0) (s6 c0 c1 c2 c3 c4 c5) = some (iI ((if c0 then 1 else 0) + (if c1 then 1 else 0) + (if c2 then 1 else 0) + (if c3 then 1 else 0) + (if c4 then 1 else 0) + (if c5 then (1 : Int) else 0))) := by
  cases c0 <;> cases c1 <;> cases c2 <;> cases c3 <;> cases c4 <;> cases c5 <;> rfl
theorem s_cnt_bd (F : Fld) (x : Int) : 0 ≤ s_cnt F x ∧ s_cnt F x ≤ 6 := by
  have := sm_bd (f := fun h => if s_c F x h then 1 else 0) (N := 6) (B := 1) (fun h _ _ => by by_cases hx : s_c F x h = true <;> simp [hx]) 6 (by omega) (by omega)
  exact this
section BQ
variable {t g : Nat} {F : Fld} {M : Mem}
theorem c_layerIn (w : WF F) (B : BC t F M) {x h : Int} (hx : 0 ≤ x ∧ x < bN F) (hh : 0 ≤ h ∧ h < 6) : fX0_layerIn t (iI x) (iI h) M = some (iI (s_li F x h)) := by
  have hb := bN_rng w
  have e := B.2.2.2.2.2 x h hx.1 hx.2 hh.1 hh.2
  unfold fX0_layerIn s_li
  simp (disch := omega) only [iI_add, iI_sub, iI_mul, iI_neg, iI_nat, addm1, ixkI, ↓sbind, sbind, ↓bdS, bdS, ↓nm_eq, ↓jn_eq, iI_lt, iI_le, iI_eq, k_0, k_1, k_2, k_3, k_4, k_5, k_6, k_7, k_8, k_9, k_10, k_11, k_12, k_13, k_14, k_15, k_16, k_17, k_18, k_19, k_20, k_21, k_22, k_23, k_24, k_27, k_30, k_32, k_48, k_57, k_59, k_60, k_61, k_62, k_63, k_64, k_72, k_78, k_80, k_82, k_97, k_99, k_100, k_122, k_244, k_255, k_268, k_280, k_300, k_432, k_650, k_900, k_901, k_999, k_1700, k_2600, k_2601, k_2602, k_2603, k_2604, k_2610, k_2618, k_2682, k_2777, k_2844, k_2868, k_2880, k_3245, k_3250, k_9551, k_9999, k_65536, k_100000, k_999999, k_1000000, k_2147483647, e]
theorem s_li_bd (w : WF F) {x h : Int} (hh : 0 ≤ h ∧ h < 6) : -1 ≤ s_li F x h ∧ s_li F x h < 12 := by
  unfold s_li
  by_cases hc : h < F 0 1 0
  · rw [if_pos hc]
    have := s_fst_bd w (x := x) ⟨hh.1, hc⟩
    omega
  · rw [if_neg hc]; omega
theorem c_isHigher (w : WF F) (B : BC t F M) {a b : Int} (ha : 0 ≤ a ∧ a < bN F) (hb : 0 ≤ b ∧ b < bN F) {φ : Nat} (hφ : 100 < φ) : fX0_isHigher φ t (iI a) (iI b) M = some (bI (s_hig F a b)) := by
  have h1 := w.n1
  have e : s_hig F a b = (ff (fun h => decide (s_li F a h ≠ -1 ∧ s_li F a h < s_li F b h)) 6 0 != -1) := by
    unfold s_hig
    rw [ff_tail (P := fun h => decide (s_li F a h ≠ -1 ∧ s_li F a h < s_li F b h)) h1.2 (fun i i0 i1 => by
      refine decide_eq_false (fun q => q.1 ?_)
      exact if_neg (by omega)) 0 (by omega) h1.1]
    rw [ff_cg (fun i i0 i1 => by
      show decide (s_fst F a i ≠ -1 ∧ s_fst F b i ≠ -1 ∧ s_fst F a i < s_fst F b i) = decide (s_li F a i ≠ -1 ∧ s_li F a i < s_li F b i)
      have z1 := s_fst_bd w (x := a) ⟨i0, i1⟩
      have z2 := s_fst_bd w (x := b) ⟨i0, i1⟩
      rw [show s_li F a i = s_fst F a i from if_pos i1, show s_li F b i = s_fst F b i from if_pos i1]
      exact decide_eq_decide.mpr ⟨fun q => ⟨q.1, q.2.2⟩, fun q => ⟨q.1, by omega, q.2⟩⟩) 0 (by omega) h1.1]
  rw [e]
  have key := lup (N := 6) (P := fun n i => lX0_isHigher_2 t (iI a) (iI b) M n (iI i) = some (bI (ff (fun h => decide (s_li F a h ≠ -1 ∧ s_li F a h < s_li F b h)) 6 i != -1)))
    (fun n => by
      rw [lX0_isHigher_2_s, ff_e]
      simp (disch := omega) only [iI_add, iI_sub, iI_mul, iI_neg, iI_nat, addm1, ixkI, ↓sbind, sbind, ↓bdS, bdS, ↓nm_eq, ↓jn_eq, iI_lt, iI_le, iI_eq, k_0, k_1, k_2, k_3, k_4, k_5, k_6, k_7, k_8, k_9, k_10, k_11, k_12, k_13, k_14, k_15, k_16, k_17, k_18, k_19, k_20, k_21, k_22, k_23, k_24, k_27, k_30, k_32, k_48, k_57, k_59, k_60, k_61, k_62, k_63, k_64, k_72, k_78, k_80, k_82, k_97, k_99, k_100, k_122, k_244, k_255, k_268, k_280, k_300, k_432, k_650, k_900, k_901, k_999, k_1700, k_2600, k_2601, k_2602, k_2603, k_2604, k_2610, k_2618, k_2682, k_2777, k_2844, k_2868, k_2880, k_3245, k_3250, k_9551, k_9999, k_65536, k_100000, k_999999, k_1000000, k_2147483647, lt_T, lt_F, le_T, le_F, eq_T, eq_F, ↓reduceIte, not_true_eq_false, not_false_eq_true, or_true, or_false, true_or, false_or, and_true, true_and, and_false, false_and]
      rfl)
    (fun n i i0 i1 ih => by
      have z1 := s_li_bd w (x := a) ⟨i0, i1⟩
      have z2 := s_li_bd w (x := b) ⟨i0, i1⟩
      rw [lX0_isHigher_2_s, c_layerIn w B ha ⟨i0, i1⟩, c_layerIn w B hb ⟨i0, i1⟩]
      by_cases hc : s_li F a i ≠ -1 ∧ s_li F a i < s_li F b i
      · rw [ff_t i1 (decide_eq_true hc), ne_m1 i0]
        simp (disch := omega) only [iI_add, iI_sub, iI_mul, iI_neg, iI_nat, addm1, ixkI, ↓sbind, sbind, ↓bdS, bdS, ↓nm_eq, ↓jn_eq, iI_lt, iI_le, iI_eq, k_0, k_1, k_2, k_3, k_4, k_5, k_6, k_7, k_8, k_9, k_10, k_11, k_12, k_13, k_14, k_15, k_16, k_17, k_18, k_19, k_20, k_21, k_22, k_23, k_24, k_27, k_30, k_32, k_48, k_57, k_59, k_60, k_61, k_62, k_63, k_64, k_72, k_78, k_80, k_82, k_97, k_99, k_100, k_122, k_244, k_255, k_268, k_280, k_300, k_432, k_650, k_900, k_901, k_999, k_1700, k_2600, k_2601, k_2602, k_2603, k_2604, k_2610, k_2618, k_2682, k_2777, k_2844, k_2868, k_2880, k_3245, k_3250, k_9551, k_9999, k_65536, k_100000, k_999999, k_1000000, k_2147483647, lt_T, lt_F, le_T, le_F, eq_T, eq_F, ↓reduceIte, not_true_eq_false, not_false_eq_true, or_true, or_false, true_or, false_or, and_true, true_and, and_false, false_and]
        rfl
      · rw [ff_f i1 (decide_eq_false hc), ← ih]
        by_cases hd : s_li F a i = -1
        · simp (disch := omega) only [iI_add, iI_sub, iI_mul, iI_neg, iI_nat, addm1, ixkI, ↓sbind, sbind, ↓bdS, bdS, ↓nm_eq, ↓jn_eq, iI_lt, iI_le, iI_eq, k_0, k_1, k_2, k_3, k_4, k_5, k_6, k_7, k_8, k_9, k_10, k_11, k_12, k_13, k_14, k_15, k_16, k_17, k_18, k_19, k_20, k_21, k_22, k_23, k_24, k_27, k_30, k_32, k_48, k_57, k_59, k_60, k_61, k_62, k_63, k_64, k_72, k_78, k_80, k_82, k_97, k_99, k_100, k_122, k_244, k_255, k_268, k_280, k_300, k_432, k_650, k_900, k_901, k_999, k_1700, k_2600, k_2601, k_2602, k_2603, k_2604, k_2610, k_2618, k_2682, k_2777, k_2844, k_2868, k_2880, k_3245, k_3250, k_9551, k_9999, k_65536, k_100000, k_999999, k_1000000, k_2147483647, lt_T, lt_F, le_T, le_F, eq_T, eq_F, ↓reduceIte, not_true_eq_false, not_false_eq_true, or_true, or_false, true_or, false_or, and_true, true_and, and_false, false_and]
        · simp (disch := omega) only [iI_add, iI_sub, iI_mul, iI_neg, iI_nat, addm1, ixkI, ↓sbind, sbind, ↓bdS, bdS, ↓nm_eq, ↓jn_eq, iI_lt, iI_le, iI_eq, k_0, k_1, k_2, k_3, k_4, k_5, k_6, k_7, k_8, k_9, k_10, k_11, k_12, k_13, k_14, k_15, k_16, k_17, k_18, k_19, k_20, k_21, k_22, k_23, k_24, k_27, k_30, k_32, k_48, k_57, k_59, k_60, k_61, k_62, k_63, k_64, k_72, k_78, k_80, k_82, k_97, k_99, k_100, k_122, k_244, k_255, k_268, k_280, k_300, k_432, k_650, k_900, k_901, k_999, k_1700, k_2600, k_2601, k_2602, k_2603, k_2604, k_2610, k_2618, k_2682, k_2777, k_2844, k_2868, k_2880, k_3245, k_3250, k_9551, k_9999, k_65536, k_100000, k_999999, k_1000000, k_2147483647, lt_T, lt_F, le_T, le_F, eq_T, eq_F, ↓reduceIte, not_true_eq_false, not_false_eq_true, or_true, or_false, true_or, false_or, and_true, true_and, and_false, false_and])
    φ 0 (by omega) (by omega) (by omega)
  unfold fX0_isHigher
  simp only [k_0]
  exact key
theorem c_setOfHoles (w : WF F) (B : BC t F M) {x : Int} (hx : 0 ≤ x ∧ x < bN F) {φ : Nat} (hφ : 100 < φ) : fX0_setOfHoles φ t (iI x) M = some (s_set F x) := by
  have key := lup (N := 6) (P := fun n i => ∀ v, lX0_setOfHoles_4 t (iI x) M n v (iI i) = some (fo (fun h v => sB v h (s_c F x h)) 6 i v))
    (fun n v => by
      rw [lX0_setOfHoles_4_s, fo_e _ (Int.le_refl _)]
      simp (disch := omega) only [iI_add, iI_sub, iI_mul, iI_neg, iI_nat, addm1, ixkI, ↓sbind, sbind, ↓bdS, bdS, ↓nm_eq, ↓jn_eq, iI_lt, iI_le, iI_eq, k_0, k_1, k_2, k_3, k_4, k_5, k_6, k_7, k_8, k_9, k_10, k_11, k_12, k_13, k_14, k_15, k_16, k_17, k_18, k_19, k_20, k_21, k_22, k_23, k_24, k_27, k_30, k_32, k_48, k_57, k_59, k_60, k_61, k_62, k_63, k_64, k_72, k_78, k_80, k_82, k_97, k_99, k_100, k_122, k_244, k_255, k_268, k_280, k_300, k_432, k_650, k_900, k_901, k_999, k_1700, k_2600, k_2601, k_2602, k_2603, k_2604, k_2610, k_2618, k_2682, k_2777, k_2844, k_2868, k_2880, k_3245, k_3250, k_9551, k_9999, k_65536, k_100000, k_999999, k_1000000, k_2147483647, lt_T, lt_F, le_T, le_F, eq_T, eq_F, ↓reduceIte, not_true_eq_false, not_false_eq_true, or_true, or_false, true_or, false_or, and_true, true_and, and_false, false_and])
    (fun n i i0 i1 ih v => by
      have z1 := s_li_bd w (x := x) ⟨i0, i1⟩
      rw [lX0_setOfHoles_4_s, c_layerIn w B hx ⟨i0, i1⟩, fo_s _ i1, ← ih]
      unfold sB s_c
      by_cases hc : s_li F x i = -1
      · rw [show (s_li F x i != -1) = false from by simp [hc]]
        simp (disch := omega) only [iI_add, iI_sub, iI_mul, iI_neg, iI_nat, addm1, ixkI, ↓sbind, sbind, ↓bdS, bdS, ↓nm_eq, ↓jn_eq, iI_lt, iI_le, iI_eq, k_0, k_1, k_2, k_3, k_4, k_5, k_6, k_7, k_8, k_9, k_10, k_11, k_12, k_13, k_14, k_15, k_16, k_17, k_18, k_19, k_20, k_21, k_22, k_23, k_24, k_27, k_30, k_32, k_48, k_57, k_59, k_60, k_61, k_62, k_63, k_64, k_72, k_78, k_80, k_82, k_97, k_99, k_100, k_122, k_244, k_255, k_268, k_280, k_300, k_432, k_650, k_900, k_901, k_999, k_1700, k_2600, k_2601, k_2602, k_2603, k_2604, k_2610, k_2618, k_2682, k_2777, k_2844, k_2868, k_2880, k_3245, k_3250, k_9551, k_9999, k_65536, k_100000, k_999999, k_1000000, k_2147483647, lt_T, lt_F, le_T, le_F, eq_T, eq_F, ↓reduceIte, not_true_eq_false, not_false_eq_true, or_true, or_false, true_or, false_or, and_true, true_and, and_false, false_and]
        rfl
      · rw [show (s_li F x i != -1) = true from by simp [hc]]
        simp (disch := omega) only [iI_add, iI_sub, iI_mul, iI_neg, iI_nat, addm1, ixkI, ↓sbind, sbind, ↓bdS, bdS, ↓nm_eq, ↓jn_eq, iI_lt, iI_le, iI_eq, k_0, k_1, k_2, k_3, k_4, k_5, k_6, k_7, k_8, k_9, k_10, k_11, k_12, k_13, k_14, k_15, k_16, k_17, k_18, k_19, k_20, k_21, k_22, k_23, k_24, k_27, k_30, k_32, k_48, k_57, k_59, k_60, k_61, k_62, k_63, k_64, k_72, k_78, k_80, k_82, k_97, k_99, k_100, k_122, k_244, k_255, k_268, k_280, k_300, k_432, k_650, k_900, k_901, k_999, k_1700, k_2600, k_2601, k_2602, k_2603, k_2604, k_2610, k_2618, k_2682, k_2777, k_2844, k_2868, k_2880, k_3245, k_3250, k_9551, k_9999, k_65536, k_100000, k_999999, k_1000000, k_2147483647, lt_T, lt_F, le_T, le_F, eq_T, eq_F, ↓reduceIte, not_true_eq_false, not_false_eq_true, or_true, or_false, true_or, false_or, and_true, true_and, and_false, false_and])
    φ 0 (by omega) (by omega) (by omega) (iI 0)
  unfold fX0_setOfHoles
  simp only [k_0]
  rw [key, s_set6 w]
  rfl
def s_bst (F : Fld) (b best : Int) : Int := if best = -1 ∨ s_cnt F best < s_cnt F b then b else best
def s_wid (F : Fld) : Int := fo (fun b best => s_bst F b best) (bN F) 0 (-1)
/-- every bed has a layer -/
theorem nA_sur (w : WF F) (L : Int → Int) : ∀ x, 0 ≤ x → x < (nA F L).1 → ∃ h l, vl F h l ∧ (nA F L).2 (L (h * 12 + l)) = x := by
  have h1 := w.n1
  have key := fo_indR (f := fun h q => nR F L h q) (N := F 0 1 0) (a := 0) (Q := fun i r => nOk r ∧ ∀ x, 0 ≤ x → x < r.1 → ∃ h l, vl F h l ∧ r.2 (L (h * 12 + l)) = x) (fun i r i0 i1 hQ => by
    obtain ⟨c1, c2⟩ := hQ
    have hn := w.nl ⟨i0, i1⟩
    exact fo_indR (f := fun l q => nS L (i * 12 + l) q) (N := F 3 i 2) (a := 0) (Q := fun _ r => nOk r ∧ ∀ x, 0 ≤ x → x < r.1 → ∃ h l, vl F h l ∧ r.2 (L (h * 12 + l)) = x) (fun l r l0 l1 hQ => by
      obtain ⟨d1, d2⟩ := hQ
      obtain ⟨e1, e2, e3, e4, e5⟩ := nS_inv (L := L) (s := i * 12 + l) d1
      refine ⟨e1, fun x x0 x1 => ?_⟩
      by_cases hx : x < r.1
      · obtain ⟨h, l', v, e⟩ := d2 x x0 hx
        exact ⟨h, l', v, by rw [e3 _ (by rw [e]; omega)]; exact e⟩
      · refine ⟨i, l, ⟨⟨i0, i1⟩, l0, l1⟩, ?_⟩
        unfold nS at x1 ⊢
        by_cases hc : r.2 (L (i * 12 + l)) = -1
        · rw [if_pos hc] at x1 ⊢
          have x1 : x < r.1 + 1 := x1
          show (if L (i * 12 + l) = L (i * 12 + l) then r.1 else _) = x
          rw [if_pos rfl]
          omega
        · rw [if_neg hc] at x1
          omega) r hn.1 ⟨c1, c2⟩) ((0 : Int), fun _ => (-1 : Int)) h1.1 ⟨⟨Int.le_refl 0, fun x => Or.inl rfl, fun x y hx => absurd rfl hx⟩, fun x x0 x1 => by have x1 : x < 0 := x1; omega⟩
  exact key.2
theorem s_cnt_pos (w : WF F) {x : Int} (hx : 0 ≤ x ∧ x < bN F) : 1 ≤ s_cnt F x := by
  obtain ⟨h, l, v, e⟩ := nA_sur w (s_lab F) x hx.1 hx.2
  have h1 := w.n1
  have e' : bA F h l = x := e
  have e2 := s_fst_eq w v
  rw [e'] at e2
  have vv := v
  obtain ⟨⟨v1, v2⟩, v3, v4⟩ := vv
  have hc : s_c F x h = true := by
    unfold s_c s_li
    rw [if_pos v2, e2]
    exact ne_m1 v3
  have hs := sm_s (fun h => if s_c F x h then (1 : Int) else 0) v1
  have m1 := sm_mono (f := fun h => if s_c F x h then (1 : Int) else 0) (N := 6) (fun i _ _ => by by_cases hx : s_c F x i = true <;> simp [hx]) (i := 0) (k := h) (by omega) v1 (by omega)
  have m2 := sm_mono (f := fun h => if s_c F x h then (1 : Int) else 0) (N := 6) (fun i _ _ => by by_cases hx : s_c F x i = true <;> simp [hx]) (i := h + 1) (k := 6) (by omega) (by omega) (by omega)
  rw [sm_0] at m1
  have e3 : (if s_c F x h then (1 : Int) else 0) = 1 := if_pos hc
  unfold s_cnt
  have hs' : sm (fun h => if s_c F x h then (1 : Int) else 0) (h + 1) = sm (fun h => if s_c F x h then (1 : Int) else 0) h + (if s_c F x h then (1 : Int) else 0) := hs
  rw [e3] at hs'
  omega
theorem c_widestBed (w : WF F) (B : BC t F M) {φ : Nat} (hφ : 100 < φ) : fX0_widestBed φ t M = some (iI (s_wid F)) ∧ -1 ≤ s_wid F ∧ s_wid F < bN F := by
  have hb := bN_rng w
  have h7 := B.2.2.1
  have key := lup (N := bN F) (P := fun n i => ∀ best, (best = -1 ∨ (0 ≤ best ∧ best < bN F)) → lX0_widestBed_6 φ t M n (iI best) (iI (if best = -1 then 0 else s_cnt F best)) (iI i) = some (iI (fo (fun b best => s_bst F b best) (bN F) i best)) ∧ -1 ≤ fo (fun b best => s_bst F b best) (bN F) i best ∧ fo (fun b best => s_bst F b best) (bN F) i best < bN F)
    (fun n best hbest => by
      rw [lX0_widestBed_6_s, fo_e _ (Int.le_refl _)]
      simp (disch := omega) only [iI_add, iI_sub, iI_mul, iI_neg, iI_nat, addm1, ixkI, ↓sbind, sbind, ↓bdS, bdS, ↓nm_eq, ↓jn_eq, iI_lt, iI_le, iI_eq, k_0, k_1, k_2, k_3, k_4, k_5, k_6, k_7, k_8, k_9, k_10, k_11, k_12, k_13, k_14, k_15, k_16, k_17, k_18, k_19, k_20, k_21, k_22, k_23, k_24, k_27, k_30, k_32, k_48, k_57, k_59, k_60, k_61, k_62, k_63, k_64, k_72, k_78, k_80, k_82, k_97, k_99, k_100, k_122, k_244, k_255, k_268, k_280, k_300, k_432, k_650, k_900, k_901, k_999, k_1700, k_2600, k_2601, k_2602, k_2603, k_2604, k_2610, k_2618, k_2682, k_2777, k_2844, k_2868, k_2880, k_3245, k_3250, k_9551, k_9999, k_65536, k_100000, k_999999, k_1000000, k_2147483647, lt_T, lt_F, le_T, le_F, eq_T, eq_F, ↓reduceIte, not_true_eq_false, not_false_eq_true, or_true, or_false, true_or, false_or, and_true, true_and, and_false, false_and, h7]
      all_goals omega)
    (fun n i i0 i1 ih best hbest => by
      have hp := s_cnt_pos w ⟨i0, i1⟩
      have hc := s_cnt_bd F i
      have hc2 := s_cnt_bd F best
      rw [fo_s _ i1]
      have hbest2 : s_bst F i best = -1 ∨ (0 ≤ s_bst F i best ∧ s_bst F i best < bN F) := by
        unfold s_bst
        by_cases hd : best = -1 ∨ s_cnt F best < s_cnt F i
        · rw [if_pos hd]; exact Or.inr ⟨i0, i1⟩
        · rw [if_neg hd]; exact hbest
      obtain ⟨e1, e2⟩ := ih (s_bst F i best) hbest2
      refine ⟨?_, e2⟩
      rw [← e1, lX0_widestBed_6_s, c_setOfHoles w B ⟨i0, i1⟩ hφ]
      simp only [sbind]
      rw [s_set6 w, c_bits, ← s_cnt6]
      have ei : (if i = -1 then 0 else s_cnt F i) = s_cnt F i := if_neg (by omega)
      by_cases h1 : best = -1
      · rw [show s_bst F i best = i from if_pos (Or.inl h1), ei, show (if best = -1 then 0 else s_cnt F best) = 0 from if_pos h1]
        simp (disch := omega) only [iI_add, iI_sub, iI_mul, iI_neg, iI_nat, addm1, ixkI, ↓sbind, sbind, ↓bdS, bdS, ↓nm_eq, ↓jn_eq, iI_lt, iI_le, iI_eq, k_0, k_1, k_2, k_3, k_4, k_5, k_6, k_7, k_8, k_9, k_10, k_11, k_12, k_13, k_14, k_15, k_16, k_17, k_18, k_19, k_20, k_21, k_22, k_23, k_24, k_27, k_30, k_32, k_48, k_57, k_59, k_60, k_61, k_62, k_63, k_64, k_72, k_78, k_80, k_82, k_97, k_99, k_100, k_122, k_244, k_255, k_268, k_280, k_300, k_432, k_650, k_900, k_901, k_999, k_1700, k_2600, k_2601, k_2602, k_2603, k_2604, k_2610, k_2618, k_2682, k_2777, k_2844, k_2868, k_2880, k_3245, k_3250, k_9551, k_9999, k_65536, k_100000, k_999999, k_1000000, k_2147483647, lt_T, lt_F, le_T, le_F, eq_T, eq_F, ↓reduceIte, not_true_eq_false, not_false_eq_true, or_true, or_false, true_or, false_or, and_true, true_and, and_false, false_and, h7]
      · rw [show (if best = -1 then 0 else s_cnt F best) = s_cnt F best from if_neg h1]
        by_cases h2 : s_cnt F best < s_cnt F i
        · rw [show s_bst F i best = i from if_pos (Or.inr h2), ei]
          simp (disch := omega) only [iI_add, iI_sub, iI_mul, iI_neg, iI_nat, addm1, ixkI, ↓sbind, sbind, ↓bdS, bdS, ↓nm_eq, ↓jn_eq, iI_lt, iI_le, iI_eq, k_0, k_1, k_2, k_3, k_4, k_5, k_6, k_7, k_8, k_9, k_10, k_11, k_12, k_13, k_14, k_15, k_16, k_17, k_18, k_19, k_20, k_21, k_22, k_23, k_24, k_27, k_30, k_32, k_48, k_57, k_59, k_60, k_61, k_62, k_63, k_64, k_72, k_78, k_80, k_82, k_97, k_99, k_100, k_122, k_244, k_255, k_268, k_280, k_300, k_432, k_650, k_900, k_901, k_999, k_1700, k_2600, k_2601, k_2602, k_2603, k_2604, k_2610, k_2618, k_2682, k_2777, k_2844, k_2868, k_2880, k_3245, k_3250, k_9551, k_9999, k_65536, k_100000, k_999999, k_1000000, k_2147483647, lt_T, lt_F, le_T, le_F, eq_T, eq_F, ↓reduceIte, not_true_eq_false, not_false_eq_true, or_true, or_false, true_or, false_or, and_true, true_and, and_false, false_and, h7]
        · rw [show s_bst F i best = best from if_neg (by omega), show (if best = -1 then 0 else s_cnt F best) = s_cnt F best from if_neg h1]
          simp (disch := omega) only [iI_add, iI_sub, iI_mul, iI_neg, iI_nat, addm1, ixkI, ↓sbind, sbind, ↓bdS, bdS, ↓nm_eq, ↓jn_eq, iI_lt, iI_le, iI_eq, k_0, k_1, k_2, k_3, k_4, k_5, k_6, k_7, k_8, k_9, k_10, k_11, k_12, k_13, k_14, k_15, k_16, k_17, k_18, k_19, k_20, k_21, k_22, k_23, k_24, k_27, k_30, k_32, k_48, k_57, k_59, k_60, k_61, k_62, k_63, k_64, k_72, k_78, k_80, k_82, k_97, k_99, k_100, k_122, k_244, k_255, k_268, k_280, k_300, k_432, k_650, k_900, k_901, k_999, k_1700, k_2600, k_2601, k_2602, k_2603, k_2604, k_2610, k_2618, k_2682, k_2777, k_2844, k_2868, k_2880, k_3245, k_3250, k_9551, k_9999, k_65536, k_100000, k_999999, k_1000000, k_2147483647, lt_T, lt_F, le_T, le_F, eq_T, eq_F, ↓reduceIte, not_true_eq_false, not_false_eq_true, or_true, or_false, true_or, false_or, and_true, true_and, and_false, false_and, h7])
    φ 0 (by omega) (by omega) (by omega) (-1) (Or.inl rfl)
  rw [if_pos rfl] at key
  refine ⟨?_, key.2⟩
  unfold fX0_widestBed
  simp only [k_0, k_1, iI_neg]
  exact key.1
def s_both (F : Fld) (a b : Int) : Int := sm (fun k => if s_fst F k a ≠ -1 ∧ s_fst F k b ≠ -1 then 1 else 0) (bN F)
theorem c_inBoth (w : WF F) (B : BC t F M) {a b : Int} (ha : 0 ≤ a ∧ a < F 0 1 0) (hb : 0 ≤ b ∧ b < F 0 1 0) {φ : Nat} (hφ : 100 < φ) : fX0_inBoth φ t (iI a) (iI b) M = some (iI (s_both F a b)) := by
  have h1 := w.n1
  have hn := bN_rng w
  have h7 := B.2.2.1
  have key := lup (N := bN F) (P := fun n i => lX0_inBoth_5 t (iI a) (iI b) M n (iI (sm (fun k => if s_fst F k a ≠ -1 ∧ s_fst F k b ≠ -1 then 1 else 0) i)) (iI i) = some (iI (s_both F a b)))
    (fun n => by
      rw [lX0_inBoth_5_s]
      simp (disch := omega) only [iI_add, iI_sub, iI_mul, iI_neg, iI_nat, addm1, ixkI, ↓sbind, sbind, ↓bdS, bdS, ↓nm_eq, ↓jn_eq, iI_lt, iI_le, iI_eq, k_0, k_1, k_2, k_3, k_4, k_5, k_6, k_7, k_8, k_9, k_10, k_11, k_12, k_13, k_14, k_15, k_16, k_17, k_18, k_19, k_20, k_21, k_22, k_23, k_24, k_27, k_30, k_32, k_48, k_57, k_59, k_60, k_61, k_62, k_63, k_64, k_72, k_78, k_80, k_82, k_97, k_99, k_100, k_122, k_244, k_255, k_268, k_280, k_300, k_432, k_650, k_900, k_901, k_999, k_1700, k_2600, k_2601, k_2602, k_2603, k_2604, k_2610, k_2618, k_2682, k_2777, k_2844, k_2868, k_2880, k_3245, k_3250, k_9551, k_9999, k_65536, k_100000, k_999999, k_1000000, k_2147483647, lt_T, lt_F, le_T, le_F, eq_T, eq_F, ↓reduceIte, not_true_eq_false, not_false_eq_true, or_true, or_false, true_or, false_or, and_true, true_and, and_false, false_and, h7]
      rfl)
    (fun n i i0 i1 ih => by
      have z1 := s_fst_bd w (x := i) ha
      have z2 := s_fst_bd w (x := i) hb
      rw [lX0_inBoth_5_s, c_layerIn w B ⟨i0, i1⟩ (by omega), c_layerIn w B ⟨i0, i1⟩ (by omega), ← ih, sm_s _ i0]
      rw [show s_li F i a = s_fst F i a from if_pos ha.2, show s_li F i b = s_fst F i b from if_pos hb.2]
      by_cases hc : s_fst F i a = -1
      · rw [show (if s_fst F i a ≠ -1 ∧ s_fst F i b ≠ -1 then (1 : Int) else 0) = 0 from if_neg (fun q => q.1 hc)]
        simp (disch := omega) only [iI_add, iI_sub, iI_mul, iI_neg, iI_nat, addm1, ixkI, ↓sbind, sbind, ↓bdS, bdS, ↓nm_eq, ↓jn_eq, iI_lt, iI_le, iI_eq, k_0, k_1, k_2, k_3, k_4, k_5, k_6, k_7, k_8, k_9, k_10, k_11, k_12, k_13, k_14, k_15, k_16, k_17, k_18, k_19, k_20, k_21, k_22, k_23, k_24, k_27, k_30, k_32, k_48, k_57, k_59, k_60, k_61, k_62, k_63, k_64, k_72, k_78, k_80, k_82, k_97, k_99, k_100, k_122, k_244, k_255, k_268, k_280, k_300, k_432, k_650, k_900, k_901, k_999, k_1700, k_2600, k_2601, k_2602, k_2603, k_2604, k_2610, k_2618, k_2682, k_2777, k_2844, k_2868, k_2880, k_3245, k_3250, k_9551, k_9999, k_65536, k_100000, k_999999, k_1000000, k_2147483647, lt_T, lt_F, le_T, le_F, eq_T, eq_F, ↓reduceIte, not_true_eq_false, not_false_eq_true, or_true, or_false, true_or, false_or, and_true, true_and, and_false, false_and, h7, Int.add_zero]
      · by_cases hd : s_fst F i b = -1
        · rw [show (if s_fst F i a ≠ -1 ∧ s_fst F i b ≠ -1 then (1 : Int) else 0) = 0 from if_neg (fun q => q.2 hd)]
          simp (disch := omega) only [iI_add, iI_sub, iI_mul, iI_neg, iI_nat, addm1, ixkI, ↓sbind, sbind, ↓bdS, bdS, ↓nm_eq, ↓jn_eq, iI_lt, iI_le, iI_eq, k_0, k_1, k_2, k_3, k_4, k_5, k_6, k_7, k_8, k_9, k_10, k_11, k_12, k_13, k_14, k_15, k_16, k_17, k_18, k_19, k_20, k_21, k_22, k_23, k_24, k_27, k_30, k_32, k_48, k_57, k_59, k_60, k_61, k_62, k_63, k_64, k_72, k_78, k_80, k_82, k_97, k_99, k_100, k_122, k_244, k_255, k_268, k_280, k_300, k_432, k_650, k_900, k_901, k_999, k_1700, k_2600, k_2601, k_2602, k_2603, k_2604, k_2610, k_2618, k_2682, k_2777, k_2844, k_2868, k_2880, k_3245, k_3250, k_9551, k_9999, k_65536, k_100000, k_999999, k_1000000, k_2147483647, lt_T, lt_F, le_T, le_F, eq_T, eq_F, ↓reduceIte, not_true_eq_false, not_false_eq_true, or_true, or_false, true_or, false_or, and_true, true_and, and_false, false_and, h7, Int.add_zero]
        · rw [show (if s_fst F i a ≠ -1 ∧ s_fst F i b ≠ -1 then (1 : Int) else 0) = 1 from if_pos ⟨hc, hd⟩]
          simp (disch := omega) only [iI_add, iI_sub, iI_mul, iI_neg, iI_nat, addm1, ixkI, ↓sbind, sbind, ↓bdS, bdS, ↓nm_eq, ↓jn_eq, iI_lt, iI_le, iI_eq, k_0, k_1, k_2, k_3, k_4, k_5, k_6, k_7, k_8, k_9, k_10, k_11, k_12, k_13, k_14, k_15, k_16, k_17, k_18, k_19, k_20, k_21, k_22, k_23, k_24, k_27, k_30, k_32, k_48, k_57, k_59, k_60, k_61, k_62, k_63, k_64, k_72, k_78, k_80, k_82, k_97, k_99, k_100, k_122, k_244, k_255, k_268, k_280, k_300, k_432, k_650, k_900, k_901, k_999, k_1700, k_2600, k_2601, k_2602, k_2603, k_2604, k_2610, k_2618, k_2682, k_2777, k_2844, k_2868, k_2880, k_3245, k_3250, k_9551, k_9999, k_65536, k_100000, k_999999, k_1000000, k_2147483647, lt_T, lt_F, le_T, le_F, eq_T, eq_F, ↓reduceIte, not_true_eq_false, not_false_eq_true, or_true, or_false, true_or, false_or, and_true, true_and, and_false, false_and, h7])
    φ 0 (by omega) (by omega) (by omega)
  unfold fX0_inBoth
  simp only [k_0]
  exact key
def s_ov (F : Fld) (h k : Int) : Bool := an (fun o => s_fst F o h != -1 && s_hig F o k) (bN F)
def s_ud (F : Fld) (h k : Int) : Bool := an (fun o => s_fst F o h != -1 && s_hig F k o) (bN F)
def s_gap (F : Fld) (h : Int) : Int := sm (fun k => if s_fst F k h = -1 ∧ s_ov F h k = true ∧ s_ud F h k = true then 1 else 0) (bN F)
theorem c_isBetween (w : WF F) (B : BC t F M) {k h : Int} (hk : 0 ≤ k ∧ k < bN F) (hh : 0 ≤ h ∧ h < F 0 1 0) {φ : Nat} (hφ : 100 < φ) : fX0_isBetween φ t (iI k) (iI h) M = some (bI (s_ov F h k && s_ud F h k)) := by
  have h1 := w.n1
  have hn := bN_rng w
  have h7 := B.2.2.1
  have key := lup (N := bN F) (P := fun n i => ∀ K, lX0_isBetween_8 K φ t (iI k) (iI h) M n (bI (an (fun o => s_fst F o h != -1 && s_hig F o k) i)) (bI (an (fun o => s_fst F o h != -1 && s_hig F k o) i)) (iI i) = K (bI (s_ov F h k)) (bI (s_ud F h k)))
    (fun n K => by
      rw [lX0_isBetween_8_s]
      simp (disch := omega) only [iI_add, iI_sub, iI_mul, iI_neg, iI_nat, addm1, ixkI, ↓sbind, sbind, ↓bdS, bdS, ↓nm_eq, ↓jn_eq, iI_lt, iI_le, iI_eq, k_0, k_1, k_2, k_3, k_4, k_5, k_6, k_7, k_8, k_9, k_10, k_11, k_12, k_13, k_14, k_15, k_16, k_17, k_18, k_19, k_20, k_21, k_22, k_23, k_24, k_27, k_30, k_32, k_48, k_57, k_59, k_60, k_61, k_62, k_63, k_64, k_72, k_78, k_80, k_82, k_97, k_99, k_100, k_122, k_244, k_255, k_268, k_280, k_300, k_432, k_650, k_900, k_901, k_999, k_1700, k_2600, k_2601, k_2602, k_2603, k_2604, k_2610, k_2618, k_2682, k_2777, k_2844, k_2868, k_2880, k_3245, k_3250, k_9551, k_9999, k_65536, k_100000, k_999999, k_1000000, k_2147483647, lt_T, lt_F, le_T, le_F, eq_T, eq_F, ↓reduceIte, not_true_eq_false, not_false_eq_true, or_true, or_false, true_or, false_or, and_true, true_and, and_false, false_and, h7]
      rfl)
    (fun n i i0 i1 ih K => by
      have z1 := s_fst_bd w (x := i) hh
      rw [lX0_isBetween_8_s, c_layerIn w B ⟨i0, i1⟩ (by omega), c_isHigher w B hk ⟨i0, i1⟩ hφ, c_isHigher w B ⟨i0, i1⟩ hk hφ, ← ih K, an_s _ i0, an_s _ i0]
      rw [show s_li F i h = s_fst F i h from if_pos hh.2]
      by_cases hc : s_fst F i h = -1
      · rw [show (s_fst F i h != -1) = false from by simp [hc]]
        simp (disch := omega) only [iI_add, iI_sub, iI_mul, iI_neg, iI_nat, addm1, ixkI, ↓sbind, sbind, ↓bdS, bdS, ↓nm_eq, ↓jn_eq, iI_lt, iI_le, iI_eq, k_0, k_1, k_2, k_3, k_4, k_5, k_6, k_7, k_8, k_9, k_10, k_11, k_12, k_13, k_14, k_15, k_16, k_17, k_18, k_19, k_20, k_21, k_22, k_23, k_24, k_27, k_30, k_32, k_48, k_57, k_59, k_60, k_61, k_62, k_63, k_64, k_72, k_78, k_80, k_82, k_97, k_99, k_100, k_122, k_244, k_255, k_268, k_280, k_300, k_432, k_650, k_900, k_901, k_999, k_1700, k_2600, k_2601, k_2602, k_2603, k_2604, k_2610, k_2618, k_2682, k_2777, k_2844, k_2868, k_2880, k_3245, k_3250, k_9551, k_9999, k_65536, k_100000, k_999999, k_1000000, k_2147483647, lt_T, lt_F, le_T, le_F, eq_T, eq_F, ↓reduceIte, not_true_eq_false, not_false_eq_true, or_true, or_false, true_or, false_or, and_true, true_and, and_false, false_and, h7, Bool.false_and, Bool.or_false]
      · rw [show (s_fst F i h != -1) = true from by simp [hc]]
        simp (disch := omega) only [iI_add, iI_sub, iI_mul, iI_neg, iI_nat, addm1, ixkI, ↓sbind, sbind, ↓bdS, bdS, ↓nm_eq, ↓jn_eq, iI_lt, iI_le, iI_eq, k_0, k_1, k_2, k_3, k_4, k_5, k_6, k_7, k_8, k_9, k_10, k_11, k_12, k_13, k_14, k_15, k_16, k_17, k_18, k_19, k_20, k_21, k_22, k_23, k_24, k_27, k_30, k_32, k_48, k_57, k_59, k_60, k_61, k_62, k_63, k_64, k_72, k_78, k_80, k_82, k_97, k_99, k_100, k_122, k_244, k_255, k_268, k_280, k_300, k_432, k_650, k_900, k_901, k_999, k_1700, k_2600, k_2601, k_2602, k_2603, k_2604, k_2610, k_2618, k_2682, k_2777, k_2844, k_2868, k_2880, k_3245, k_3250, k_9551, k_9999, k_65536, k_100000, k_999999, k_1000000, k_2147483647, lt_T, lt_F, le_T, le_F, eq_T, eq_F, ↓reduceIte, not_true_eq_false, not_false_eq_true, or_true, or_false, true_or, false_or, and_true, true_and, and_false, false_and, h7, Bool.true_and, bI_0]
        cases an (fun o => s_fst F o h != -1 && s_hig F o k) i <;> cases an (fun o => s_fst F o h != -1 && s_hig F k o) i <;> cases s_hig F i k <;> cases s_hig F k i <;> rfl)
    φ 0 (by omega) (by omega) (by omega)
  unfold fX0_isBetween
  simp only [k_0, k_1]
  refine (key _).trans ?_
  cases s_ov F h k <;> cases s_ud F h k <;> rfl
theorem c_gapsIn (w : WF F) (B : BC t F M) {h : Int} (hh : 0 ≤ h ∧ h < F 0 1 0) {φ : Nat} (hφ : 100 < φ) : fX0_gapsIn φ t (iI h) M = some (iI (s_gap F h)) := by
  have h1 := w.n1
  have hn := bN_rng w
  have h7 := B.2.2.1
  have key := lup (N := bN F) (P := fun n i => lX0_gapsIn_4 φ t (iI h) M n (iI (sm (fun k => if s_fst F k h = -1 ∧ s_ov F h k = true ∧ s_ud F h k = true then 1 else 0) i)) (iI i) = some (iI (s_gap F h)))
    (fun n => by
      rw [lX0_gapsIn_4_s]
      simp (disch := omega) only [iI_add, iI_sub, iI_mul, iI_neg, iI_nat, addm1, ixkI, ↓sbind, sbind, ↓bdS, bdS, ↓nm_eq, ↓jn_eq, iI_lt, iI_le, iI_eq, k_0, k_1, k_2, k_3, k_4, k_5, k_6, k_7, k_8, k_9, k_10, k_11, k_12, k_13, k_14, k_15, k_16, k_17, k_18, k_19, k_20, k_21, k_22, k_23, k_24, k_27, k_30, k_32, k_48, k_57, k_59, k_60, k_61, k_62, k_63, k_64, k_72, k_78, k_80, k_82, k_97, k_99, k_100, k_122, k_244, k_255, k_268, k_280, k_300, k_432, k_650, k_900, k_901, k_999, k_1700, k_2600, k_2601, k_2602, k_2603, k_2604, k_2610, k_2618, k_2682, k_2777, k_2844, k_2868, k_2880, k_3245, k_3250, k_9551, k_9999, k_65536, k_100000, k_999999, k_1000000, k_2147483647, lt_T, lt_F, le_T, le_F, eq_T, eq_F, ↓reduceIte, not_true_eq_false, not_false_eq_true, or_true, or_false, true_or, false_or, and_true, true_and, and_false, false_and, h7]
      rfl)
    (fun n i i0 i1 ih => by
      have z1 := s_fst_bd w (x := i) hh
      rw [lX0_gapsIn_4_s, c_layerIn w B ⟨i0, i1⟩ (by omega), c_isBetween w B ⟨i0, i1⟩ hh hφ, ← ih, sm_s _ i0]
      rw [show s_li F i h = s_fst F i h from if_pos hh.2]
      by_cases hc : s_fst F i h = -1
      · simp (disch := omega) only [iI_add, iI_sub, iI_mul, iI_neg, iI_nat, addm1, ixkI, ↓sbind, sbind, ↓bdS, bdS, ↓nm_eq, ↓jn_eq, iI_lt, iI_le, iI_eq, k_0, k_1, k_2, k_3, k_4, k_5, k_6, k_7, k_8, k_9, k_10, k_11, k_12, k_13, k_14, k_15, k_16, k_17, k_18, k_19, k_20, k_21, k_22, k_23, k_24, k_27, k_30, k_32, k_48, k_57, k_59, k_60, k_61, k_62, k_63, k_64, k_72, k_78, k_80, k_82, k_97, k_99, k_100, k_122, k_244, k_255, k_268, k_280, k_300, k_432, k_650, k_900, k_901, k_999, k_1700, k_2600, k_2601, k_2602, k_2603, k_2604, k_2610, k_2618, k_2682, k_2777, k_2844, k_2868, k_2880, k_3245, k_3250, k_9551, k_9999, k_65536, k_100000, k_999999, k_1000000, k_2147483647, lt_T, lt_F, le_T, le_F, eq_T, eq_F, ↓reduceIte, not_true_eq_false, not_false_eq_true, or_true, or_false, true_or, false_or, and_true, true_and, and_false, false_and, h7, bI_0]
        cases s_ov F h i <;> cases s_ud F h i <;> simp
      · rw [show (if s_fst F i h = -1 ∧ s_ov F h i = true ∧ s_ud F h i = true then (1 : Int) else 0) = 0 from if_neg (fun q => hc q.1)]
        simp (disch := omega) only [iI_add, iI_sub, iI_mul, iI_neg, iI_nat, addm1, ixkI, ↓sbind, sbind, ↓bdS, bdS, ↓nm_eq, ↓jn_eq, iI_lt, iI_le, iI_eq, k_0, k_1, k_2, k_3, k_4, k_5, k_6, k_7, k_8, k_9, k_10, k_11, k_12, k_13, k_14, k_15, k_16, k_17, k_18, k_19, k_20, k_21, k_22, k_23, k_24, k_27, k_30, k_32, k_48, k_57, k_59, k_60, k_61, k_62, k_63, k_64, k_72, k_78, k_80, k_82, k_97, k_99, k_100, k_122, k_244, k_255, k_268, k_280, k_300, k_432, k_650, k_900, k_901, k_999, k_1700, k_2600, k_2601, k_2602, k_2603, k_2604, k_2610, k_2618, k_2682, k_2777, k_2844, k_2868, k_2880, k_3245, k_3250, k_9551, k_9999, k_65536, k_100000, k_999999, k_1000000, k_2147483647, lt_T, lt_F, le_T, le_F, eq_T, eq_F, ↓reduceIte, not_true_eq_false, not_false_eq_true, or_true, or_false, true_or, false_or, and_true, true_and, and_false, false_and, h7, Int.add_zero])
    φ 0 (by omega) (by omega) (by omega)
  unfold fX0_gapsIn
  simp only [k_0]
  exact key
end BQ
