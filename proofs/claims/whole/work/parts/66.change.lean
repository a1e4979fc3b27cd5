/-! changes of the field: laying, wearing off -/
def u_thn (F : Fld) (h v : Int) : Fld := fun k a b => if k = 5 ∧ a = h ∧ b = 0 then v else F k a b
def u_rmv (F : Fld) (h : Int) : Fld := fun k a b => if k = 3 ∧ a = h ∧ b = 2 then F 3 h 2 - 1 else if (k = 4 ∨ k = 5) ∧ a = h ∧ 0 ≤ b ∧ b < F 3 h 2 - 1 then F k h (b + 1) else F k a b
def u_ins (F : Fld) (h r v : Int) : Fld := fun k a b => if k = 3 ∧ a = h ∧ b = 2 then F 3 h 2 + 1 else if k = 4 ∧ a = h ∧ b = 0 then r else if k = 5 ∧ a = h ∧ b = 0 then v else if (k = 4 ∨ k = 5) ∧ a = h ∧ 1 ≤ b ∧ b ≤ F 3 h 2 then F k h (b - 1) else F k a b
/-- all but layers is as it was -/
def Lk (F F' : Fld) : Prop := (∀ k, k ≠ 3 → k ≠ 4 → k ≠ 5 → F' k = F k) ∧ ∀ a, F' 3 a 0 = F 3 a 0 ∧ F' 3 a 1 = F 3 a 1
theorem Lk.refl (F : Fld) : Lk F F := ⟨fun _ _ _ _ => rfl, fun _ => ⟨rfl, rfl⟩⟩
theorem Lk.trans {F F1 F2 : Fld} (h1 : Lk F F1) (h2 : Lk F1 F2) : Lk F F2 := ⟨fun k a b c => (h2.1 k a b c).trans (h1.1 k a b c), fun a => ⟨(h2.2 a).1.trans (h1.2 a).1, (h2.2 a).2.trans (h1.2 a).2⟩⟩
theorem Lk.thn (F : Fld) (h v : Int) : Lk F (u_thn F h v) := ⟨fun k _ _ h5 => by funext a b; exact if_neg (fun q => h5 q.1), fun a => ⟨if_neg (fun q => by cases q.1), if_neg (fun q => by cases q.1)⟩⟩
theorem Lk.rmv (F : Fld) (h : Int) : Lk F (u_rmv F h) := ⟨fun k h3 h4 h5 => by
  funext a b
  unfold u_rmv
  rw [if_neg (fun q => h3 q.1), if_neg (fun q => q.1.elim h4 h5)], fun a => ⟨by
  unfold u_rmv
  rw [if_neg (fun q => by have := q.2.2; omega), if_neg (fun q => q.1.elim (fun z => by cases z) (fun z => by cases z))], by
  unfold u_rmv
  rw [if_neg (fun q => by have := q.2.2; omega), if_neg (fun q => q.1.elim (fun z => by cases z) (fun z => by cases z))]⟩⟩
theorem Lk.ins (F : Fld) (h r v : Int) : Lk F (u_ins F h r v) := ⟨fun k h3 h4 h5 => by
  funext a b
  unfold u_ins
  rw [if_neg (fun q => h3 q.1), if_neg (fun q => h4 q.1), if_neg (fun q => h5 q.1), if_neg (fun q => q.1.elim h4 h5)], fun a => ⟨by
  unfold u_ins
  rw [if_neg (fun q => by have := q.2.2; omega), if_neg (fun q => by cases q.1), if_neg (fun q => by cases q.1), if_neg (fun q => q.1.elim (fun z => by cases z) (fun z => by cases z))], by
  unfold u_ins
  rw [if_neg (fun q => by have := q.2.2; omega), if_neg (fun q => by cases q.1), if_neg (fun q => by cases q.1), if_neg (fun q => q.1.elim (fun z => by cases z) (fun z => by cases z))]⟩⟩
theorem thn_5 (F : Fld) (h v : Int) : u_thn F h v 5 h 0 = v := if_pos ⟨rfl, rfl, rfl⟩
theorem thn_5n (F : Fld) {h v a b : Int} (q : a ≠ h ∨ b ≠ 0) : u_thn F h v 5 a b = F 5 a b := if_neg (fun z => q.elim (fun w => w z.2.1) (fun w => w z.2.2))
theorem thn_k (F : Fld) {h v a b : Int} {k : Nat} (q : k ≠ 5) : u_thn F h v k a b = F k a b := if_neg (fun z => q z.1)
theorem rmv_3 (F : Fld) (h : Int) : u_rmv F h 3 h 2 = F 3 h 2 - 1 := if_pos ⟨rfl, rfl, rfl⟩
theorem rmv_s (F : Fld) {h b : Int} {k : Nat} (hk : k = 4 ∨ k = 5) (hb : 0 ≤ b ∧ b < F 3 h 2 - 1) : u_rmv F h k h b = F k h (b + 1) := by
  unfold u_rmv
  rw [if_neg (fun q => by rcases hk with z | z <;> (rw [z] at q; cases q.1)), if_pos ⟨hk, rfl, hb.1, hb.2⟩]
theorem rmv_o (F : Fld) {h a b : Int} {k : Nat} (ha : a ≠ h) : u_rmv F h k a b = F k a b := by
  unfold u_rmv
  rw [if_neg (fun q => ha q.2.1), if_neg (fun q => ha q.2.1)]
theorem rmv_e (F : Fld) {h b : Int} {k : Nat} (hk : k = 4 ∨ k = 5) (hb : F 3 h 2 - 1 ≤ b) : u_rmv F h k h b = F k h b := by
  unfold u_rmv
  rw [if_neg (fun q => by rcases hk with z | z <;> (rw [z] at q; cases q.1)), if_neg (fun q => by have := q.2.2.2; omega)]
theorem uins_3 (F : Fld) (h r v : Int) : u_ins F h r v 3 h 2 = F 3 h 2 + 1 := if_pos ⟨rfl, rfl, rfl⟩
theorem uins_o (F : Fld) {h r v a b : Int} {k : Nat} (ha : a ≠ h) : u_ins F h r v k a b = F k a b := by
  unfold u_ins
  rw [if_neg (fun q => ha q.2.1), if_neg (fun q => ha q.2.1), if_neg (fun q => ha q.2.1), if_neg (fun q => ha q.2.1)]
theorem uins_40 (F : Fld) (h r v : Int) : u_ins F h r v 4 h 0 = r := by
  unfold u_ins
  rw [if_neg (fun q => by cases q.1), if_pos ⟨rfl, rfl, rfl⟩]
theorem uins_50 (F : Fld) (h r v : Int) : u_ins F h r v 5 h 0 = v := by
  unfold u_ins
  rw [if_neg (fun q => by cases q.1), if_neg (fun q => by cases q.1), if_pos ⟨rfl, rfl, rfl⟩]
theorem uins_s (F : Fld) {h r v b : Int} {k : Nat} (hk : k = 4 ∨ k = 5) (hb : 1 ≤ b ∧ b ≤ F 3 h 2) : u_ins F h r v k h b = F k h (b - 1) := by
  unfold u_ins
  rw [if_neg (fun q => by rcases hk with z | z <;> (rw [z] at q; cases q.1)), if_neg (fun q => by have := q.2.2; omega), if_neg (fun q => by have := q.2.2; omega), if_pos ⟨hk, rfl, hb.1, hb.2⟩]
theorem uins_e (F : Fld) {h r v b : Int} {k : Nat} (hk : k = 4 ∨ k = 5) (hb : b ≠ 0 ∧ (b < 1 ∨ F 3 h 2 < b)) : u_ins F h r v k h b = F k h b := by
  unfold u_ins
  rw [if_neg (fun q => by rcases hk with z | z <;> (rw [z] at q; cases q.1)), if_neg (fun q => hb.1 q.2.2), if_neg (fun q => hb.1 q.2.2), if_neg (fun q => by have := q.2.2; omega)]
/-- a change of layers keeps the field well made -/
theorem WF.lk {F F' : Fld} (w : WF F) (k : Lk F F') (hn : ∀ h, 0 ≤ h → h < F 0 1 0 → 0 ≤ F' 3 h 2 ∧ F' 3 h 2 ≤ 12) (hl : ∀ h l, 0 ≤ h → h < F 0 1 0 → 0 ≤ l → l < F' 3 h 2 → (0 ≤ F' 4 h l ∧ F' 4 h l < F 0 0 0) ∧ 1 ≤ F' 5 h l ∧ F' 5 h l ≤ 999) : WF F' := by
  obtain ⟨k1, k2⟩ := k
  have e0 := k1 0 (by decide) (by decide) (by decide)
  have e1 := k1 1 (by decide) (by decide) (by decide)
  have e2 := k1 2 (by decide) (by decide) (by decide)
  have e6 := k1 6 (by decide) (by decide) (by decide)
  have e7 := k1 7 (by decide) (by decide) (by decide)
  have et : ∀ t, s_turn F' t = s_turn F t := fun t => by
    unfold s_turn s_turn3
    rw [e6, (k2 _).1, (k2 _).2, (k2 _).1, (k2 _).2, (k2 _).1, (k2 _).2]
  unfold WF
  rw [e0, e1, e2, e6, e7]
  refine ⟨w.1, w.2.1, w.2.2.1, fun h a b => ?_, hl, w.2.2.2.2.2.1, fun t a b => ?_, w.2.2.2.2.2.2.2⟩
  · rw [(k2 h).1, (k2 h).2]
    exact ⟨w.x ⟨a, b⟩, w.y ⟨a, b⟩, hn h a b⟩
  · rw [et t]
    exact w.tn ⟨a, b⟩
theorem GR.lk {g : Nat} {F F' : Fld} {M M' : Mem} (G : GR g F M) (k : Lk F F') (hc : ∀ x, g ≤ x → x ≤ g + 13 → x ≠ g + 7 → x ≠ g + 8 → x ≠ g + 9 → M'.1 x = M.1 x) (hn : ∀ h, 0 ≤ h → h < F 0 1 0 → M'.1 (g + 7) h.toNat = iI (F' 3 h 2)) (hl : ∀ h l, 0 ≤ h → h < F 0 1 0 → 0 ≤ l → l < F' 3 h 2 → M'.1 (g + 8) (h * 12 + l).toNat = iI (F' 4 h l) ∧ M'.1 (g + 9) (h * 12 + l).toNat = iI (F' 5 h l)) : GR g F' M' := by
  obtain ⟨k1, k2⟩ := k
  have e0 := k1 0 (by decide) (by decide) (by decide)
  have e1 := k1 1 (by decide) (by decide) (by decide)
  have e2 := k1 2 (by decide) (by decide) (by decide)
  have e6 := k1 6 (by decide) (by decide) (by decide)
  have e7 := k1 7 (by decide) (by decide) (by decide)
  obtain ⟨g0, g1, g2, g3, g4, g5, g6, g7⟩ := G
  unfold GR
  rw [e0, e1, e2, e6, e7, hc g (by omega) (by omega) (by omega) (by omega) (by omega), hc (g + 2) (by omega) (by omega) (by omega) (by omega) (by omega), hc (g + 3) (by omega) (by omega) (by omega) (by omega) (by omega), hc (g + 5) (by omega) (by omega) (by omega) (by omega) (by omega), hc (g + 6) (by omega) (by omega) (by omega) (by omega) (by omega), hc (g + 10) (by omega) (by omega) (by omega) (by omega) (by omega), hc (g + 12) (by omega) (by omega) (by omega) (by omega) (by omega), hc (g + 13) (by omega) (by omega) (by omega) (by omega) (by omega)]
  refine ⟨g0, g1, g2, fun h a b => ?_, hl, g5, g6, g7⟩
  rw [(k2 h).1, (k2 h).2]
  exact ⟨(g3 h a b).1, (g3 h a b).2.1, hn h a b⟩
theorem MR.lk {m : Nat} {F F' : Fld} {M M' : Mem} (G : MR m 0 F M) (k : Lk F F') (hc : ∀ e : Int, 0 ≤ e → e < 82 ∨ 244 ≤ e → M'.1 (m + 1) e.toNat = M.1 (m + 1) e.toNat) (hn : ∀ h, 0 ≤ h → h < 6 → M'.1 (m + 1) (82 + 27 * h).toNat = M.1 (m + 1) (82 + 27 * h).toNat ∧ M'.1 (m + 1) (82 + 27 * h + 1).toNat = M.1 (m + 1) (82 + 27 * h + 1).toNat ∧ M'.1 (m + 1) (82 + 27 * h + 2).toNat = iI (F' 3 h 2)) (hl : ∀ h l, 0 ≤ h → h < 6 → 0 ≤ l → l < 12 → M'.1 (m + 1) (82 + 27 * h + 3 + 2 * l).toNat = iI (F' 4 h l) ∧ M'.1 (m + 1) (82 + 27 * h + 3 + 2 * l + 1).toNat = iI (F' 5 h l)) : MR m 0 F' M' := by
  obtain ⟨k1, k2⟩ := k
  have e0 := k1 0 (by decide) (by decide) (by decide)
  have e1 := k1 1 (by decide) (by decide) (by decide)
  have e2 := k1 2 (by decide) (by decide) (by decide)
  have e6 := k1 6 (by decide) (by decide) (by decide)
  have e7 := k1 7 (by decide) (by decide) (by decide)
  have gx := fun h (a : 0 ≤ h) (b : h < 6) => G.x (k := h) ⟨a, b⟩
  have gy := fun h (a : 0 ≤ h) (b : h < 6) => G.hw (k := h) (w := 1) ⟨⟨a, b⟩, by omega⟩
  obtain ⟨g0, g1, g2, g3, g4, g5, g6⟩ := G
  unfold MR
  rw [e0, e1, e2, e6, e7]
  refine ⟨fun x a b => ?_, fun x a b => ?_, fun x y a b c d => ?_, fun h x a b c d => ?_, fun h l a b c d => ?_, fun t x a b c d => ?_, fun f x a b c d => ?_⟩
  · rw [hc _ (by omega) (by omega)]; exact g0 x a b
  · rw [hc _ (by omega) (by omega)]; exact g1 x a b
  · rw [hc _ (by omega) (by omega)]; exact g2 x y a b c d
  · obtain ⟨n0, n1, n2⟩ := hn h a b
    rw [Int.zero_add]
    by_cases x0 : x = 0
    · rw [x0, Int.add_zero, n0, (k2 h).1]; exact gx h a b
    · by_cases x1 : x = 1
      · rw [x1, n1, (k2 h).2]; exact gy h a b
      · rw [show x = 2 from by omega, n2]
  · rw [Int.zero_add, Int.zero_add]; exact hl h l a b c d
  · rw [hc _ (by omega) (by omega)]; exact g5 t x a b c d
  · rw [hc _ (by omega) (by omega)]; exact g6 f x a b c d
/-! laying -/
def s_wl (F : Fld) (h r k : Int) : Int := if 0 < F 3 h 2 ∧ F 4 h 0 = r then (if F 5 h 0 + k ≤ 999 then 0 else 7) else if F 3 h 2 = 12 then 4 else 0
def s_lay2 (F : Fld) (h r k : Int) : Fld := if 0 < F 3 h 2 ∧ F 4 h 0 = r then u_thn F h (F 5 h 0 + k) else u_ins F h r k
section CH
variable {g m : Nat} {F : Fld} {M : Mem}
theorem Lk.lay2 (F : Fld) (h r k : Int) : Lk F (s_lay2 F h r k) := by
  unfold s_lay2
  by_cases hc : 0 < F 3 h 2 ∧ F 4 h 0 = r
  · rw [if_pos hc]; exact Lk.thn F h _
  · rw [if_neg hc]; exact Lk.ins F h r k
theorem WF.lay2 (w : WF F) {h r k : Int} (hh : 0 ≤ h ∧ h < F 0 1 0) (hr : 0 ≤ r ∧ r < F 0 0 0) (hk : 1 ≤ k ∧ k ≤ 999) (hw : s_wl F h r k = 0) : WF (s_lay2 F h r k) := by
  have nl := w.nl hh
  refine w.lk (Lk.lay2 F h r k) (fun a a0 a1 => ?_) (fun a l a0 a1 l0 l1 => ?_)
  · unfold s_lay2
    unfold s_wl at hw
    by_cases hc : 0 < F 3 h 2 ∧ F 4 h 0 = r
    · rw [if_pos hc, thn_k F (by decide)]; exact w.nl ⟨a0, a1⟩
    · rw [if_neg hc] at hw ⊢
      by_cases ha : a = h
      · rw [ha, uins_3]
        by_cases h12 : F 3 h 2 = 12
        · rw [if_pos h12] at hw; omega
        · omega
      · rw [uins_o F ha]; exact w.nl ⟨a0, a1⟩
  · unfold s_lay2 at l1 ⊢
    unfold s_wl at hw
    by_cases hc : 0 < F 3 h 2 ∧ F 4 h 0 = r
    · rw [if_pos hc, thn_k F (by decide)] at l1
      rw [if_pos hc] at hw ⊢
      have q := w.th ⟨a0, a1⟩ ⟨l0, l1⟩
      rw [thn_k F (by decide)]
      refine ⟨w.rk ⟨a0, a1⟩ ⟨l0, l1⟩, ?_⟩
      by_cases ha : a = h ∧ l = 0
      · rw [ha.1, ha.2] at q ⊢
        rw [thn_5]
        by_cases h9 : F 5 h 0 + k ≤ 999
        · omega
        · rw [if_neg h9] at hw; omega
      · rw [thn_5n F (by omega)]; exact q
    · rw [if_neg hc] at l1 ⊢
      by_cases ha : a = h
      · rw [ha, uins_3] at l1
        rw [ha]
        by_cases hl : l = 0
        · rw [hl, uins_40, uins_50]; exact ⟨hr, hk⟩
        · rw [uins_s F (Or.inl rfl) (by omega), uins_s F (Or.inr rfl) (by omega)]
          exact ⟨w.rk hh (by omega), w.th hh (by omega)⟩
      · rw [uins_o F ha] at l1
        rw [uins_o F ha, uins_o F ha]
        exact ⟨w.rk ⟨a0, a1⟩ ⟨l0, l1⟩, w.th ⟨a0, a1⟩ ⟨l0, l1⟩⟩
theorem c_layOn (w : WF F) (G : GR g F M) {h r k : Int} (hh : 0 ≤ h ∧ h < F 0 1 0) (hr : 0 ≤ r ∧ r < F 0 0 0) (hk : 1 ≤ k ∧ k ≤ 999) : (s_wl F h r k ≠ 0 → fX2_layOn g (iI h) (iI r) (iI k) M = some (iI (s_wl F h r k), M)) ∧ (s_wl F h r k = 0 → ∃ M', fX2_layOn g (iI h) (iI r) (iI k) M = some (iI 0, M') ∧ GR g (s_lay2 F h r k) M' ∧ Fr (Rg (g + 7) (g + 9)) M M') := by
  have n0 := w.n0
  have n1 := w.n1
  have nl := w.nl hh
  have et := c_hasRockOnTop w G hh (r := r) (by omega)
  unfold s_onTop at et
  by_cases hc : 0 < F 3 h 2 ∧ F 4 h 0 = r
  · rw [decide_eq_true hc] at et
    have q := w.th hh (l := 0) (by omega)
    have e9 := G.th (h := h) (l := 0) (by omega)
    rw [Int.add_zero] at e9
    unfold s_wl
    rw [if_pos hc]
    by_cases h9 : F 5 h 0 + k ≤ 999
    · rw [if_pos h9]
      refine ⟨fun z => absurd rfl z, fun _ => ⟨stI M (g + 9) (h * 12).toNat (iI (F 5 h 0 + k)), ?_, ?_, Fr.stI ⟨by omega, by omega⟩ (Fr.refl M)⟩⟩
      · unfold fX2_layOn
        rw [et]
        simp (disch := omega) only [iI_add, iI_sub, iI_mul, iI_neg, iI_nat, addm1, ixkI, ↓sbind, sbind, ↓bdS, bdS, ↓nm_eq, ↓jn_eq, iI_lt, iI_le, iI_eq, k_0, k_1, k_2, k_3, k_4, k_5, k_6, k_7, k_8, k_9, k_10, k_11, k_12, k_13, k_14, k_15, k_16, k_17, k_18, k_19, k_20, k_21, k_22, k_23, k_24, k_27, k_30, k_32, k_48, k_57, k_59, k_60, k_61, k_62, k_63, k_64, k_72, k_78, k_80, k_82, k_97, k_99, k_100, k_122, k_244, k_255, k_268, k_280, k_300, k_432, k_650, k_900, k_901, k_999, k_1700, k_2600, k_2601, k_2602, k_2603, k_2604, k_2610, k_2618, k_2682, k_2777, k_2844, k_2868, k_2880, k_3245, k_3250, k_9551, k_9999, k_65536, k_100000, k_999999, k_1000000, k_2147483647, lt_T, lt_F, le_T, le_F, eq_T, eq_F, ↓reduceIte, not_true_eq_false, not_false_eq_true, or_true, or_false, true_or, false_or, and_true, true_and, and_false, false_and, bI_t, c_slot, Int.add_zero, e9]
      · unfold s_lay2
        rw [if_pos hc]
        refine G.lk (Lk.thn F h _) (fun x a b c d e => by funext z; exact rI_ng (by omega)) (fun a a0 a1 => ?_) (fun a l a0 a1 l0 l1 => ?_)
        · rw [rI_ng (by omega), thn_k F (by decide)]; exact G.nl ⟨a0, a1⟩
        · rw [thn_k F (by decide)] at l1
          have nla := w.nl ⟨a0, a1⟩
          rw [rI_ng (by omega), thn_k F (by decide)]
          refine ⟨G.rk ⟨⟨a0, a1⟩, l0, l1⟩, ?_⟩
          by_cases ha : a = h ∧ l = 0
          · rw [ha.1, ha.2, thn_5, Int.add_zero, rI_eq]
          · rw [thn_5n F (by omega), rI_nk (by omega)]
            exact G.th ⟨⟨a0, a1⟩, l0, l1⟩
    · rw [if_neg h9]
      refine ⟨fun _ => ?_, fun z => by omega⟩
      unfold fX2_layOn
      rw [et]
      simp (disch := omega) only [iI_add, iI_sub, iI_mul, iI_neg, iI_nat, addm1, ixkI, ↓sbind, sbind, ↓bdS, bdS, ↓nm_eq, ↓jn_eq, iI_lt, iI_le, iI_eq, k_0, k_1, k_2, k_3, k_4, k_5, k_6, k_7, k_8, k_9, k_10, k_11, k_12, k_13, k_14, k_15, k_16, k_17, k_18, k_19, k_20, k_21, k_22, k_23, k_24, k_27, k_30, k_32, k_48, k_57, k_59, k_60, k_61, k_62, k_63, k_64, k_72, k_78, k_80, k_82, k_97, k_99, k_100, k_122, k_244, k_255, k_268, k_280, k_300, k_432, k_650, k_900, k_901, k_999, k_1700, k_2600, k_2601, k_2602, k_2603, k_2604, k_2610, k_2618, k_2682, k_2777, k_2844, k_2868, k_2880, k_3245, k_3250, k_9551, k_9999, k_65536, k_100000, k_999999, k_1000000, k_2147483647, lt_T, lt_F, le_T, le_F, eq_T, eq_F, ↓reduceIte, not_true_eq_false, not_false_eq_true, or_true, or_false, true_or, false_or, and_true, true_and, and_false, false_and, bI_t, c_slot, Int.add_zero, e9]
  · rw [decide_eq_false hc] at et
    unfold s_wl
    rw [if_neg hc]
    by_cases h12 : F 3 h 2 = 12
    · rw [if_pos h12]
      refine ⟨fun _ => ?_, fun z => by omega⟩
      unfold fX2_layOn
      rw [et]
      simp (disch := omega) only [iI_add, iI_sub, iI_mul, iI_neg, iI_nat, addm1, ixkI, ↓sbind, sbind, ↓bdS, bdS, ↓nm_eq, ↓jn_eq, iI_lt, iI_le, iI_eq, k_0, k_1, k_2, k_3, k_4, k_5, k_6, k_7, k_8, k_9, k_10, k_11, k_12, k_13, k_14, k_15, k_16, k_17, k_18, k_19, k_20, k_21, k_22, k_23, k_24, k_27, k_30, k_32, k_48, k_57, k_59, k_60, k_61, k_62, k_63, k_64, k_72, k_78, k_80, k_82, k_97, k_99, k_100, k_122, k_244, k_255, k_268, k_280, k_300, k_432, k_650, k_900, k_901, k_999, k_1700, k_2600, k_2601, k_2602, k_2603, k_2604, k_2610, k_2618, k_2682, k_2777, k_2844, k_2868, k_2880, k_3245, k_3250, k_9551, k_9999, k_65536, k_100000, k_999999, k_1000000, k_2147483647, lt_T, lt_F, le_T, le_F, eq_T, eq_F, ↓reduceIte, not_true_eq_false, not_false_eq_true, or_true, or_false, true_or, false_or, and_true, true_and, and_false, false_and, bI_f, c_slot, Int.add_zero, G.nl]
    · rw [if_neg h12]
      refine ⟨fun z => absurd rfl z, fun _ => ?_⟩
      have hF1 : Fr (Rg (g + 7) (g + 9)) M (cpI M (g + 8) (g + 8) (h * 12).toNat (h * 12 + 1).toNat (F 3 h 2).toNat) := Fr.cpI ⟨by omega, by omega⟩ (Fr.refl M)
      have e7 : (cpI M (g + 8) (g + 8) (h * 12).toNat (h * 12 + 1).toNat (F 3 h 2).toNat).1 (g + 7) h.toNat = iI (F 3 h 2) := by rw [ci_ng (by omega)]; exact G.nl hh
      refine ⟨stI (stI (stI (cpI (cpI M (g + 8) (g + 8) (h * 12).toNat (h * 12 + 1).toNat (F 3 h 2).toNat) (g + 9) (g + 9) (h * 12).toNat (h * 12 + 1).toNat (F 3 h 2).toNat) (g + 8) (h * 12).toNat (iI r)) (g + 9) (h * 12).toNat (iI k)) (g + 7) h.toNat (iI (F 3 h 2 + 1)), ?_, ?_, Fr.stI ⟨by omega, by omega⟩ (Fr.stI ⟨by omega, by omega⟩ (Fr.stI ⟨by omega, by omega⟩ (Fr.cpI ⟨by omega, by omega⟩ hF1)))⟩
      · unfold fX2_layOn
        rw [et]
        simp (disch := omega) only [iI_add, iI_sub, iI_mul, iI_neg, iI_nat, addm1, ixkI, ↓sbind, sbind, ↓bdS, bdS, ↓nm_eq, ↓jn_eq, iI_lt, iI_le, iI_eq, k_0, k_1, k_2, k_3, k_4, k_5, k_6, k_7, k_8, k_9, k_10, k_11, k_12, k_13, k_14, k_15, k_16, k_17, k_18, k_19, k_20, k_21, k_22, k_23, k_24, k_27, k_30, k_32, k_48, k_57, k_59, k_60, k_61, k_62, k_63, k_64, k_72, k_78, k_80, k_82, k_97, k_99, k_100, k_122, k_244, k_255, k_268, k_280, k_300, k_432, k_650, k_900, k_901, k_999, k_1700, k_2600, k_2601, k_2602, k_2603, k_2604, k_2610, k_2618, k_2682, k_2777, k_2844, k_2868, k_2880, k_3245, k_3250, k_9551, k_9999, k_65536, k_100000, k_999999, k_1000000, k_2147483647, lt_T, lt_F, le_T, le_F, eq_T, eq_F, ↓reduceIte, not_true_eq_false, not_false_eq_true, or_true, or_false, true_or, false_or, and_true, true_and, and_false, false_and, bI_f, c_slot, Int.add_zero, G.nl, cpk_in, e7, rI_ng, ci_ng]
      · unfold s_lay2
        rw [if_neg hc]
        refine G.lk (Lk.ins F h r k) (fun x a b c d e => by funext z; rw [rI_ng (by omega), rI_ng (by omega), rI_ng (by omega), ci_ng (by omega), ci_ng (by omega)]) (fun a a0 a1 => ?_) (fun a l a0 a1 l0 l1 => ?_)
        · by_cases ha : a = h
          · rw [ha, rI_eq, uins_3]
          · rw [rI_nk (by omega), rI_ng (by omega), rI_ng (by omega), ci_ng (by omega), ci_ng (by omega), uins_o F ha]; exact G.nl ⟨a0, a1⟩
        · have nla := w.nl ⟨a0, a1⟩
          by_cases ha : a = h
          · rw [ha, uins_3] at l1
            rw [ha]
            by_cases hl : l = 0
            · rw [hl, Int.add_zero, uins_40, uins_50]
              refine ⟨?_, ?_⟩
              · rw [rI_ng (by omega), rI_ng (by omega), rI_eq]
              · rw [rI_ng (by omega), rI_eq]
            · rw [uins_s F (Or.inl rfl) (by omega), uins_s F (Or.inr rfl) (by omega)]
              refine ⟨?_, ?_⟩
              · rw [rI_ng (by omega), rI_ng (by omega), rI_nk (by omega), ci_ng (by omega), ci_at rfl (by omega), show (h * 12).toNat + ((h * 12 + l).toNat - (h * 12 + 1).toNat) = (h * 12 + (l - 1)).toNat from by omega]
                exact G.rk (by omega)
              · rw [rI_ng (by omega), rI_nk (by omega), rI_ng (by omega), ci_at rfl (by omega), ci_ng (by omega), show (h * 12).toNat + ((h * 12 + l).toNat - (h * 12 + 1).toNat) = (h * 12 + (l - 1)).toNat from by omega]
                exact G.th (by omega)
          · rw [uins_o F ha] at l1
            rw [uins_o F ha, uins_o F ha]
            refine ⟨?_, ?_⟩
            · rw [rI_ng (by omega), rI_ng (by omega), rI_nk (by omega), ci_ng (by omega), ci_nb (by omega)]
              exact G.rk ⟨⟨a0, a1⟩, l0, l1⟩
            · rw [rI_ng (by omega), rI_nk (by omega), rI_ng (by omega), ci_nb (by omega), ci_ng (by omega)]
              exact G.th ⟨⟨a0, a1⟩, l0, l1⟩
end CH
