/-! a hole and its beds: the changes -/
def u_hole (F : Fld) (x y : Int) : Fld := fun k a b => if k = 0 ∧ a = 1 ∧ b = 0 then F 0 1 0 + 1 else if k = 3 ∧ a = F 0 1 0 ∧ b = 0 then x else if k = 3 ∧ a = F 0 1 0 ∧ b = 1 then y else if k = 3 ∧ a = F 0 1 0 ∧ b = 2 then 0 else F k a b
def u_bed (F : Fld) (h r v : Int) : Fld := fun k a b => if k = 3 ∧ a = h ∧ b = 2 then F 3 h 2 + 1 else if k = 4 ∧ a = h ∧ b = F 3 h 2 then r else if k = 5 ∧ a = h ∧ b = F 3 h 2 then v else F k a b
section HO
variable {t m ft gs g : Nat} {F F' : Fld} {nm nm' : NMs} {M : Mem} {B : Int → Int} {n p s x y h r v : Int}
theorem uh_01 (F : Fld) (x y : Int) : u_hole F x y 0 1 0 = F 0 1 0 + 1 := if_pos ⟨rfl, rfl, rfl⟩
theorem uh_0 (F : Fld) (x y : Int) {w : Int} (h : w ≠ 1) : u_hole F x y 0 w 0 = F 0 w 0 := by
  unfold u_hole
  rw [if_neg (fun q => h q.2.1), if_neg (fun q => by cases q.1), if_neg (fun q => by cases q.1), if_neg (fun q => by cases q.1)]
theorem uh_k (F : Fld) (x y : Int) {k : Nat} (h0 : k ≠ 0) (h3 : k ≠ 3) : u_hole F x y k = F k := by
  funext a b
  unfold u_hole
  rw [if_neg (fun q => h0 q.1), if_neg (fun q => h3 q.1), if_neg (fun q => h3 q.1), if_neg (fun q => h3 q.1)]
theorem uh_3 (F : Fld) (x y : Int) {a : Int} (b : Int) (h : a ≠ F 0 1 0) : u_hole F x y 3 a b = F 3 a b := by
  unfold u_hole
  rw [if_neg (fun q => by cases q.1), if_neg (fun q => h q.2.1), if_neg (fun q => h q.2.1), if_neg (fun q => h q.2.1)]
theorem uh_x (F : Fld) (x y : Int) : u_hole F x y 3 (F 0 1 0) 0 = x := by
  unfold u_hole
  rw [if_neg (fun q => by cases q.1), if_pos ⟨rfl, rfl, rfl⟩]
theorem uh_y (F : Fld) (x y : Int) : u_hole F x y 3 (F 0 1 0) 1 = y := by
  unfold u_hole
  rw [if_neg (fun q => by cases q.1), if_neg (fun q => by omega), if_pos ⟨rfl, rfl, rfl⟩]
theorem uh_n (F : Fld) (x y : Int) : u_hole F x y 3 (F 0 1 0) 2 = 0 := by
  unfold u_hole
  rw [if_neg (fun q => by cases q.1), if_neg (fun q => by omega), if_neg (fun q => by omega), if_pos ⟨rfl, rfl, rfl⟩]
theorem DW.hole {c : Int} (d : DW F nm) (hH : F 0 1 0 < 6) (hx : 0 ≤ x ∧ x ≤ 999) (hy : 0 ≤ y ∧ y ≤ 999) (hc : okN c) : DW (u_hole F x y) (u_nm nm 1 (F 0 1 0) c) := by
  obtain ⟨w, ⟨a1, a2, a3⟩, dg⟩ := d
  have w' := w
  obtain ⟨⟨n0, n1, n2, n3⟩, sk, cp, hl, ly, co, tn, fl⟩ := w
  have hst : ∀ t, 0 ≤ t → t < F 0 2 0 → s_turn (u_hole F x y) t = s_turn F t := fun t t0 t1 => by
    have q0 := co t 0 t0 t1 (by omega) (by omega)
    have q1 := co t 1 t0 t1 (by omega) (by omega)
    have q2 := co t 2 t0 t1 (by omega) (by omega)
    unfold s_turn s_turn3
    rw [uh_k F x y (k := 6) (by omega) (by omega), uh_3 F x y 0 (by omega), uh_3 F x y 1 (by omega), uh_3 F x y 0 (by omega), uh_3 F x y 1 (by omega), uh_3 F x y 0 (by omega), uh_3 F x y 1 (by omega)]
  refine ⟨?_, ⟨fun r x0 x1 => ?_, fun r x0 x1 => ?_, fun r x0 x1 => ?_⟩, fun a a0 a1 => by rw [uh_k F x y (k := 2) (by omega) (by omega)]; exact dg a a0 a1⟩
  · unfold WF
    rw [uh_01, uh_0 F x y (w := 0) (by omega), uh_0 F x y (w := 2) (by omega), uh_0 F x y (w := 3) (by omega), uh_k F x y (k := 1) (by omega) (by omega), uh_k F x y (k := 2) (by omega) (by omega), uh_k F x y (k := 4) (by omega) (by omega), uh_k F x y (k := 5) (by omega) (by omega), uh_k F x y (k := 6) (by omega) (by omega), uh_k F x y (k := 7) (by omega) (by omega)]
    refine ⟨⟨n0, by omega, n2, n3⟩, sk, cp, fun h h0 h1 => ?_, fun h l h0 h1 l0 l1 => ?_, fun t k a b c d => ?_, fun t a b => by rw [hst t a b]; exact tn t a b, fl⟩
    · by_cases q : h = F 0 1 0
      · rw [q, uh_x, uh_y, uh_n]; omega
      · rw [uh_3 F x y 0 q, uh_3 F x y 1 q, uh_3 F x y 2 q]; exact hl h h0 (by omega)
    · by_cases q : h = F 0 1 0
      · rw [q, uh_n] at l1; omega
      · rw [uh_3 F x y 2 q] at l1; exact ly h l h0 (by omega) l0 l1
    · have := co t k a b c d; omega
  · rw [uh_0 F x y (by omega)] at x1
    rw [nm_o nm (Or.inr (by omega))]; exact a1 r x0 x1
  · rw [uh_01] at x1
    by_cases q : r = F 0 1 0
    · rw [q, nm_t]; exact hc
    · rw [nm_o nm (Or.inl q)]; exact a2 r x0 (by omega)
  · rw [uh_0 F x y (by omega)] at x1
    rw [nm_o nm (Or.inr (by omega))]; exact a3 r x0 x1
theorem ub_k (F : Fld) (h r v : Int) {k : Nat} (h3 : k ≠ 3) (h4 : k ≠ 4) (h5 : k ≠ 5) : u_bed F h r v k = F k := by
  funext a b
  unfold u_bed
  rw [if_neg (fun q => h3 q.1), if_neg (fun q => h4 q.1), if_neg (fun q => h5 q.1)]
theorem ub_o (F : Fld) (r v : Int) {h a : Int} (k : Nat) (b : Int) (q : a ≠ h) : u_bed F h r v k a b = F k a b := by
  unfold u_bed
  rw [if_neg (fun z => q z.2.1), if_neg (fun z => q z.2.1), if_neg (fun z => q z.2.1)]
theorem ub_3 (F : Fld) (h r v : Int) {a b : Int} (q : b ≠ 2) : u_bed F h r v 3 a b = F 3 a b := by
  unfold u_bed
  rw [if_neg (fun z => q z.2.2), if_neg (fun z => by cases z.1), if_neg (fun z => by cases z.1)]
theorem ub_n (F : Fld) (h r v : Int) : u_bed F h r v 3 h 2 = F 3 h 2 + 1 := if_pos ⟨rfl, rfl, rfl⟩
theorem ub_4 (F : Fld) (h r v : Int) : u_bed F h r v 4 h (F 3 h 2) = r := by
  unfold u_bed
  rw [if_neg (fun q => by cases q.1), if_pos ⟨rfl, rfl, rfl⟩]
theorem ub_5 (F : Fld) (h r v : Int) : u_bed F h r v 5 h (F 3 h 2) = v := by
  unfold u_bed
  rw [if_neg (fun q => by cases q.1), if_neg (fun q => by cases q.1), if_pos ⟨rfl, rfl, rfl⟩]
theorem ub_45 (F : Fld) (h r v : Int) {k : Nat} (hk : k = 4 ∨ k = 5) (a : Int) {b : Int} (q : b ≠ F 3 h 2) : u_bed F h r v k a b = F k a b := by
  unfold u_bed
  rw [if_neg (fun z => by rcases hk with hk | hk <;> omega), if_neg (fun z => q z.2.2), if_neg (fun z => q z.2.2)]
theorem DW.bed (d : DW F nm) (hh : 0 ≤ h ∧ h < F 0 1 0) (hL : F 3 h 2 < 12) (hr : 0 ≤ r ∧ r < F 0 0 0) (hv : 1 ≤ v ∧ v ≤ 999) : DW (u_bed F h r v) nm := by
  obtain ⟨w, wn, dg⟩ := d
  obtain ⟨ns, sk, cp, hl, ly, co, tn, fl⟩ := w
  have hst : ∀ t, s_turn (u_bed F h r v) t = s_turn F t := fun t => by
    unfold s_turn s_turn3
    rw [ub_k F h r v (k := 6) (by omega) (by omega) (by omega), ub_3 F h r v (by omega), ub_3 F h r v (by omega), ub_3 F h r v (by omega), ub_3 F h r v (by omega), ub_3 F h r v (by omega), ub_3 F h r v (by omega)]
  refine ⟨?_, ?_, fun a a0 a1 => by rw [ub_k F h r v (k := 2) (by omega) (by omega) (by omega)]; exact dg a a0 a1⟩
  · unfold WF
    rw [ub_k F h r v (k := 0) (by omega) (by omega) (by omega), ub_k F h r v (k := 1) (by omega) (by omega) (by omega), ub_k F h r v (k := 2) (by omega) (by omega) (by omega), ub_k F h r v (k := 6) (by omega) (by omega) (by omega), ub_k F h r v (k := 7) (by omega) (by omega) (by omega)]
    refine ⟨ns, sk, cp, fun a a0 a1 => ?_, fun a l a0 a1 l0 l1 => ?_, co, fun t a b => by rw [hst t]; exact tn t a b, fl⟩
    · rw [ub_3 F h r v (by omega), ub_3 F h r v (by omega)]
      have := hl a a0 a1
      by_cases q : a = h
      · rw [q] at this
        rw [q, ub_n]; omega
      · rw [ub_o F r v 3 2 q]; exact this
    · by_cases q : a = h
      · rw [q] at l1 ⊢
        rw [ub_n] at l1
        by_cases q2 : l = F 3 h 2
        · rw [q2, ub_4, ub_5]; omega
        · rw [ub_45 F h r v (Or.inl rfl) h q2, ub_45 F h r v (Or.inr rfl) h q2]; exact ly h l hh.1 hh.2 l0 (by omega)
      · rw [ub_o F r v 3 2 q] at l1
        rw [ub_o F r v 4 l q, ub_o F r v 5 l q]; exact ly a l a0 a1 l0 l1
  · unfold WN
    rw [ub_k F h r v (k := 0) (by omega) (by omega) (by omega)]
    exact wn
/-! the class -/
theorem c_addHole {c : Int} (d : DW F nm) (hH : F 0 1 0 < 6) (G : GR g F M) (hn : NCn g F nm M) : ∃ M1, fX2_addHole g (lI c) (iI x) (iI y) M = some ((), M1) ∧ GR g (u_hole F x y) M1 ∧ NCn g (u_hole F x y) (u_nm nm 1 (F 0 1 0) c) M1 ∧ M1.2.2 = M.2.2 ∧ Fr (Rg g (g + 7)) M M1 := by
  have n1 := d.1.n1
  have g4 := G.n1
  obtain ⟨M5, hM5⟩ : ∃ M5, M5 = stI (stI (stI (stI (stL M (g + 4) (F 0 1 0).toNat (lI c)) (g + 5) (F 0 1 0).toNat (iI x)) (g + 6) (F 0 1 0).toNat (iI y)) (g + 7) (F 0 1 0).toNat (iI 0)) g 4 (iI (F 0 1 0 + 1)) := ⟨_, rfl⟩
  have ot : ∀ z, z ≠ g → z ≠ g + 5 → z ≠ g + 6 → z ≠ g + 7 → M5.1 z = M.1 z := fun z z0 z5 z6 z7 => by
    funext j
    rw [hM5, rI_ng z0, rI_ng z7, rI_ng z6, rI_ng z5, rL_1]
  have og : ∀ j, j ≠ 4 → M5.1 g j = M.1 g j := fun j hj => by
    rw [hM5, rI_nk hj, rI_ng (by omega), rI_ng (by omega), rI_ng (by omega), rL_1]
  have oc : M5.1 g 4 = iI (F 0 1 0 + 1) := by rw [hM5]; exact rI_at rfl rfl
  have o5 : ∀ j, M5.1 (g + 5) j = if j = (F 0 1 0).toNat then iI x else M.1 (g + 5) j := fun j => by
    rw [hM5, rI_ng (by omega), rI_ng (by omega), rI_ng (by omega), stI_1]
    by_cases q : j = (F 0 1 0).toNat
    · rw [if_pos ⟨rfl, q⟩, if_pos q]
    · rw [if_neg (fun z => q z.2), if_neg q, rL_1]
  have o6 : ∀ j, M5.1 (g + 6) j = if j = (F 0 1 0).toNat then iI y else M.1 (g + 6) j := fun j => by
    rw [hM5, rI_ng (by omega), rI_ng (by omega), stI_1]
    by_cases q : j = (F 0 1 0).toNat
    · rw [if_pos ⟨rfl, q⟩, if_pos q]
    · rw [if_neg (fun z => q z.2), if_neg q, rI_ng (by omega), rL_1]
  have o7 : ∀ j, M5.1 (g + 7) j = if j = (F 0 1 0).toNat then iI 0 else M.1 (g + 7) j := fun j => by
    rw [hM5, rI_ng (by omega), stI_1]
    by_cases q : j = (F 0 1 0).toNat
    · rw [if_pos ⟨rfl, q⟩, if_pos q]
    · rw [if_neg (fun z => q z.2), if_neg q, rI_ng (by omega), rI_ng (by omega), rL_1]
  have on : ∀ z j, M5.2.1 z j = (stL M (g + 4) (F 0 1 0).toNat (lI c)).2.1 z j := fun z j => by
    rw [hM5, rI_2, rI_2, rI_2, rI_2]
  refine ⟨M5, ?_, ?_, ⟨fun r a b => ?_, fun r a b => ?_, fun r a b => ?_⟩, by rw [hM5]; rfl, ?_⟩
  · have e1 : (stL M (g + 4) (F 0 1 0).toNat (lI c)).1 g 4 = iI (F 0 1 0) := g4
    have e2 : (stI (stL M (g + 4) (F 0 1 0).toNat (lI c)) (g + 5) (F 0 1 0).toNat (iI x)).1 g 4 = iI (F 0 1 0) := by rw [rI_ng (by omega)]; exact e1
    have e3 : (stI (stI (stL M (g + 4) (F 0 1 0).toNat (lI c)) (g + 5) (F 0 1 0).toNat (iI x)) (g + 6) (F 0 1 0).toNat (iI y)).1 g 4 = iI (F 0 1 0) := by rw [rI_ng (by omega)]; exact e2
    have e4 : (stI (stI (stI (stL M (g + 4) (F 0 1 0).toNat (lI c)) (g + 5) (F 0 1 0).toNat (iI x)) (g + 6) (F 0 1 0).toNat (iI y)) (g + 7) (F 0 1 0).toNat (iI 0)).1 g 4 = iI (F 0 1 0) := by rw [rI_ng (by omega)]; exact e3
    unfold fX2_addHole
    simp (disch := omega) only [iI_add, iI_sub, iI_mul, iI_neg, iI_nat, addm1, ixkI, ↓sbind, sbind, ↓bdS, bdS, ↓nm_eq, ↓jn_eq, iI_lt, iI_le, iI_eq, k_0, k_1, k_2, k_3, k_4, k_5, k_6, k_7, k_8, k_9, k_10, k_11, k_12, k_13, k_14, k_15, k_16, k_17, k_18, k_19, k_20, k_21, k_22, k_23, k_24, k_27, k_30, k_32, k_48, k_57, k_59, k_60, k_61, k_62, k_63, k_64, k_72, k_78, k_80, k_82, k_97, k_99, k_100, k_122, k_244, k_255, k_268, k_280, k_300, k_432, k_650, k_900, k_901, k_999, k_1700, k_2600, k_2601, k_2602, k_2603, k_2604, k_2610, k_2618, k_2682, k_2777, k_2844, k_2868, k_2880, k_3245, k_3250, k_9551, k_9999, k_65536, k_100000, k_999999, k_1000000, k_2147483647, lt_T, lt_F, le_T, le_F, eq_T, eq_F, ↓reduceIte, not_true_eq_false, not_false_eq_true, or_true, or_false, true_or, false_or, and_true, true_and, and_false, false_and, g4, e1, e2, e3, e4]
    rw [hM5]
  · obtain ⟨⟨h0, h1, h2, h3⟩, sk, cp, hl, ly, co, fl, ft⟩ := G
    unfold GR
    rw [uh_01, uh_0 F x y (w := 0) (by omega), uh_0 F x y (w := 2) (by omega), uh_0 F x y (w := 3) (by omega), uh_k F x y (k := 1) (by omega) (by omega), uh_k F x y (k := 2) (by omega) (by omega), uh_k F x y (k := 4) (by omega) (by omega), uh_k F x y (k := 5) (by omega) (by omega), uh_k F x y (k := 6) (by omega) (by omega), uh_k F x y (k := 7) (by omega) (by omega), ot (g + 2) (by omega) (by omega) (by omega) (by omega), ot (g + 3) (by omega) (by omega) (by omega) (by omega), ot (g + 8) (by omega) (by omega) (by omega) (by omega), ot (g + 9) (by omega) (by omega) (by omega) (by omega), ot (g + 10) (by omega) (by omega) (by omega) (by omega), ot (g + 12) (by omega) (by omega) (by omega) (by omega), ot (g + 13) (by omega) (by omega) (by omega) (by omega), oc, og 0 (by omega), og 11 (by omega), og 13 (by omega)]
    refine ⟨⟨h0, rfl, h2, h3⟩, sk, cp, fun h a b => ?_, fun h l a b l0 l1 => ?_, co, fl, ft⟩
    · rw [o5, o6, o7]
      by_cases q : h = F 0 1 0
      · rw [if_pos (by omega), if_pos (by omega), if_pos (by omega), q, uh_x, uh_y, uh_n]; exact ⟨rfl, rfl, rfl⟩
      · rw [if_neg (by omega), if_neg (by omega), if_neg (by omega), uh_3 F x y 0 q, uh_3 F x y 1 q, uh_3 F x y 2 q]; exact hl h a (by omega)
    · by_cases q : h = F 0 1 0
      · rw [q, uh_n] at l1; omega
      · rw [uh_3 F x y 2 q] at l1; exact ly h l a (by omega) l0 l1
  · rw [uh_0 F x y (by omega)] at b
    rw [on, rL_ng (by omega), nm_o nm (Or.inr (by omega))]; exact hn.1 r a b
  · rw [uh_01] at b
    rw [on]
    by_cases q : r = F 0 1 0
    · rw [rL_at rfl (by omega), q, nm_t]
    · rw [rL_nk (by omega), nm_o nm (Or.inl q)]; exact hn.2.1 r a (by omega)
  · rw [uh_0 F x y (by omega)] at b
    rw [on, rL_ng (by omega), nm_o nm (Or.inr (by omega))]; exact hn.2.2 r a b
  · rw [hM5]
    exact Fr.stI ⟨by omega, by omega⟩ (Fr.stI ⟨by omega, by omega⟩ (Fr.stI ⟨by omega, by omega⟩ (Fr.stI ⟨by omega, by omega⟩ (Fr.stL ⟨by omega, by omega⟩ (Fr.refl M)))))
theorem c_addLayer (d : DW F nm) (hH : 0 < F 0 1 0) (hh : h = F 0 1 0 - 1) (hL : F 3 h 2 < 12) (G : GR g F M) (hn : NCn g F nm M) : ∃ M1, fX2_addLayer g (iI r) (iI v) M = some ((), M1) ∧ GR g (u_bed F h r v) M1 ∧ NCn g (u_bed F h r v) nm M1 ∧ M1.2.2 = M.2.2 ∧ Fr (Rg (g + 7) (g + 9)) M M1 := by
  have n1 := d.1.n1
  have g4 := G.n1
  have hb : 0 ≤ h ∧ h < F 0 1 0 := by omega
  have nl := d.1.nl hb
  have g7 := G.nl hb
  obtain ⟨M5, hM5⟩ : ∃ M5, M5 = stI (stI (stI M (g + 8) (h * 12 + F 3 h 2).toNat (iI r)) (g + 9) (h * 12 + F 3 h 2).toNat (iI v)) (g + 7) h.toNat (iI (F 3 h 2 + 1)) := ⟨_, rfl⟩
  have ot : ∀ z, z ≠ g + 7 → z ≠ g + 8 → z ≠ g + 9 → M5.1 z = M.1 z := fun z z7 z8 z9 => by
    funext j
    rw [hM5, rI_ng z7, rI_ng z9, rI_ng z8]
  refine ⟨M5, ?_, ?_, ?_, by rw [hM5]; rfl, ?_⟩
  · have e1 : (stI (stI M (g + 8) (h * 12 + F 3 h 2).toNat (iI r)) (g + 9) (h * 12 + F 3 h 2).toNat (iI v)).1 (g + 7) h.toNat = iI (F 3 h 2) := by rw [rI_ng (by omega), rI_ng (by omega)]; exact g7
    unfold fX2_addLayer fX10_slot
    rw [g4, k_1, iI_sub, ← hh, nm_eq]
    have z12 : (12 : Int32) = iI 12 := rfl
    simp (disch := omega) only [iI_add, iI_sub, iI_mul, iI_neg, iI_nat, addm1, ixkI, ↓sbind, sbind, ↓bdS, bdS, ↓nm_eq, ↓jn_eq, iI_lt, iI_le, iI_eq, k_0, k_1, k_2, k_3, k_4, k_5, k_6, k_7, k_8, k_9, k_10, k_11, k_12, k_13, k_14, k_15, k_16, k_17, k_18, k_19, k_20, k_21, k_22, k_23, k_24, k_27, k_30, k_32, k_48, k_57, k_59, k_60, k_61, k_62, k_63, k_64, k_72, k_78, k_80, k_82, k_97, k_99, k_100, k_122, k_244, k_255, k_268, k_280, k_300, k_432, k_650, k_900, k_901, k_999, k_1700, k_2600, k_2601, k_2602, k_2603, k_2604, k_2610, k_2618, k_2682, k_2777, k_2844, k_2868, k_2880, k_3245, k_3250, k_9551, k_9999, k_65536, k_100000, k_999999, k_1000000, k_2147483647, lt_T, lt_F, le_T, le_F, eq_T, eq_F, ↓reduceIte, not_true_eq_false, not_false_eq_true, or_true, or_false, true_or, false_or, and_true, true_and, and_false, false_and, z12, g7, e1]
    rw [hM5]
  · obtain ⟨ns, sk, cp, hl, ly, co, fl, ft⟩ := G
    unfold GR
    rw [ub_k F h r v (k := 0) (by omega) (by omega) (by omega), ub_k F h r v (k := 1) (by omega) (by omega) (by omega), ub_k F h r v (k := 2) (by omega) (by omega) (by omega), ub_k F h r v (k := 6) (by omega) (by omega) (by omega), ub_k F h r v (k := 7) (by omega) (by omega) (by omega), ot g (by omega) (by omega) (by omega), ot (g + 2) (by omega) (by omega) (by omega), ot (g + 3) (by omega) (by omega) (by omega), ot (g + 5) (by omega) (by omega) (by omega), ot (g + 6) (by omega) (by omega) (by omega), ot (g + 10) (by omega) (by omega) (by omega), ot (g + 12) (by omega) (by omega) (by omega), ot (g + 13) (by omega) (by omega) (by omega)]
    refine ⟨ns, sk, cp, fun a a0 a1 => ?_, fun a l a0 a1 l0 l1 => ?_, co, fl, ft⟩
    · rw [ub_3 F h r v (by omega), ub_3 F h r v (by omega)]
      have q0 := hl a a0 a1
      refine ⟨q0.1, q0.2.1, ?_⟩
      by_cases q : a = h
      · rw [q, ub_n, hM5]; exact rI_at rfl rfl
      · rw [ub_o F r v 3 2 q, hM5, rI_nk (by omega), rI_ng (by omega), rI_ng (by omega)]; exact q0.2.2
    · have p8 : ∀ j, M5.1 (g + 8) j = if j = (h * 12 + F 3 h 2).toNat then iI r else M.1 (g + 8) j := fun j => by
        rw [hM5, rI_ng (by omega), rI_ng (by omega), stI_1]
        by_cases q : j = (h * 12 + F 3 h 2).toNat
        · rw [if_pos ⟨rfl, q⟩, if_pos q]
        · rw [if_neg (fun z => q z.2), if_neg q]
      have p9 : ∀ j, M5.1 (g + 9) j = if j = (h * 12 + F 3 h 2).toNat then iI v else M.1 (g + 9) j := fun j => by
        rw [hM5, rI_ng (by omega), stI_1]
        by_cases q : j = (h * 12 + F 3 h 2).toNat
        · rw [if_pos ⟨rfl, q⟩, if_pos q]
        · rw [if_neg (fun z => q z.2), if_neg q, rI_ng (by omega)]
      have nla := d.1.nl ⟨a0, a1⟩
      rw [p8, p9]
      by_cases q : a = h
      · rw [q] at l1 ⊢
        rw [ub_n] at l1
        by_cases q2 : l = F 3 h 2
        · rw [q2, ub_4, ub_5, if_pos rfl, if_pos rfl]; exact ⟨rfl, rfl⟩
        · rw [ub_45 F h r v (Or.inl rfl) h q2, ub_45 F h r v (Or.inr rfl) h q2, if_neg (by omega), if_neg (by omega)]; exact ly h l hb.1 hb.2 l0 (by omega)
      · rw [ub_o F r v 3 2 q] at l1
        rw [ub_o F r v 4 l q, ub_o F r v 5 l q, if_neg (by omega), if_neg (by omega)]; exact ly a l a0 a1 l0 l1
  · unfold NCn
    rw [ub_k F h r v (k := 0) (by omega) (by omega) (by omega), hM5]
    exact hn
  · rw [hM5]
    exact Fr.stI ⟨by omega, by omega⟩ (Fr.stI ⟨by omega, by omega⟩ (Fr.stI ⟨by omega, by omega⟩ (Fr.refl M)))
/-- a hole stands there already -/
def sH (F : Fld) (x y : Int) : Bool := ff (fun h => F 3 h 0 == x && F 3 h 1 == y) (F 0 1 0) 0 != -1
theorem c_holeAt_l (w : WF F) (G : GR g F M) (hx : 0 ≤ x ∧ x ≤ 999) (hy : 0 ≤ y ∧ y ≤ 999) : ∀ (d : Nat) (i : Int), F 0 1 0 - i = d → 0 ≤ i → ∀ k, d < k → lX2_isHoleAt_2 g (iI x) (iI y) M k (iI i) = some (bI (ff (fun h => F 3 h 0 == x && F 3 h 1 == y) (F 0 1 0) i != -1)) := by
  have n1 := w.n1
  have g4 := G.n1
  intro d
  induction d with
  | zero =>
    intro i hd hi k hk
    obtain ⟨k, rfl⟩ : ∃ q, k = q + 1 := ⟨k - 1, by omega⟩
    rw [ff_e' _ (by omega), lX2_isHoleAt_2]
    simp (disch := omega) only [iI_add, iI_sub, iI_mul, iI_neg, iI_nat, addm1, ixkI, ↓sbind, sbind, ↓bdS, bdS, ↓nm_eq, ↓jn_eq, iI_lt, iI_le, iI_eq, k_0, k_1, k_2, k_3, k_4, k_5, k_6, k_7, k_8, k_9, k_10, k_11, k_12, k_13, k_14, k_15, k_16, k_17, k_18, k_19, k_20, k_21, k_22, k_23, k_24, k_27, k_30, k_32, k_48, k_57, k_59, k_60, k_61, k_62, k_63, k_64, k_72, k_78, k_80, k_82, k_97, k_99, k_100, k_122, k_244, k_255, k_268, k_280, k_300, k_432, k_650, k_900, k_901, k_999, k_1700, k_2600, k_2601, k_2602, k_2603, k_2604, k_2610, k_2618, k_2682, k_2777, k_2844, k_2868, k_2880, k_3245, k_3250, k_9551, k_9999, k_65536, k_100000, k_999999, k_1000000, k_2147483647, lt_T, lt_F, le_T, le_F, eq_T, eq_F, ↓reduceIte, not_true_eq_false, not_false_eq_true, or_true, or_false, true_or, false_or, and_true, true_and, and_false, false_and, g4]
    rfl
  | succ d ih =>
    intro i hd hi k hk
    obtain ⟨k, rfl⟩ : ∃ q, k = q + 1 := ⟨k - 1, by omega⟩
    have hb : 0 ≤ i ∧ i < F 0 1 0 := by omega
    have e1 := G.x hb
    have e2 := G.y hb
    have b1 := w.x hb
    have b2 := w.y hb
    have r1 := ih (i + 1) (by omega) (by omega) k (by omega)
    rw [lX2_isHoleAt_2]
    by_cases h1 : F 3 i 0 = x
    · by_cases h2 : F 3 i 1 = y
      · rw [ff_t (by omega) (by show (F 3 i 0 == x && F 3 i 1 == y) = true; rw [h1, h2, beq_self_eq_true, beq_self_eq_true]; rfl)]
        have : (i != -1) = true := bne_iff_ne.mpr (by omega)
        rw [this, bI_t]
        simp (disch := omega) only [iI_add, iI_sub, iI_mul, iI_neg, iI_nat, addm1, ixkI, ↓sbind, sbind, ↓bdS, bdS, ↓nm_eq, ↓jn_eq, iI_lt, iI_le, iI_eq, k_0, k_1, k_2, k_3, k_4, k_5, k_6, k_7, k_8, k_9, k_10, k_11, k_12, k_13, k_14, k_15, k_16, k_17, k_18, k_19, k_20, k_21, k_22, k_23, k_24, k_27, k_30, k_32, k_48, k_57, k_59, k_60, k_61, k_62, k_63, k_64, k_72, k_78, k_80, k_82, k_97, k_99, k_100, k_122, k_244, k_255, k_268, k_280, k_300, k_432, k_650, k_900, k_901, k_999, k_1700, k_2600, k_2601, k_2602, k_2603, k_2604, k_2610, k_2618, k_2682, k_2777, k_2844, k_2868, k_2880, k_3245, k_3250, k_9551, k_9999, k_65536, k_100000, k_999999, k_1000000, k_2147483647, lt_T, lt_F, le_T, le_F, eq_T, eq_F, ↓reduceIte, not_true_eq_false, not_false_eq_true, or_true, or_false, true_or, false_or, and_true, true_and, and_false, false_and, g4, e1, e2, h1, h2]
      · rw [ff_f (by omega) (by show (F 3 i 0 == x && F 3 i 1 == y) = false; rw [beq_eq_false_iff_ne.mpr h2, Bool.and_false])]
        simp (disch := omega) only [iI_add, iI_sub, iI_mul, iI_neg, iI_nat, addm1, ixkI, ↓sbind, sbind, ↓bdS, bdS, ↓nm_eq, ↓jn_eq, iI_lt, iI_le, iI_eq, k_0, k_1, k_2, k_3, k_4, k_5, k_6, k_7, k_8, k_9, k_10, k_11, k_12, k_13, k_14, k_15, k_16, k_17, k_18, k_19, k_20, k_21, k_22, k_23, k_24, k_27, k_30, k_32, k_48, k_57, k_59, k_60, k_61, k_62, k_63, k_64, k_72, k_78, k_80, k_82, k_97, k_99, k_100, k_122, k_244, k_255, k_268, k_280, k_300, k_432, k_650, k_900, k_901, k_999, k_1700, k_2600, k_2601, k_2602, k_2603, k_2604, k_2610, k_2618, k_2682, k_2777, k_2844, k_2868, k_2880, k_3245, k_3250, k_9551, k_9999, k_65536, k_100000, k_999999, k_1000000, k_2147483647, lt_T, lt_F, le_T, le_F, eq_T, eq_F, ↓reduceIte, not_true_eq_false, not_false_eq_true, or_true, or_false, true_or, false_or, and_true, true_and, and_false, false_and, g4, e1, e2, h1, r1]
    · rw [ff_f (by omega) (by show (F 3 i 0 == x && F 3 i 1 == y) = false; rw [beq_eq_false_iff_ne.mpr h1, Bool.false_and])]
      simp (disch := omega) only [iI_add, iI_sub, iI_mul, iI_neg, iI_nat, addm1, ixkI, ↓sbind, sbind, ↓bdS, bdS, ↓nm_eq, ↓jn_eq, iI_lt, iI_le, iI_eq, k_0, k_1, k_2, k_3, k_4, k_5, k_6, k_7, k_8, k_9, k_10, k_11, k_12, k_13, k_14, k_15, k_16, k_17, k_18, k_19, k_20, k_21, k_22, k_23, k_24, k_27, k_30, k_32, k_48, k_57, k_59, k_60, k_61, k_62, k_63, k_64, k_72, k_78, k_80, k_82, k_97, k_99, k_100, k_122, k_244, k_255, k_268, k_280, k_300, k_432, k_650, k_900, k_901, k_999, k_1700, k_2600, k_2601, k_2602, k_2603, k_2604, k_2610, k_2618, k_2682, k_2777, k_2844, k_2868, k_2880, k_3245, k_3250, k_9551, k_9999, k_65536, k_100000, k_999999, k_1000000, k_2147483647, lt_T, lt_F, le_T, le_F, eq_T, eq_F, ↓reduceIte, not_true_eq_false, not_false_eq_true, or_true, or_false, true_or, false_or, and_true, true_and, and_false, false_and, g4, e1, r1]
theorem c_holeAt (w : WF F) (G : GR g F M) (hx : 0 ≤ x ∧ x ≤ 999) (hy : 0 ≤ y ∧ y ≤ 999) {φ : Nat} (hφ : 100 < φ) : fX2_isHoleAt φ g (iI x) (iI y) M = some (bI (sH F x y)) := by
  have n1 := w.n1
  exact c_holeAt_l w G hx hy (F 0 1 0).toNat 0 (by omega) (by omega) φ (by omega)
end HO
