/-! grounds and years taken over; names -/
section TO
variable {g h y z : Nat} {F : Fld} {M : Mem} {Y : Yr} {N : Int}
abbrev NMs : Type := Nat → Int → Int
def NCn (g : Nat) (F : Fld) (nm : NMs) (M : Mem) : Prop := (∀ r : Int, 0 ≤ r → r < F 0 0 0 → M.2.1 (g + 1) r.toNat = lI (nm 0 r)) ∧ (∀ r : Int, 0 ≤ r → r < F 0 1 0 → M.2.1 (g + 4) r.toNat = lI (nm 1 r)) ∧ ∀ r : Int, 0 ≤ r → r < F 0 3 0 → M.2.1 (g + 11) r.toNat = lI (nm 2 r)
theorem NCn.fr {nm : NMs} {S : Nat → Prop} {M' : Mem} (hF : Fr S M M') (h1 : ¬ S (g + 1)) (h4 : ¬ S (g + 4)) (h11 : ¬ S (g + 11)) (h : NCn g F nm M) : NCn g F nm M' := by
  unfold NCn at h ⊢
  rw [(hF (g + 1) h1).2.1, (hF (g + 4) h4).2.1, (hF (g + 11) h11).2.1]
  exact h
theorem NCn.cn {nm : NMs} {F1 : Fld} (f : ∀ a, F1 0 a 0 = F 0 a 0) (h : NCn g F nm M) : NCn g F1 nm M := by
  unfold NCn at h ⊢
  rw [f 0, f 1, f 3]
  exact h
def tkO1 (h g : Nat) (M : Mem) : Mem := stI M h 0 (M.1 g 0)
def tkO2 (h g : Nat) (M : Mem) : Mem := stI (tkO1 h g M) h 4 ((tkO1 h g M).1 g 4)
def tkO3 (h g : Nat) (M : Mem) : Mem := stI (tkO2 h g M) h 11 ((tkO2 h g M).1 g 11)
def tkO4 (h g : Nat) (M : Mem) : Mem := stI (tkO3 h g M) h 13 ((tkO3 h g M).1 g 13)
def tkO5 (h g : Nat) (M : Mem) : Mem := cpL (tkO4 h g M) (g + 1) (h + 1) 0 0 8
def tkO6 (h g : Nat) (M : Mem) : Mem := cpI (tkO5 h g M) (g + 2) (h + 2) 0 0 8
def tkO7 (h g : Nat) (M : Mem) : Mem := cpI (tkO6 h g M) (g + 3) (h + 3) 0 0 64
def tkO8 (h g : Nat) (M : Mem) : Mem := cpL (tkO7 h g M) (g + 4) (h + 4) 0 0 6
def tkO9 (h g : Nat) (M : Mem) : Mem := cpI (tkO8 h g M) (g + 5) (h + 5) 0 0 6
def tkO10 (h g : Nat) (M : Mem) : Mem := cpI (tkO9 h g M) (g + 6) (h + 6) 0 0 6
def tkO11 (h g : Nat) (M : Mem) : Mem := cpI (tkO10 h g M) (g + 7) (h + 7) 0 0 6
def tkO12 (h g : Nat) (M : Mem) : Mem := cpI (tkO11 h g M) (g + 8) (h + 8) 0 0 72
def tkO13 (h g : Nat) (M : Mem) : Mem := cpI (tkO12 h g M) (g + 9) (h + 9) 0 0 72
def tkO14 (h g : Nat) (M : Mem) : Mem := cpI (tkO13 h g M) (g + 10) (h + 10) 0 0 24
def tkO15 (h g : Nat) (M : Mem) : Mem := cpL (tkO14 h g M) (g + 11) (h + 11) 0 0 2
def tkO16 (h g : Nat) (M : Mem) : Mem := cpI (tkO15 h g M) (g + 12) (h + 12) 0 0 8
def tkO17 (h g : Nat) (M : Mem) : Mem := cpI (tkO16 h g M) (g + 13) (h + 13) 0 0 2
theorem tkO_e : fX2_takeOver h g M = some ((), tkO17 h g M) := by
  unfold fX2_takeOver
  simp (disch := omega) only [iI_add, iI_sub, iI_mul, iI_neg, iI_nat, addm1, ixkI, ↓sbind, sbind, ↓bdS, bdS, ↓nm_eq, ↓jn_eq, iI_lt, iI_le, iI_eq, k_0, k_1, k_2, k_3, k_4, k_5, k_6, k_7, k_8, k_9, k_10, k_11, k_12, k_13, k_14, k_15, k_16, k_17, k_18, k_19, k_20, k_21, k_22, k_23, k_24, k_27, k_30, k_32, k_48, k_57, k_59, k_60, k_61, k_62, k_63, k_64, k_72, k_78, k_80, k_82, k_97, k_99, k_100, k_122, k_244, k_255, k_268, k_280, k_300, k_432, k_650, k_900, k_901, k_999, k_1700, k_2600, k_2601, k_2602, k_2603, k_2604, k_2610, k_2618, k_2682, k_2777, k_2844, k_2868, k_2880, k_3245, k_3250, k_9551, k_9999, k_65536, k_100000, k_999999, k_1000000, k_2147483647, cpk_in]
  rfl
theorem tkO_c0 (hd : g + 13 < h ∨ h + 13 < g) : (tkO17 h g M).1 h 0 = M.1 g 0 := by
  unfold tkO17 tkO16 tkO15 tkO14 tkO13 tkO12 tkO11 tkO10 tkO9 tkO8 tkO7 tkO6 tkO5 tkO4 tkO3 tkO2 tkO1
  simp (disch := omega) only [rI_ng, rI_nk, rI_at, ci_ng, ci_at, ci_2, cl_1, cl_ng, cl_at, Nat.zero_add, Nat.sub_zero]
theorem tkO_c4 (hd : g + 13 < h ∨ h + 13 < g) : (tkO17 h g M).1 h 4 = M.1 g 4 := by
  unfold tkO17 tkO16 tkO15 tkO14 tkO13 tkO12 tkO11 tkO10 tkO9 tkO8 tkO7 tkO6 tkO5 tkO4 tkO3 tkO2 tkO1
  simp (disch := omega) only [rI_ng, rI_nk, rI_at, ci_ng, ci_at, ci_2, cl_1, cl_ng, cl_at, Nat.zero_add, Nat.sub_zero]
theorem tkO_c11 (hd : g + 13 < h ∨ h + 13 < g) : (tkO17 h g M).1 h 11 = M.1 g 11 := by
  unfold tkO17 tkO16 tkO15 tkO14 tkO13 tkO12 tkO11 tkO10 tkO9 tkO8 tkO7 tkO6 tkO5 tkO4 tkO3 tkO2 tkO1
  simp (disch := omega) only [rI_ng, rI_nk, rI_at, ci_ng, ci_at, ci_2, cl_1, cl_ng, cl_at, Nat.zero_add, Nat.sub_zero]
theorem tkO_c13 (hd : g + 13 < h ∨ h + 13 < g) : (tkO17 h g M).1 h 13 = M.1 g 13 := by
  unfold tkO17 tkO16 tkO15 tkO14 tkO13 tkO12 tkO11 tkO10 tkO9 tkO8 tkO7 tkO6 tkO5 tkO4 tkO3 tkO2 tkO1
  simp (disch := omega) only [rI_ng, rI_nk, rI_at, ci_ng, ci_at, ci_2, cl_1, cl_ng, cl_at, Nat.zero_add, Nat.sub_zero]
theorem tkO_i2 (hd : g + 13 < h ∨ h + 13 < g) {j : Nat} (hj : j < 8) : (tkO17 h g M).1 (h + 2) j = M.1 (g + 2) j := by
  unfold tkO17 tkO16 tkO15 tkO14 tkO13 tkO12 tkO11 tkO10 tkO9 tkO8 tkO7 tkO6 tkO5 tkO4 tkO3 tkO2 tkO1
  simp (disch := omega) only [rI_ng, rI_nk, rI_at, ci_ng, ci_at, ci_2, cl_1, cl_ng, cl_at, Nat.zero_add, Nat.sub_zero]
theorem tkO_i3 (hd : g + 13 < h ∨ h + 13 < g) {j : Nat} (hj : j < 64) : (tkO17 h g M).1 (h + 3) j = M.1 (g + 3) j := by
  unfold tkO17 tkO16 tkO15 tkO14 tkO13 tkO12 tkO11 tkO10 tkO9 tkO8 tkO7 tkO6 tkO5 tkO4 tkO3 tkO2 tkO1
  simp (disch := omega) only [rI_ng, rI_nk, rI_at, ci_ng, ci_at, ci_2, cl_1, cl_ng, cl_at, Nat.zero_add, Nat.sub_zero]
theorem tkO_i5 (hd : g + 13 < h ∨ h + 13 < g) {j : Nat} (hj : j < 6) : (tkO17 h g M).1 (h + 5) j = M.1 (g + 5) j := by
  unfold tkO17 tkO16 tkO15 tkO14 tkO13 tkO12 tkO11 tkO10 tkO9 tkO8 tkO7 tkO6 tkO5 tkO4 tkO3 tkO2 tkO1
  simp (disch := omega) only [rI_ng, rI_nk, rI_at, ci_ng, ci_at, ci_2, cl_1, cl_ng, cl_at, Nat.zero_add, Nat.sub_zero]
theorem tkO_i6 (hd : g + 13 < h ∨ h + 13 < g) {j : Nat} (hj : j < 6) : (tkO17 h g M).1 (h + 6) j = M.1 (g + 6) j := by
  unfold tkO17 tkO16 tkO15 tkO14 tkO13 tkO12 tkO11 tkO10 tkO9 tkO8 tkO7 tkO6 tkO5 tkO4 tkO3 tkO2 tkO1
  simp (disch := omega) only [rI_ng, rI_nk, rI_at, ci_ng, ci_at, ci_2, cl_1, cl_ng, cl_at, Nat.zero_add, Nat.sub_zero]
theorem tkO_i7 (hd : g + 13 < h ∨ h + 13 < g) {j : Nat} (hj : j < 6) : (tkO17 h g M).1 (h + 7) j = M.1 (g + 7) j := by
  unfold tkO17 tkO16 tkO15 tkO14 tkO13 tkO12 tkO11 tkO10 tkO9 tkO8 tkO7 tkO6 tkO5 tkO4 tkO3 tkO2 tkO1
  simp (disch := omega) only [rI_ng, rI_nk, rI_at, ci_ng, ci_at, ci_2, cl_1, cl_ng, cl_at, Nat.zero_add, Nat.sub_zero]
theorem tkO_i8 (hd : g + 13 < h ∨ h + 13 < g) {j : Nat} (hj : j < 72) : (tkO17 h g M).1 (h + 8) j = M.1 (g + 8) j := by
  unfold tkO17 tkO16 tkO15 tkO14 tkO13 tkO12 tkO11 tkO10 tkO9 tkO8 tkO7 tkO6 tkO5 tkO4 tkO3 tkO2 tkO1
  simp (disch := omega) only [rI_ng, rI_nk, rI_at, ci_ng, ci_at, ci_2, cl_1, cl_ng, cl_at, Nat.zero_add, Nat.sub_zero]
theorem tkO_i9 (hd : g + 13 < h ∨ h + 13 < g) {j : Nat} (hj : j < 72) : (tkO17 h g M).1 (h + 9) j = M.1 (g + 9) j := by
  unfold tkO17 tkO16 tkO15 tkO14 tkO13 tkO12 tkO11 tkO10 tkO9 tkO8 tkO7 tkO6 tkO5 tkO4 tkO3 tkO2 tkO1
  simp (disch := omega) only [rI_ng, rI_nk, rI_at, ci_ng, ci_at, ci_2, cl_1, cl_ng, cl_at, Nat.zero_add, Nat.sub_zero]
theorem tkO_i10 (hd : g + 13 < h ∨ h + 13 < g) {j : Nat} (hj : j < 24) : (tkO17 h g M).1 (h + 10) j = M.1 (g + 10) j := by
  unfold tkO17 tkO16 tkO15 tkO14 tkO13 tkO12 tkO11 tkO10 tkO9 tkO8 tkO7 tkO6 tkO5 tkO4 tkO3 tkO2 tkO1
  simp (disch := omega) only [rI_ng, rI_nk, rI_at, ci_ng, ci_at, ci_2, cl_1, cl_ng, cl_at, Nat.zero_add, Nat.sub_zero]
theorem tkO_i12 (hd : g + 13 < h ∨ h + 13 < g) {j : Nat} (hj : j < 8) : (tkO17 h g M).1 (h + 12) j = M.1 (g + 12) j := by
  unfold tkO17 tkO16 tkO15 tkO14 tkO13 tkO12 tkO11 tkO10 tkO9 tkO8 tkO7 tkO6 tkO5 tkO4 tkO3 tkO2 tkO1
  simp (disch := omega) only [rI_ng, rI_nk, rI_at, ci_ng, ci_at, ci_2, cl_1, cl_ng, cl_at, Nat.zero_add, Nat.sub_zero]
theorem tkO_i13 (hd : g + 13 < h ∨ h + 13 < g) {j : Nat} (hj : j < 2) : (tkO17 h g M).1 (h + 13) j = M.1 (g + 13) j := by
  unfold tkO17 tkO16 tkO15 tkO14 tkO13 tkO12 tkO11 tkO10 tkO9 tkO8 tkO7 tkO6 tkO5 tkO4 tkO3 tkO2 tkO1
  simp (disch := omega) only [rI_ng, rI_nk, rI_at, ci_ng, ci_at, ci_2, cl_1, cl_ng, cl_at, Nat.zero_add, Nat.sub_zero]
theorem tkO_l1 (hd : g + 13 < h ∨ h + 13 < g) {j : Nat} (hj : j < 8) : (tkO17 h g M).2.1 (h + 1) j = M.2.1 (g + 1) j := by
  unfold tkO17 tkO16 tkO15 tkO14 tkO13 tkO12 tkO11 tkO10 tkO9 tkO8 tkO7 tkO6 tkO5 tkO4 tkO3 tkO2 tkO1
  simp (disch := omega) only [rI_2, rI_ng, rI_nk, rI_at, ci_ng, ci_at, ci_2, cl_1, cl_ng, cl_at, Nat.zero_add, Nat.sub_zero]
theorem tkO_l4 (hd : g + 13 < h ∨ h + 13 < g) {j : Nat} (hj : j < 6) : (tkO17 h g M).2.1 (h + 4) j = M.2.1 (g + 4) j := by
  unfold tkO17 tkO16 tkO15 tkO14 tkO13 tkO12 tkO11 tkO10 tkO9 tkO8 tkO7 tkO6 tkO5 tkO4 tkO3 tkO2 tkO1
  simp (disch := omega) only [rI_2, rI_ng, rI_nk, rI_at, ci_ng, ci_at, ci_2, cl_1, cl_ng, cl_at, Nat.zero_add, Nat.sub_zero]
theorem tkO_l11 (hd : g + 13 < h ∨ h + 13 < g) {j : Nat} (hj : j < 2) : (tkO17 h g M).2.1 (h + 11) j = M.2.1 (g + 11) j := by
  unfold tkO17 tkO16 tkO15 tkO14 tkO13 tkO12 tkO11 tkO10 tkO9 tkO8 tkO7 tkO6 tkO5 tkO4 tkO3 tkO2 tkO1
  simp (disch := omega) only [rI_2, rI_ng, rI_nk, rI_at, ci_ng, ci_at, ci_2, cl_1, cl_ng, cl_at, Nat.zero_add, Nat.sub_zero]
theorem tkO_fr : Fr (Rg h (h + 13)) M (tkO17 h g M) := Fr.cpI ⟨by omega, by omega⟩ (Fr.cpI ⟨by omega, by omega⟩ (Fr.cpL ⟨by omega, by omega⟩ (Fr.cpI ⟨by omega, by omega⟩ (Fr.cpI ⟨by omega, by omega⟩ (Fr.cpI ⟨by omega, by omega⟩ (Fr.cpI ⟨by omega, by omega⟩ (Fr.cpI ⟨by omega, by omega⟩ (Fr.cpI ⟨by omega, by omega⟩ (Fr.cpL ⟨by omega, by omega⟩ (Fr.cpI ⟨by omega, by omega⟩ (Fr.cpI ⟨by omega, by omega⟩ (Fr.cpL ⟨by omega, by omega⟩ (Fr.stI ⟨by omega, by omega⟩ (Fr.stI ⟨by omega, by omega⟩ (Fr.stI ⟨by omega, by omega⟩ (Fr.stI ⟨by omega, by omega⟩ (Fr.refl M)))))))))))))))))
theorem c_takeOver (w : WF F) (G : GR g F M) {nm : NMs} (hn : NCn g F nm M) (hd : g + 13 < h ∨ h + 13 < g) : ∃ M1, fX2_takeOver h g M = some ((), M1) ∧ GR h F M1 ∧ NCn h F nm M1 ∧ Fr (Rg h (h + 13)) M M1 := by
  have n0 := w.n0
  have n1 := w.n1
  have n2 := w.n2
  have n3 := w.n3
  refine ⟨tkO17 h g M, tkO_e, ⟨⟨?_, ?_, ?_, ?_⟩, fun r a b => ?_, fun a b a0 a1 b0 b1 => ?_, fun q a b => ⟨?_, ?_, ?_⟩, fun q l a b c d => ⟨?_, ?_⟩, fun q k a b c d => ?_, fun q k a b c d => ?_, fun q a b => ?_⟩, ⟨fun r a b => ?_, fun r a b => ?_, fun r a b => ?_⟩, tkO_fr⟩
  · rw [tkO_c0 hd]; exact G.n0
  · rw [tkO_c4 hd]; exact G.n1
  · rw [tkO_c11 hd]; exact G.n2
  · rw [tkO_c13 hd]; exact G.n3
  · rw [tkO_i2 hd (by omega)]; exact G.sk ⟨a, b⟩
  · rw [tkO_i3 hd (by omega)]; exact G.cp ⟨⟨a0, a1⟩, b0, b1⟩
  · rw [tkO_i5 hd (by omega)]; exact G.x ⟨a, b⟩
  · rw [tkO_i6 hd (by omega)]; exact G.y ⟨a, b⟩
  · rw [tkO_i7 hd (by omega)]; exact G.nl ⟨a, b⟩
  · have := w.nl ⟨a, b⟩
    rw [tkO_i8 hd (by omega)]; exact G.rk ⟨⟨a, b⟩, c, d⟩
  · have := w.nl ⟨a, b⟩
    rw [tkO_i9 hd (by omega)]; exact G.th ⟨⟨a, b⟩, c, d⟩
  · rw [tkO_i10 hd (by omega)]; exact G.co ⟨⟨a, b⟩, c, d⟩
  · rw [tkO_i12 hd (by omega)]; exact G.fl ⟨⟨a, b⟩, c, d⟩
  · rw [tkO_i13 hd (by omega)]; exact G.ft ⟨a, b⟩
  · rw [tkO_l1 hd (by omega)]; exact hn.1 r a b
  · rw [tkO_l4 hd (by omega)]; exact hn.2.1 r a b
  · rw [tkO_l11 hd (by omega)]; exact hn.2.2 r a b
def tkY (z y : Nat) (M : Mem) : Mem := cpI (cpI (cpI (cpI (cpI (stI (stI (stI M z 0 (M.1 y 0)) z 1 ((stI M z 0 (M.1 y 0)).1 y 1)) z 2 ((stI (stI M z 0 (M.1 y 0)) z 1 ((stI M z 0 (M.1 y 0)).1 y 1)).1 y 2)) (y + 1) (z + 1) 0 0 60) (y + 2) (z + 2) 0 0 60) (y + 3) (z + 3) 0 0 60) (y + 4) (z + 4) 0 0 60) (y + 5) (z + 5) 0 0 60
theorem tkY_e {b : Bool} (hb : M.1 y 0 = bI b) : fX8_takeOver z y M = some ((), tkY z y M) := by
  unfold fX8_takeOver
  simp (disch := omega) only [iI_add, iI_sub, iI_mul, iI_neg, iI_nat, addm1, ixkI, ↓sbind, sbind, ↓bdS, bdS, ↓nm_eq, ↓jn_eq, iI_lt, iI_le, iI_eq, k_0, k_1, k_2, k_3, k_4, k_5, k_6, k_7, k_8, k_9, k_10, k_11, k_12, k_13, k_14, k_15, k_16, k_17, k_18, k_19, k_20, k_21, k_22, k_23, k_24, k_27, k_30, k_32, k_48, k_57, k_59, k_60, k_61, k_62, k_63, k_64, k_72, k_78, k_80, k_82, k_97, k_99, k_100, k_122, k_244, k_255, k_268, k_280, k_300, k_432, k_650, k_900, k_901, k_999, k_1700, k_2600, k_2601, k_2602, k_2603, k_2604, k_2610, k_2618, k_2682, k_2777, k_2844, k_2868, k_2880, k_3245, k_3250, k_9551, k_9999, k_65536, k_100000, k_999999, k_1000000, k_2147483647, cpk_in, hb, bI_01, if_true]
  unfold tkY
  rw [hb]
  rfl
theorem tkY_c0 (hd : y + 5 < z ∨ z + 5 < y) : (tkY z y M).1 z 0 = M.1 y 0 := by
  unfold tkY
  simp (disch := omega) only [rI_ng, rI_nk, rI_at, ci_ng, ci_at, ci_2, cl_1, cl_ng, cl_at, Nat.zero_add, Nat.sub_zero]
theorem tkY_c2 (hd : y + 5 < z ∨ z + 5 < y) : (tkY z y M).1 z 2 = M.1 y 2 := by
  unfold tkY
  simp (disch := omega) only [rI_ng, rI_nk, rI_at, ci_ng, ci_at, ci_2, cl_1, cl_ng, cl_at, Nat.zero_add, Nat.sub_zero]
theorem tkY_i1 (hd : y + 5 < z ∨ z + 5 < y) {j : Nat} (hj : j < 60) : (tkY z y M).1 (z + 1) j = M.1 (y + 1) j := by
  unfold tkY
  simp (disch := omega) only [rI_ng, rI_nk, rI_at, ci_ng, ci_at, ci_2, cl_1, cl_ng, cl_at, Nat.zero_add, Nat.sub_zero]
theorem tkY_i2 (hd : y + 5 < z ∨ z + 5 < y) {j : Nat} (hj : j < 60) : (tkY z y M).1 (z + 2) j = M.1 (y + 2) j := by
  unfold tkY
  simp (disch := omega) only [rI_ng, rI_nk, rI_at, ci_ng, ci_at, ci_2, cl_1, cl_ng, cl_at, Nat.zero_add, Nat.sub_zero]
theorem tkY_i3 (hd : y + 5 < z ∨ z + 5 < y) {j : Nat} (hj : j < 60) : (tkY z y M).1 (z + 3) j = M.1 (y + 3) j := by
  unfold tkY
  simp (disch := omega) only [rI_ng, rI_nk, rI_at, ci_ng, ci_at, ci_2, cl_1, cl_ng, cl_at, Nat.zero_add, Nat.sub_zero]
theorem tkY_i4 (hd : y + 5 < z ∨ z + 5 < y) {j : Nat} (hj : j < 60) : (tkY z y M).1 (z + 4) j = M.1 (y + 4) j := by
  unfold tkY
  simp (disch := omega) only [rI_ng, rI_nk, rI_at, ci_ng, ci_at, ci_2, cl_1, cl_ng, cl_at, Nat.zero_add, Nat.sub_zero]
theorem tkY_i5 (hd : y + 5 < z ∨ z + 5 < y) {j : Nat} (hj : j < 60) : (tkY z y M).1 (z + 5) j = M.1 (y + 5) j := by
  unfold tkY
  simp (disch := omega) only [rI_ng, rI_nk, rI_at, ci_ng, ci_at, ci_2, cl_1, cl_ng, cl_at, Nat.zero_add, Nat.sub_zero]
theorem tkY_fr : Fr (Rg z (z + 5)) M (tkY z y M) := Fr.cpI ⟨by omega, by omega⟩ (Fr.cpI ⟨by omega, by omega⟩ (Fr.cpI ⟨by omega, by omega⟩ (Fr.cpI ⟨by omega, by omega⟩ (Fr.cpI ⟨by omega, by omega⟩ (Fr.stI ⟨by omega, by omega⟩ (Fr.stI ⟨by omega, by omega⟩ (Fr.stI ⟨by omega, by omega⟩ (Fr.refl M))))))))
theorem c_takeYears (yi : YI F N Y) (hY : YW y N Y M) (hd : y + 5 < z ∨ z + 5 < y) : ∃ M1, fX8_takeOver z y M = some ((), M1) ∧ YW z N Y M1 ∧ Fr (Rg z (z + 5)) M M1 := by
  have yb := yi.bd
  refine ⟨tkY z y M, tkY_e hY.1, ⟨?_, fun q => ⟨?_, fun x x0 x1 => ?_⟩⟩, tkY_fr⟩
  · rw [tkY_c0 hd]; exact hY.1
  · rw [tkY_c2 hd]; exact (hY.2 q).1
  · rw [tkY_i1 hd (by omega), tkY_i2 hd (by omega), tkY_i3 hd (by omega), tkY_i4 hd (by omega), tkY_i5 hd (by omega)]
    exact (hY.2 q).2 x x0 x1
end TO
