/-! chance, storms -/
section ST
variable {m g t : Nat} {F : Fld} {M : Mem}
theorem iI_div {a b : Int} (ha : 0 ≤ a ∧ a < 2147483648) (hb : 0 < b ∧ b < 2147483648) : iI a / iI b = iI (a / b) := by
  have h1 : 0 ≤ a / b := Int.ediv_nonneg ha.1 (by omega)
  have h2 : a / b ≤ a := Int.ediv_le_self b ha.1
  rw [← Int32.toInt_inj, Int32.toInt_div, iI_int (by omega), iI_int (by omega), iI_int (by omega), Int.tdiv_eq_ediv_of_nonneg ha.1, Int.bmod_eq_of_le (by omega) (by omega)]
theorem iI_rem {a b : Int} (ha : 0 ≤ a ∧ a < 2147483648) (hb : 0 < b ∧ b < 2147483648) : iI a - iI a / iI b * iI b = iI (a % b) := by
  rw [iI_div ha hb, iI_mul, iI_sub, Int.emod_def, Int.mul_comm]
def d_next (ch : Int) : Int := (ch * 2777 + 9551) % 65536
def d_val (ch b_y : Int) : Int := d_next ch / 8 % b_y
theorem d_next_bd (ch : Int) : 0 ≤ d_next ch ∧ d_next ch < 65536 := by
  unfold d_next
  omega
theorem d_val_bd (ch : Int) {b_y : Int} (hb : 1 ≤ b_y) : 0 ≤ d_val ch b_y ∧ d_val ch b_y < b_y := ⟨Int.emod_nonneg _ (by omega), Int.emod_lt_of_pos _ (by omega)⟩
theorem c_nextDraw {ch b_y : Int} (hc : 0 ≤ ch ∧ ch < 65536) (hb : 1 ≤ b_y ∧ b_y ≤ 9999) (h : M.1 t 7 = iI ch) : fX3_nextDraw t (iI b_y) M = some (iI (d_val ch b_y), stI M t 7 (iI (d_next ch))) := by
  have h1 := d_next_bd ch
  have e1 : iI (ch * 2777 + 9551) - iI (ch * 2777 + 9551) / iI 65536 * iI 65536 = iI (d_next ch) := iI_rem (by omega) (by omega)
  have e2 : iI (d_next ch) / iI 8 = iI (d_next ch / 8) := iI_div (by omega) (by omega)
  have e3 : iI (d_next ch / 8) - iI (d_next ch / 8) / iI b_y * iI b_y = iI (d_val ch b_y) := iI_rem (by omega) (by omega)
  unfold fX3_nextDraw
  rw [h, k_2777, k_9551, k_65536, iI_mul, iI_add, e1, nm_eq, rI_at rfl rfl, k_8, e2, e3]
  simp (disch := omega) only [iI_add, iI_sub, iI_mul, iI_neg, iI_nat, addm1, ixkI, ↓sbind, sbind, ↓bdS, bdS, ↓nm_eq, ↓jn_eq, iI_lt, iI_le, iI_eq, k_0, k_1, k_2, k_3, k_4, k_5, k_6, k_7, k_8, k_9, k_10, k_11, k_12, k_13, k_14, k_15, k_16, k_17, k_18, k_19, k_20, k_21, k_22, k_23, k_24, k_27, k_30, k_32, k_48, k_57, k_59, k_60, k_61, k_62, k_63, k_64, k_72, k_78, k_80, k_82, k_97, k_99, k_100, k_122, k_244, k_255, k_268, k_280, k_300, k_432, k_650, k_900, k_901, k_999, k_1700, k_2600, k_2601, k_2602, k_2603, k_2604, k_2610, k_2618, k_2682, k_2777, k_2844, k_2868, k_2880, k_3245, k_3250, k_9551, k_9999, k_65536, k_100000, k_999999, k_1000000, k_2147483647, lt_T, lt_F, le_T, le_F, eq_T, eq_F, ↓reduceIte, not_true_eq_false, not_false_eq_true, or_true, or_false, true_or, false_or, and_true, true_and, and_false, false_and]
theorem m_draw {ch b_y : Int} (hc : 0 ≤ ch ∧ ch < 65536) (hb : 1 ≤ b_y ∧ b_y ≤ 9999) (h : M.1 m 39 = iI ch) : fX11_draw m (iI b_y) M = some (iI (d_val ch b_y), stI M m 39 (iI (d_next ch))) := by
  have h1 := d_next_bd ch
  have e1 : iI (ch * 2777 + 9551) - iI (ch * 2777 + 9551) / iI 65536 * iI 65536 = iI (d_next ch) := iI_rem (by omega) (by omega)
  have e2 : iI (d_next ch) / iI 8 = iI (d_next ch / 8) := iI_div (by omega) (by omega)
  have e3 : iI (d_next ch / 8) - iI (d_next ch / 8) / iI b_y * iI b_y = iI (d_val ch b_y) := iI_rem (by omega) (by omega)
  unfold fX11_draw
  rw [h, k_2777, k_9551, k_65536, iI_mul, iI_add, e1, nm_eq, rI_at rfl rfl, k_8, e2, e3]
  simp (disch := omega) only [iI_add, iI_sub, iI_mul, iI_neg, iI_nat, addm1, ixkI, ↓sbind, sbind, ↓bdS, bdS, ↓nm_eq, ↓jn_eq, iI_lt, iI_le, iI_eq, k_0, k_1, k_2, k_3, k_4, k_5, k_6, k_7, k_8, k_9, k_10, k_11, k_12, k_13, k_14, k_15, k_16, k_17, k_18, k_19, k_20, k_21, k_22, k_23, k_24, k_27, k_30, k_32, k_48, k_57, k_59, k_60, k_61, k_62, k_63, k_64, k_72, k_78, k_80, k_82, k_97, k_99, k_100, k_122, k_244, k_255, k_268, k_280, k_300, k_432, k_650, k_900, k_901, k_999, k_1700, k_2600, k_2601, k_2602, k_2603, k_2604, k_2610, k_2618, k_2682, k_2777, k_2844, k_2868, k_2880, k_3245, k_3250, k_9551, k_9999, k_65536, k_100000, k_999999, k_1000000, k_2147483647, lt_T, lt_F, le_T, le_F, eq_T, eq_F, ↓reduceIte, not_true_eq_false, not_false_eq_true, or_true, or_false, true_or, false_or, and_true, true_and, and_false, false_and]
end ST
