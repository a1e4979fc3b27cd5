/-! a triangle's row of a field -/
def kT3 (φ : Nat) (t : Nat) (v1 : Int32) (M7 : Mem) : Option (Int32 × Mem) :=
 (fX11_isName φ t 1002 M7).bind fun v8 =>
 jn (ixk (2601 : Int32) 3900 (
 bd (fX11_oldOne φ t (72 : Int32) (M7.1 (t + 1) (2601 : Int32).toNatClampNeg) (v1 + (2 : Int32)) M7) fun v10 M11 =>
 if v10 = 0 then
 some ((0 : Int32), M11)
 else
 ixk (2602 : Int32) 3900 (
 ixk (2602 : Int32) 3900 (nm (stI M11 (t + 1) (2602 : Int32).toNatClampNeg ((M11.1 (t + 1) (2602 : Int32).toNatClampNeg) + (1 : Int32))) (fun M12 =>
 some ((1 : Int32), M12)))))) (fun J9 => if v8 = 0 then
 J9
 else
 ixk (2601 : Int32) 3900 (
 (fX11_findHere φ t (72 : Int32) (M7.1 (t + 1) (2601 : Int32).toNatClampNeg) M7).bind fun v13 =>
 if v13 = (-1 : Int32) then
 J9
 else
 ixk v1 3900 (
 ixk (v1 + (1 : Int32)) 3900 (
 (fX11_cornersOf t (2600 : Int32) (M7.1 (t + 1) v1.toNatClampNeg) (M7.1 (t + 1) (v1 + (1 : Int32)).toNatClampNeg) v13 M7).bind fun vz14 =>
 if vz14 = (0 : Int64) then
 bd (fX11_fails t (5 : Int32) M7) fun v15 M16 =>
 if v15 = 0 ∨ v15 = 1 then some (v15, M16) else none
 else
 J9))))
def kT4 (φ m : Nat) (H h : Int) (M7 : Mem) : Option (Int32 × Mem) := bd (fX11_oldOne φ m (iI 72) (iI H) (iI (h + 2)) M7) fun v10 M11 => if v10 = iI 0 then some (iI 0, M11) else some (iI 1, stI M11 (m + 1) (Int.toNat 2602) ((M11.1 (m + 1) (Int.toNat 2602)) + iI 1))
def u_tri (F : Fld) (a b c : Int) : Fld := fun k x y => if k = 0 ∧ x = 2 ∧ y = 0 then F 0 2 0 + 1 else if k = 6 ∧ x = F 0 2 0 ∧ y = 0 then a else if k = 6 ∧ x = F 0 2 0 ∧ y = 1 then b else if k = 6 ∧ x = F 0 2 0 ∧ y = 2 then c else F k x y
section TR
variable {t m ft gs g : Nat} {F F' : Fld} {nm nm' : NMs} {M : Mem} {B : Int → Int} {n p s x y h r v q a b c : Int}
theorem ut_02 (F : Fld) (a b c : Int) : u_tri F a b c 0 2 0 = F 0 2 0 + 1 := if_pos ⟨rfl, rfl, rfl⟩
theorem ut_0 (F : Fld) (a b c : Int) {w : Int} (h : w ≠ 2) : u_tri F a b c 0 w 0 = F 0 w 0 := by
  unfold u_tri
  rw [if_neg (fun q => h q.2.1), if_neg (fun q => by cases q.1), if_neg (fun q => by cases q.1), if_neg (fun q => by cases q.1)]
theorem ut_k (F : Fld) (a b c : Int) {k : Nat} (h0 : k ≠ 0) (h6 : k ≠ 6) : u_tri F a b c k = F k := by
  funext x y
  unfold u_tri
  rw [if_neg (fun q => h0 q.1), if_neg (fun q => h6 q.1), if_neg (fun q => h6 q.1), if_neg (fun q => h6 q.1)]
theorem ut_6 (F : Fld) (a b c : Int) {x : Int} (y : Int) (h : x ≠ F 0 2 0) : u_tri F a b c 6 x y = F 6 x y := by
  unfold u_tri
  rw [if_neg (fun q => by cases q.1), if_neg (fun q => h q.2.1), if_neg (fun q => h q.2.1), if_neg (fun q => h q.2.1)]
theorem ut_a (F : Fld) (a b c : Int) : u_tri F a b c 6 (F 0 2 0) 0 = a := by
  unfold u_tri
  rw [if_neg (fun q => by cases q.1), if_pos ⟨rfl, rfl, rfl⟩]
theorem ut_b (F : Fld) (a b c : Int) : u_tri F a b c 6 (F 0 2 0) 1 = b := by
  unfold u_tri
  rw [if_neg (fun q => by cases q.1), if_neg (fun q => by omega), if_pos ⟨rfl, rfl, rfl⟩]
theorem ut_c (F : Fld) (a b c : Int) : u_tri F a b c 6 (F 0 2 0) 2 = c := by
  unfold u_tri
  rw [if_neg (fun q => by cases q.1), if_neg (fun q => by omega), if_neg (fun q => by omega), if_pos ⟨rfl, rfl, rfl⟩]
theorem DW.tri (d : DW F nm) (hT : F 0 2 0 < 8) (ha : 0 ≤ a ∧ a < F 0 1 0) (hb : 0 ≤ b ∧ b < F 0 1 0) (hc : 0 ≤ c ∧ c < F 0 1 0) (ht : s_turn3 F a b c ≠ 0) : DW (u_tri F a b c) nm := by
  obtain ⟨w, wn, dg⟩ := d
  obtain ⟨⟨n0, n1, n2, n3⟩, sk, cp, hl, ly, co, tn, fl⟩ := w
  refine ⟨?_, ?_, fun z z0 z1 => by rw [ut_k F a b c (k := 2) (by omega) (by omega)]; exact dg z z0 z1⟩
  · unfold WF
    rw [ut_02, ut_0 F a b c (w := 0) (by omega), ut_0 F a b c (w := 1) (by omega), ut_0 F a b c (w := 3) (by omega), ut_k F a b c (k := 1) (by omega) (by omega), ut_k F a b c (k := 2) (by omega) (by omega), ut_k F a b c (k := 3) (by omega) (by omega), ut_k F a b c (k := 4) (by omega) (by omega), ut_k F a b c (k := 5) (by omega) (by omega), ut_k F a b c (k := 7) (by omega) (by omega)]
    refine ⟨⟨n0, n1, by omega, n3⟩, sk, cp, hl, ly, fun t k t0 t1 k0 k1 => ?_, fun t t0 t1 => ?_, fl⟩
    · by_cases q : t = F 0 2 0
      · have : k = 0 ∨ k = 1 ∨ k = 2 := by omega
        rcases this with z | z | z
        · rw [q, z, ut_a]; exact ha
        · rw [q, z, ut_b]; exact hb
        · rw [q, z, ut_c]; exact hc
      · rw [ut_6 F a b c k q]; exact co t k t0 (by omega) k0 k1
    · have h3 : ∀ x y z, s_turn3 (u_tri F a b c) x y z = s_turn3 F x y z := fun x y z => by
        unfold s_turn3
        rw [ut_k F a b c (k := 3) (by omega) (by omega)]
      unfold s_turn
      rw [h3]
      by_cases q : t = F 0 2 0
      · rw [q, ut_a, ut_b, ut_c]; exact ht
      · rw [ut_6 F a b c 0 q, ut_6 F a b c 1 q, ut_6 F a b c 2 q]; exact tn t t0 (by omega)
  · unfold WN
    rw [ut_0 F a b c (w := 0) (by omega), ut_0 F a b c (w := 1) (by omega), ut_0 F a b c (w := 3) (by omega)]
    exact wn
theorem c_addTri (d : DW F nm) (hT : F 0 2 0 < 8) (G : GR g F M) (hn : NCn g F nm M) : ∃ M1, fX2_addTriangle g (iI a) (iI b) (iI c) M = some ((), M1) ∧ GR g (u_tri F a b c) M1 ∧ NCn g (u_tri F a b c) nm M1 ∧ M1.2.2 = M.2.2 ∧ Fr (Rg g (g + 10)) M M1 := by
  have n2 := d.1.n2
  have g2 := G.n2
  obtain ⟨M5, hM5⟩ : ∃ M5, M5 = stI (stI (stI (stI M (g + 10) (F 0 2 0 * 3).toNat (iI a)) (g + 10) (F 0 2 0 * 3 + 1).toNat (iI b)) (g + 10) (F 0 2 0 * 3 + 2).toNat (iI c)) g 11 (iI (F 0 2 0 + 1)) := ⟨_, rfl⟩
  have ot : ∀ z, z ≠ g → z ≠ g + 10 → M5.1 z = M.1 z := fun z z0 z1 => by
    funext j
    rw [hM5, rI_ng z0, rI_ng z1, rI_ng z1, rI_ng z1]
  have og : ∀ j, j ≠ 11 → M5.1 g j = M.1 g j := fun j hj => by
    rw [hM5, rI_nk hj, rI_ng (by omega), rI_ng (by omega), rI_ng (by omega)]
  have oc : M5.1 g 11 = iI (F 0 2 0 + 1) := by rw [hM5]; exact rI_at rfl rfl
  refine ⟨M5, ?_, ?_, ?_, by rw [hM5]; rfl, ?_⟩
  · have e1 : (stI M (g + 10) (F 0 2 0 * 3).toNat (iI a)).1 g 11 = iI (F 0 2 0) := by rw [rI_ng (by omega)]; exact g2
    have e2 : (stI (stI M (g + 10) (F 0 2 0 * 3).toNat (iI a)) (g + 10) (F 0 2 0 * 3 + 1).toNat (iI b)).1 g 11 = iI (F 0 2 0) := by rw [rI_ng (by omega)]; exact e1
    have e3 : (stI (stI (stI M (g + 10) (F 0 2 0 * 3).toNat (iI a)) (g + 10) (F 0 2 0 * 3 + 1).toNat (iI b)) (g + 10) (F 0 2 0 * 3 + 2).toNat (iI c)).1 g 11 = iI (F 0 2 0) := by rw [rI_ng (by omega)]; exact e2
    unfold fX2_addTriangle
    simp (disch := omega) only [iI_add, iI_sub, iI_mul, iI_neg, iI_nat, addm1, ixkI, ↓sbind, sbind, ↓bdS, bdS, ↓nm_eq, ↓jn_eq, iI_lt, iI_le, iI_eq, k_0, k_1, k_2, k_3, k_4, k_5, k_6, k_7, k_8, k_9, k_10, k_11, k_12, k_13, k_14, k_15, k_16, k_17, k_18, k_19, k_20, k_21, k_22, k_23, k_24, k_27, k_30, k_32, k_48, k_57, k_59, k_60, k_61, k_62, k_63, k_64, k_72, k_78, k_80, k_82, k_97, k_99, k_100, k_122, k_244, k_255, k_268, k_280, k_300, k_432, k_650, k_900, k_901, k_999, k_1700, k_2600, k_2601, k_2602, k_2603, k_2604, k_2610, k_2618, k_2682, k_2777, k_2844, k_2868, k_2880, k_3245, k_3250, k_9551, k_9999, k_65536, k_100000, k_999999, k_1000000, k_2147483647, lt_T, lt_F, le_T, le_F, eq_T, eq_F, ↓reduceIte, not_true_eq_false, not_false_eq_true, or_true, or_false, true_or, false_or, and_true, true_and, and_false, false_and, g2, e1, e2, e3]
    rw [hM5]
  · obtain ⟨⟨h0, h1, h2, h3⟩, sk, cp, hl, ly, co, fl, ft⟩ := G
    unfold GR
    rw [ut_02, ut_0 F a b c (w := 0) (by omega), ut_0 F a b c (w := 1) (by omega), ut_0 F a b c (w := 3) (by omega), ut_k F a b c (k := 1) (by omega) (by omega), ut_k F a b c (k := 2) (by omega) (by omega), ut_k F a b c (k := 3) (by omega) (by omega), ut_k F a b c (k := 4) (by omega) (by omega), ut_k F a b c (k := 5) (by omega) (by omega), ut_k F a b c (k := 7) (by omega) (by omega), ot (g + 2) (by omega) (by omega), ot (g + 3) (by omega) (by omega), ot (g + 5) (by omega) (by omega), ot (g + 6) (by omega) (by omega), ot (g + 7) (by omega) (by omega), ot (g + 8) (by omega) (by omega), ot (g + 9) (by omega) (by omega), ot (g + 12) (by omega) (by omega), ot (g + 13) (by omega) (by omega), oc, og 0 (by omega), og 4 (by omega), og 13 (by omega)]
    refine ⟨⟨h0, h1, rfl, h3⟩, sk, cp, hl, ly, fun t k t0 t1 k0 k1 => ?_, fl, ft⟩
    rw [hM5, rI_ng (by omega)]
    by_cases q : t = F 0 2 0
    · have : k = 0 ∨ k = 1 ∨ k = 2 := by omega
      rcases this with z | z | z
      · rw [rI_nk (by omega), rI_nk (by omega), rI_at rfl (by omega), q, z, ut_a]
      · rw [rI_nk (by omega), rI_at rfl (by omega), q, z, ut_b]
      · rw [rI_at rfl (by omega), q, z, ut_c]
    · rw [rI_nk (by omega), rI_nk (by omega), rI_nk (by omega), ut_6 F a b c k q]; exact co t k t0 (by omega) k0 k1
  · unfold NCn
    rw [ut_0 F a b c (w := 0) (by omega), ut_0 F a b c (w := 1) (by omega), ut_0 F a b c (w := 3) (by omega), hM5]
    exact hn
  · rw [hM5]
    exact Fr.stI ⟨by omega, by omega⟩ (Fr.stI ⟨by omega, by omega⟩ (Fr.stI ⟨by omega, by omega⟩ (Fr.stI ⟨by omega, by omega⟩ (Fr.refl M))))
theorem MR.tri {M1 : Mem} (w : WF F) (hT : F 0 2 0 < 8) (G : MR m 2600 F M) (h0 : M1.1 (m + 1) (Int.toNat 2602) = iI (F 0 2 0 + 1)) (h1 : M1.1 (m + 1) (2844 + 3 * F 0 2 0).toNat = iI a) (h2 : M1.1 (m + 1) (2844 + 3 * F 0 2 0 + 1).toNat = iI b) (h3 : M1.1 (m + 1) (2844 + 3 * F 0 2 0 + 2).toNat = iI c) (h4 : ∀ e : Int, 0 ≤ e → e ≠ 2602 → e ≠ 2844 + 3 * F 0 2 0 → e ≠ 2844 + 3 * F 0 2 0 + 1 → e ≠ 2844 + 3 * F 0 2 0 + 2 → M1.1 (m + 1) e.toNat = M.1 (m + 1) e.toNat) : MR m 2600 (u_tri F a b c) M1 := by
  have n2 := w.n2
  obtain ⟨g0, g1, g2, g3, g4, g5, g6⟩ := G
  have kk := fun (k : Nat) (x : k ≠ 0) (y : k ≠ 6) => ut_k F a b c x y
  refine ⟨fun w x y => ?_, fun k x y => ?_, fun x y a0 a1 b0 b1 => ?_, fun x w a0 a1 w0 w1 => ?_, fun x l a0 a1 l0 l1 => ⟨?_, ?_⟩, fun t k t0 t1 k0 k1 => ?_, fun f k a0 a1 b0 b1 => ?_⟩
  · by_cases q : w = 2
    · rw [q, ut_02]; exact h0
    · rw [ut_0 F a b c q, h4 _ (by omega) (by omega) (by omega) (by omega) (by omega)]; exact g0 w x y
  · rw [kk 1 (by omega) (by omega), h4 _ (by omega) (by omega) (by omega) (by omega) (by omega)]; exact g1 k x y
  · rw [kk 2 (by omega) (by omega), h4 _ (by omega) (by omega) (by omega) (by omega) (by omega)]; exact g2 x y a0 a1 b0 b1
  · rw [kk 3 (by omega) (by omega), h4 _ (by omega) (by omega) (by omega) (by omega) (by omega)]; exact g3 x w a0 a1 w0 w1
  · rw [kk 4 (by omega) (by omega), h4 _ (by omega) (by omega) (by omega) (by omega) (by omega)]; exact (g4 x l a0 a1 l0 l1).1
  · rw [kk 5 (by omega) (by omega), h4 _ (by omega) (by omega) (by omega) (by omega) (by omega)]; exact (g4 x l a0 a1 l0 l1).2
  · by_cases q : t = F 0 2 0
    · have : k = 0 ∨ k = 1 ∨ k = 2 := by omega
      rcases this with z | z | z
      · rw [q, z, ut_a, show (2600 : Int) + (244 + 3 * F 0 2 0 + 0) = 2844 + 3 * F 0 2 0 from by omega]; exact h1
      · rw [q, z, ut_b, show (2600 : Int) + (244 + 3 * F 0 2 0 + 1) = 2844 + 3 * F 0 2 0 + 1 from by omega]; exact h2
      · rw [q, z, ut_c, show (2600 : Int) + (244 + 3 * F 0 2 0 + 2) = 2844 + 3 * F 0 2 0 + 2 from by omega]; exact h3
    · rw [ut_6 F a b c k q, h4 _ (by omega) (by omega) (by omega) (by omega) (by omega)]; exact g5 t k t0 t1 k0 k1
  · rw [kk 7 (by omega) (by omega), h4 _ (by omega) (by omega) (by omega) (by omega) (by omega)]; exact g6 f k a0 a1 b0 b1
theorem m_cornersN (w : WF F) (hM : ∀ i k, 0 ≤ i → i < F 0 1 0 → 0 ≤ k → k < 2 → M.1 (m + 1) (2682 + 27 * i + k).toNat = iI (F 3 i k)) (ha : 0 ≤ a ∧ a < F 0 1 0) (hb : 0 ≤ b ∧ b < F 0 1 0) (hc : 0 ≤ c ∧ c < F 0 1 0) : fX11_cornersOf m (iI 2600) (iI a) (iI b) (iI c) M = some (lI (s_turn3 F a b c)) := by
  have n1 := w.n1
  have a0 := hM a 0 ha.1 ha.2 (by omega) (by omega)
  have a1 := hM a 1 ha.1 ha.2 (by omega) (by omega)
  have b0 := hM b 0 hb.1 hb.2 (by omega) (by omega)
  have b1 := hM b 1 hb.1 hb.2 (by omega) (by omega)
  have c0 := hM c 0 hc.1 hc.2 (by omega) (by omega)
  have c1 := hM c 1 hc.1 hc.2 (by omega) (by omega)
  rw [Int.add_zero] at a0 b0 c0
  have z82 : (82 : Int32) = iI 82 := rfl
  have z27 : (27 : Int32) = iI 27 := rfl
  have el := m_leftOf (M := M) (w.x ha) (w.y ha) (w.x hb) (w.y hb) (w.x hc) (w.y hc)
  unfold fX11_cornersOf s_turn3
  rw [z82, z27, iI_add, iI_mul, iI_add, nm_eq, iI_mul, iI_add, nm_eq, iI_mul, iI_add, nm_eq, show (2600 : Int) + 82 = 2682 from by omega, k_1, iI_add, iI_add, iI_add, ixkI (by omega), ixkI (by omega), ixkI (by omega), ixkI (by omega), ixkI (by omega), ixkI (by omega), iI_nat (by omega), iI_nat (by omega), iI_nat (by omega), iI_nat (by omega), iI_nat (by omega), iI_nat (by omega), a0, a1, b0, b1, c0, c1, el]
  rfl
theorem p_tri {φ : Nat} (hφ : 2000 < φ) (hB : HB B n) (hp : 0 ≤ p ∧ p ≤ n) (dw : DW F nm) (hk : wv (tok B n p) = 8) : Part (fX1_passTriangle φ) (fun m M => sem φ m (fX11_aTriangle φ m M)) B n p F nm := by
  have n1 := dw.1.n1
  have n2 := dw.1.n2
  have b1 := nx_b hB hp
  have w0 := hB.w hp
  have lt1 := b1.2.2 (wv_k hk (by omega))
  have b2 := nx_b hB b1.1
  have w1 := hB.w b1.1
  have b3 := nx_b hB b2.1
  have w2 := hB.w b2.1
  have b4 := nx_b hB b3.1
  have w3 := hB.w b3.1
  obtain ⟨p1, hp1⟩ : ∃ p1, p1 = nx B n p := ⟨_, rfl⟩
  rw [← hp1] at b1 b2 b3 b4 w1 w2 w3 lt1
  obtain ⟨p2, hp2⟩ : ∃ p2, p2 = nx B n p1 := ⟨_, rfl⟩
  rw [← hp2] at b2 b3 b4 w2 w3
  obtain ⟨p3, hp3⟩ : ∃ p3, p3 = nx B n p2 := ⟨_, rfl⟩
  rw [← hp3] at b3 b4 w3
  obtain ⟨p4, hp4⟩ : ∃ p4, p4 = nx B n p3 := ⟨_, rfl⟩
  rw [← hp4] at b4
  obtain ⟨a, ha⟩ : ∃ a, a = fN (nm 1) (F 0 1 0) (tok B n p1).2.2.2.2 := ⟨_, rfl⟩
  obtain ⟨b, hb⟩ : ∃ b, b = fN (nm 1) (F 0 1 0) (tok B n p2).2.2.2.2 := ⟨_, rfl⟩
  obtain ⟨c, hc⟩ : ∃ c, c = fN (nm 1) (F 0 1 0) (tok B n p3).2.2.2.2 := ⟨_, rfl⟩
  have ab := fN_bd (nm 1) (N := F 0 1 0) (c := (tok B n p1).2.2.2.2) n1.1
  have bb := fN_bd (nm 1) (N := F 0 1 0) (c := (tok B n p2).2.2.2.2) n1.1
  have cb := fN_bd (nm 1) (N := F 0 1 0) (c := (tok B n p3).2.2.2.2) n1.1
  rw [← ha] at ab
  rw [← hb] at bb
  rw [← hc] at cb
  have zm : (-1 : Int32) = iI (-1) := rfl
  have z02 : (2602 : Int32) = iI 2602 := rfl
  have z01 : (2601 : Int32) = iI 2601 := rfl
  have z44 : (2844 : Int32) = iI 2844 := rfl
  have z72 : (72 : Int32) = iI 72 := rfl
  have z26 : (2600 : Int32) = iI 2600 := rfl
  have nmf : ∀ v T, v = (-1 : Int) → (if v = -1 then T else T) = (T : Int) := fun v T _ => by split <;> rfl
  by_cases h8 : F 0 2 0 = 8
  · refine Part.no (fp := (tok B n p).2.1) (fkT_1 (tok B n p) (k := 6) (by omega)) (fun t ft gs M e S => ?_) (fun m M S => ?_)
    · have g0 := S.2.1.n2
      rw [h8] at g0
      refine CFail.of M ?_
      unfold fX1_passTriangle
      rw [S.2.2.2.2, ldr_ok e.2.2.2, sbind, g0, k_8, if_neg (by decide), S.2.2.2.1, ldr_ok e.2.2.1, sbind, k_6, c_refuse w0 S.1, bdP, if_pos (Or.inl i0e)]
    · have s0 : M.1 (m + 1) (Int.toNat 2602) = iI (F 0 2 0) := S.cnt (w := 2) (by omega)
      rw [h8] at s0
      refine MFail.of M ?_
      unfold fX11_aTriangle
      rw [z02, ixkI (by omega), iI_nat (by omega), s0, z44, k_3, iI_mul, iI_add, nm_eq, ixkI (by omega), k_8, if_pos rfl, k_6, m_fails hB.2 S.1 S.2.2.2 6, bdP, if_pos (Or.inl i0e)]
  have c8 : iI (F 0 2 0) < (8 : Int32) := by rw [k_8, iI_lt (by omega) (by omega)]; omega
  have cA : ∀ t ft gs M, ENV t ft gs → CSt t ft gs B n p F nm M → ∃ M1, CSt t ft gs B n p1 F nm M1 ∧ cGo t M M1 ∧ fX6_goOn t M = some ((), M1) ∧ fX2_holeNamed φ gs (lI (tok B n p1).2.2.2.2) M1 = some (iI a) := fun t ft gs M e S => by
    obtain ⟨M1, r1, S1, A1⟩ := c_next e S
    rw [← hp1] at S1
    have e1 := c_holeNamed dw.1 S1.2.1 S1.2.2.1 dw.2.1 (nc_bd w1) (φ := φ) (by omega)
    rw [← ha] at e1
    exact ⟨M1, S1, A1, r1, e1⟩
  have mA : ∀ m M, MSt m B n p F nm M → ∃ M1, MSt m B n p1 F nm M1 ∧ mAh m M M1 ∧ fX11_aTriangle φ m M = bd (fX11_oldOne φ m (iI 72) (iI (F 0 1 0)) (iI (2844 + 3 * F 0 2 0)) M1) fun v4 M5 => if v4 = iI 0 then some (iI 0, M5) else ixk (iI 2601) 3900 (bd (fX11_oldOne φ m (iI 72) (M5.1 (m + 1) (iI 2601).toNatClampNeg) (iI (2844 + 3 * F 0 2 0) + iI 1) M5) fun v6 M7 => if v6 = iI 0 then some (iI 0, M7) else kT3 φ m (iI (2844 + 3 * F 0 2 0)) M7) := fun m M S => by
    obtain ⟨M1, r1, S1, A1⟩ := m_next hφ hB S
    rw [← hp1] at S1
    have s0 : M.1 (m + 1) (Int.toNat 2602) = iI (F 0 2 0) := S.cnt (w := 2) (by omega)
    have s1 : M1.1 (m + 1) (Int.toNat 2601) = iI (F 0 1 0) := S1.cnt (w := 1) (by omega)
    refine ⟨M1, S1, A1, ?_⟩
    unfold fX11_aTriangle
    rw [z02, ixkI (by omega), iI_nat (by omega), s0, z44, k_3, iI_mul, iI_add, nm_eq, ixkI (by omega), if_neg (by rw [k_8, iI_eq (by omega) (by omega)]; exact h8), r1, bdP, z01, ixkI (by omega), iI_nat (by omega), s1, z72]
    rfl
  have mAo : ∀ m M1, MSt m B n p1 F nm M1 → _ := fun m M1 S1 => m_old hφ hB.1 hB.2 S1.1 S1.2.2.2 (to := 2844 + 3 * F 0 2 0) (b := 72) (N := F 0 1 0) (a := nm 1) (by omega) (by omega) n1.1 dw.2.1.2.1 (nb_h S1.2.2.1)
  by_cases h1 : a = -1
  · refine Part.no (fp := (tok B n p1).2.1) (fkT_1 (tok B n p1) (nf_1 (isNm (tok B n p1)))) (fun t ft gs M e S => ?_) (fun m M S => ?_)
    · obtain ⟨M1, S1, A1, r1, e1⟩ := cA t ft gs M e S
      rw [h1] at e1
      refine CFail.le A1.rw (CFail.of M1 ?_)
      unfold fX1_passTriangle
      rw [S.2.2.2.2, ldr_ok e.2.2.2, sbind, S.2.1.n2, if_pos c8, S.2.2.2.1, ldr_ok e.2.2.1, sbind, r1, bdP, S1.2.2.2.2, ldr_ok e.2.2.2, sbind, S1.2.2.2.1, ldr_ok e.2.2.1, sbind, c_name S1.1, sbind, e1, sbind, zm, if_pos rfl, sbind, sbind, c_nameFault w1 S1.1, sbind, c_refuse w1 S1.1, bdP, if_pos (Or.inl i0e)]
    · obtain ⟨M1, S1, A1, e1⟩ := mA m M S
      obtain ⟨M2, f1, f2⟩ := (mAo m M1 S1).1 (by rw [← ha]; exact h1)
      refine MFail.le A1.rw ⟨M2, ?_, f2⟩
      rw [e1, f1, bdP, if_pos rfl]
  have a0 : 0 ≤ a ∧ a < F 0 1 0 := by omega
  have cB : ∀ t ft gs M, ENV t ft gs → CSt t ft gs B n p F nm M → ∃ M1 M2, CSt t ft gs B n p1 F nm M1 ∧ CSt t ft gs B n p2 F nm M2 ∧ RCw t ft gs 13 M M2 ∧ fX6_goOn t M = some ((), M1) ∧ fX2_holeNamed φ gs (lI (tok B n p1).2.2.2.2) M1 = some (iI a) ∧ fX6_goOn t M1 = some ((), M2) ∧ fX2_holeNamed φ gs (lI (tok B n p2).2.2.2.2) M2 = some (iI b) := fun t ft gs M e S => by
    obtain ⟨M1, S1, A1, r1, e1⟩ := cA t ft gs M e S
    obtain ⟨M2, r2, S2, A2⟩ := c_next e S1
    rw [← hp2] at S2
    have e2 := c_holeNamed dw.1 S2.2.1 S2.2.2.1 dw.2.1 (nc_bd w2) (φ := φ) (by omega)
    rw [← hb] at e2
    exact ⟨M1, M2, S1, S2, A1.rw.trans A2.rw, r1, e1, r2, e2⟩
  have mB : ∀ m M, MSt m B n p F nm M → ∃ M2, RKp m B n p2 M2 ∧ M2.1 m 18 = iI 0 ∧ (∀ e : Int, 0 ≤ e → M2.1 (m + 1) e.toNat = if e = 2844 + 3 * F 0 2 0 then iI a else M.1 (m + 1) e.toNat) ∧ M2.2 = M.2 ∧ RW m M M2 ∧ fX11_aTriangle φ m M = bd (fX11_oldOne φ m (iI 72) (iI (F 0 1 0)) (iI (2844 + 3 * F 0 2 0 + 1)) M2) fun v6 M7 => if v6 = iI 0 then some (iI 0, M7) else kT3 φ m (iI (2844 + 3 * F 0 2 0)) M7 := fun m M S => by
    obtain ⟨M1, S1, A1, e1⟩ := mA m M S
    obtain ⟨M2, f1, f2, f3⟩ := (mAo m M1 S1).2 (by rw [← ha]; exact h1)
    rw [← ha] at f3
    rw [← hp2] at f2
    have t2 : ∀ e : Int, 0 ≤ e → M2.1 (m + 1) e.toNat = if e = 2844 + 3 * F 0 2 0 then iI a else M.1 (m + 1) e.toNat := fun e e0 => by
      rw [(f3.2.2 (m + 1) (by omega)).1]
      by_cases z : e = 2844 + 3 * F 0 2 0
      · rw [if_pos z, rI_at rfl (by omega)]
      · rw [if_neg z, rI_nk (by omega), (A1.2.2 (m + 1) (by omega)).1]
    have s1 : M2.1 (m + 1) (Int.toNat 2601) = iI (F 0 1 0) := by
      have := t2 2601 (by omega)
      rw [if_neg (by omega)] at this
      exact this.trans (S.cnt (w := 1) (by omega))
    refine ⟨M2, f2, by rw [f3.1 18 (by omega) (by omega) (by omega) (by omega), rI_ng (by omega)]; exact S1.2.2.2, t2, by rw [f3.2.1]; exact A1.2.1, (A1.rw.trans (RW.st (by omega) M1 _)).trans f3.rw, ?_⟩
    rw [e1, f1, bdP, if_neg (by decide), ixkI (by omega), iI_nat (by omega), s1, iI_add]
  have nb2 : ∀ m (M M2 : Mem), MSt m B n p F nm M → M2.2 = M.2 → ∀ r : Int, 0 ≤ r → r < F 0 1 0 → M2.2.1 (m + 2) (72 + r).toNat = lI (w8 (nm 1 r)) := fun m M M2 S z r x y => by rw [z]; exact nb_h S.2.2.1 r x y
  by_cases h2 : b = -1
  · refine Part.no (fp := (tok B n p2).2.1) (fkT_1 (tok B n p2) (nf_1 (isNm (tok B n p2)))) (fun t ft gs M e S => ?_) (fun m M S => ?_)
    · obtain ⟨M1, M2, S1, S2, A2, r1, e1, r2, e2⟩ := cB t ft gs M e S
      rw [h2] at e2
      refine CFail.le A2 (CFail.of M2 ?_)
      unfold fX1_passTriangle
      rw [S.2.2.2.2, ldr_ok e.2.2.2, sbind, S.2.1.n2, if_pos c8, S.2.2.2.1, ldr_ok e.2.2.1, sbind, r1, bdP, S1.2.2.2.2, ldr_ok e.2.2.2, sbind, S1.2.2.2.1, ldr_ok e.2.2.1, sbind, c_name S1.1, sbind, e1, sbind, zm, if_neg (by rw [iI_eq (by omega) (by omega)]; exact h1), sbind, r2, bdP, S2.2.2.2.2, ldr_ok e.2.2.2, sbind, S2.2.2.2.1, ldr_ok e.2.2.1, sbind, c_name S2.1, sbind, e2, sbind, if_pos rfl, sbind, sbind, c_nameFault w2 S2.1, sbind, c_refuse w2 S2.1, bdP, if_pos (Or.inl i0e)]
    · obtain ⟨M2, g1, g2, g3, g4, A2, e2⟩ := mB m M S
      obtain ⟨M3, f1, f2⟩ := (m_old hφ hB.1 hB.2 g1 g2 (to := 2844 + 3 * F 0 2 0 + 1) (b := 72) (N := F 0 1 0) (a := nm 1) (by omega) (by omega) n1.1 dw.2.1.2.1 (nb2 m M M2 S g4)).1 (by rw [← hb]; exact h2)
      refine MFail.le A2 ⟨M3, ?_, f2⟩
      rw [e2, f1, bdP, if_pos rfl]
  have b0 : 0 ≤ b ∧ b < F 0 1 0 := by omega
  have cC : ∀ t ft gs M, ENV t ft gs → CSt t ft gs B n p F nm M → ∃ M3, CSt t ft gs B n p3 F nm M3 ∧ RCw t ft gs 13 M M3 ∧ fX1_passTriangle φ ft M = if iI c = iI (-1) then (fX6_nameFault t M3).bind fun v41 => bd (fX6_refuseToken t v41 M3) fun v42 M43 => if v42 = iI 0 ∨ v42 = iI 1 then some (v42, M43) else none else (fX2_turnOfHoles gs (iI a) (iI b) (iI c) M3).bind fun v24 => if v24 = iI 0 then bd (fX6_refuseToken t (iI 5) M3) fun v36 M37 => if v36 = iI 0 ∨ v36 = iI 1 then some (v36, M37) else none else bd (fX2_addTriangle gs (iI a) (iI b) (iI c) M3) fun vu26 M27 => (ldr 6 (M27.2.2 ft 1)).bind fun vr28 => bd (fX6_goOn vr28 M27) fun vu29 M30 => (ldr 6 (M30.2.2 ft 1)).bind fun vr31 => csm vr31 M30 := fun t ft gs M e S => by
    obtain ⟨M1, M2, S1, S2, A2, r1, e1, r2, e2⟩ := cB t ft gs M e S
    obtain ⟨M3, r3, S3, A3⟩ := c_next e S2
    rw [← hp3] at S3
    have e3 := c_holeNamed dw.1 S3.2.1 S3.2.2.1 dw.2.1 (nc_bd w3) (φ := φ) (by omega)
    rw [← hc] at e3
    refine ⟨M3, S3, A2.trans A3.rw, ?_⟩
    unfold fX1_passTriangle
    rw [S.2.2.2.2, ldr_ok e.2.2.2, sbind, S.2.1.n2, if_pos c8, S.2.2.2.1, ldr_ok e.2.2.1, sbind, r1, bdP, S1.2.2.2.2, ldr_ok e.2.2.2, sbind, S1.2.2.2.1, ldr_ok e.2.2.1, sbind, c_name S1.1, sbind, e1, sbind, zm, if_neg (by rw [iI_eq (by omega) (by omega)]; exact h1), sbind, r2, bdP, S2.2.2.2.2, ldr_ok e.2.2.2, sbind, S2.2.2.2.1, ldr_ok e.2.2.1, sbind, c_name S2.1, sbind, e2, sbind, if_neg (by rw [iI_eq (by omega) (by omega)]; exact h2), sbind, r3, bdP, S3.2.2.2.2, ldr_ok e.2.2.2, sbind, S3.2.2.2.1, ldr_ok e.2.2.1, sbind, c_name S3.1, sbind, e3, sbind]
    rfl
  have mC : ∀ m M, MSt m B n p F nm M → ∃ M3, RKp m B n p3 M3 ∧ M3.1 m 18 = iI 0 ∧ (∀ e : Int, 0 ≤ e → M3.1 (m + 1) e.toNat = if e = 2844 + 3 * F 0 2 0 + 1 then iI b else if e = 2844 + 3 * F 0 2 0 then iI a else M.1 (m + 1) e.toNat) ∧ M3.2 = M.2 ∧ RW m M M3 ∧ fX11_aTriangle φ m M = (fX11_isName φ m 1002 M3).bind fun v8 => if v8 = iI 0 then kT4 φ m (F 0 1 0) (2844 + 3 * F 0 2 0) M3 else (fX11_findHere φ m (iI 72) (iI (F 0 1 0)) M3).bind fun v13 => if v13 = iI (-1) then kT4 φ m (F 0 1 0) (2844 + 3 * F 0 2 0) M3 else (fX11_cornersOf m (iI 2600) (iI a) (iI b) v13 M3).bind fun vz14 => if vz14 = (0 : Int64) then bd (fX11_fails m (iI 5) M3) fun v15 M16 => if v15 = iI 0 ∨ v15 = iI 1 then some (v15, M16) else none else kT4 φ m (F 0 1 0) (2844 + 3 * F 0 2 0) M3 := fun m M S => by
    obtain ⟨M2, g1, g2, g3, g4, A2, e2⟩ := mB m M S
    obtain ⟨M3, f1, f2, f3⟩ := (m_old hφ hB.1 hB.2 g1 g2 (to := 2844 + 3 * F 0 2 0 + 1) (b := 72) (N := F 0 1 0) (a := nm 1) (by omega) (by omega) n1.1 dw.2.1.2.1 (nb2 m M M2 S g4)).2 (by rw [← hb]; exact h2)
    rw [← hb] at f3
    rw [← hp3] at f2
    have t3 : ∀ e : Int, 0 ≤ e → M3.1 (m + 1) e.toNat = if e = 2844 + 3 * F 0 2 0 + 1 then iI b else if e = 2844 + 3 * F 0 2 0 then iI a else M.1 (m + 1) e.toNat := fun e e0 => by
      rw [(f3.2.2 (m + 1) (by omega)).1]
      by_cases z : e = 2844 + 3 * F 0 2 0 + 1
      · rw [if_pos z, rI_at rfl (by omega)]
      · rw [if_neg z, rI_nk (by omega)]; exact g3 e e0
    have s1 : M3.1 (m + 1) (Int.toNat 2601) = iI (F 0 1 0) := by
      have := t3 2601 (by omega)
      rw [if_neg (by omega), if_neg (by omega)] at this
      exact this.trans (S.cnt (w := 1) (by omega))
    have va : M3.1 (m + 1) (2844 + 3 * F 0 2 0).toNat = iI a := by rw [t3 _ (by omega), if_neg (by omega), if_pos rfl]
    have vb : M3.1 (m + 1) (2844 + 3 * F 0 2 0 + 1).toNat = iI b := by rw [t3 _ (by omega), if_pos rfl]
    refine ⟨M3, f2, by rw [f3.1 18 (by omega) (by omega) (by omega) (by omega), rI_ng (by omega)]; exact g2, t3, by rw [f3.2.1]; exact g4, (A2.trans (RW.st (e := 2844 + 3 * F 0 2 0 + 1) (by omega) M2 _)).trans f3.rw, ?_⟩
    rw [e2, f1, bdP, if_neg (by decide)]
    unfold kT3 kT4
    simp (disch := omega) only [z01, z02, z26, z72, iI_neg, k_0, k_1, k_2, k_5, iI_add, ixkI, iI_nat, nm_eq, jn_eq, s1, va, vb]
  cases hm : isNm (tok B n p3) with
  | false =>
    have c1 : c = -1 := by
      have := fN_no (N := F 0 1 0) n1.1 dw.2.1.2.1 w3 hm
      rw [← hc] at this
      exact this
    refine Part.no (fp := (tok B n p3).2.1) (fkT_1 (tok B n p3) (nf_1 (isNm (tok B n p3)))) (fun t ft gs M e S => ?_) (fun m M S => ?_)
    · obtain ⟨M3, S3, A3, e3⟩ := cC t ft gs M e S
      refine CFail.le A3 (CFail.of M3 ?_)
      rw [e3, c1, if_pos rfl, c_nameFault w3 S3.1, sbind, c_refuse w3 S3.1, bdP, if_pos (Or.inl rfl)]
    · obtain ⟨M3, g1, g2, g3, g4, A3, e3⟩ := mC m M S
      have e4 := m_isName hφ hB.1 hB.2 g1
      rw [hm, bI_f] at e4
      obtain ⟨M4, f1, f2⟩ := (m_old hφ hB.1 hB.2 g1 g2 (to := 2844 + 3 * F 0 2 0 + 2) (b := 72) (N := F 0 1 0) (a := nm 1) (by omega) (by omega) n1.1 dw.2.1.2.1 (nb2 m M M3 S g4)).1 (by rw [← hc]; exact c1)
      refine MFail.le A3 ⟨M4, ?_, f2⟩
      rw [e3, e4, sbind, if_pos rfl]
      unfold kT4
      rw [f1, bdP, if_pos rfl]
  | true =>
  have iM : ∀ m (M M3 : Mem), MSt m B n p F nm M → RKp m B n p3 M3 → M3.2 = M.2 → fX11_isName φ m 1002 M3 = some (iI 1) ∧ fX11_findHere φ m (iI 72) (iI (F 0 1 0)) M3 = some (iI c) := fun m M M3 S g1 g4 => by
    have e4 := m_isName hφ hB.1 hB.2 g1
    rw [hm, bI_t] at e4
    have e5 := m_find hφ hB.1 hB.2 g1 hm (b := 72) (N := F 0 1 0) (by omega) n1.1 dw.2.1.2.1 (nb2 m M M3 S g4)
    rw [← hc] at e5
    exact ⟨e4, e5⟩
  by_cases h3 : c = -1
  · refine Part.no (fp := (tok B n p3).2.1) (fkT_1 (tok B n p3) (nf_1 (isNm (tok B n p3)))) (fun t ft gs M e S => ?_) (fun m M S => ?_)
    · obtain ⟨M3, S3, A3, e3⟩ := cC t ft gs M e S
      refine CFail.le A3 (CFail.of M3 ?_)
      rw [e3, h3, if_pos rfl, c_nameFault w3 S3.1, sbind, c_refuse w3 S3.1, bdP, if_pos (Or.inl rfl)]
    · obtain ⟨M3, g1, g2, g3, g4, A3, e3⟩ := mC m M S
      obtain ⟨e4, e5⟩ := iM m M M3 S g1 g4
      obtain ⟨M4, f1, f2⟩ := (m_old hφ hB.1 hB.2 g1 g2 (to := 2844 + 3 * F 0 2 0 + 2) (b := 72) (N := F 0 1 0) (a := nm 1) (by omega) (by omega) n1.1 dw.2.1.2.1 (nb2 m M M3 S g4)).1 (by rw [← hc]; exact h3)
      refine MFail.le A3 ⟨M4, ?_, f2⟩
      rw [e3, e4, sbind, if_neg (by decide), e5, sbind, h3, if_pos rfl]
      unfold kT4
      rw [f1, bdP, if_pos rfl]
  have c0 : 0 ≤ c ∧ c < F 0 1 0 := by omega
  have t3b := dw.1.tr3 a0 b0 c0
  have cm : ¬ (iI c = iI (-1)) := by rw [iI_eq (by omega) (by omega)]; exact h3
  have z0 : (0 : Int64) = lI 0 := rfl
  have cornM : ∀ m (M M3 : Mem), MSt m B n p F nm M → (∀ e : Int, 0 ≤ e → M3.1 (m + 1) e.toNat = if e = 2844 + 3 * F 0 2 0 + 1 then iI b else if e = 2844 + 3 * F 0 2 0 then iI a else M.1 (m + 1) e.toNat) → fX11_cornersOf m (iI 2600) (iI a) (iI b) (iI c) M3 = some (lI (s_turn3 F a b c)) := fun m M M3 S g3 => m_cornersN dw.1 (fun i k i0 i1 k0 k1 => by
    have e0 := S.2.1.2.2.2.1 i k i0 (by omega) k0 (by omega)
    rw [show (2600 : Int) + (82 + 27 * i + k) = 2682 + 27 * i + k from by omega] at e0
    rw [g3 _ (by omega), if_neg (by omega), if_neg (by omega)]
    exact e0) a0 b0 c0
  by_cases h4 : s_turn3 F a b c = 0
  · refine Part.no (fp := (tok B n p3).2.1) (fkT_1 (tok B n p3) (k := 5) (by omega)) (fun t ft gs M e S => ?_) (fun m M S => ?_)
    · obtain ⟨M3, S3, A3, e3⟩ := cC t ft gs M e S
      refine CFail.le A3 (CFail.of M3 ?_)
      rw [e3, if_neg cm, c_turnOfHoles dw.1 S3.2.1 a0 b0 c0, sbind, h4, if_pos rfl, c_refuse w3 S3.1, bdP, if_pos (Or.inl rfl)]
    · obtain ⟨M3, g1, g2, g3, g4, A3, e3⟩ := mC m M S
      obtain ⟨e4, e5⟩ := iM m M M3 S g1 g4
      refine MFail.le A3 (MFail.of M3 ?_)
      rw [e3, e4, sbind, if_neg (by decide), e5, sbind, if_neg cm, cornM m M M3 S g3, sbind, h4, if_pos z0.symm, m_fails hB.2 g1 g2 5, bdP, if_pos (Or.inl rfl)]
  · refine Part.fin hφ hB b4.1 (by omega) (dw.tri (a := a) (b := b) (c := c) (by omega) a0 b0 c0 h4) (fun t ft gs M e S => ?_) (fun m M S => ?_)
    · obtain ⟨M3, S3, A3, e3⟩ := cC t ft gs M e S
      obtain ⟨M4, a1, a2, a3, a4, a5⟩ := c_addTri (a := a) (b := b) (c := c) dw (by omega) S3.2.1 S3.2.2.1
      have S4 := S3.add e a2 a3 a4 a5
      obtain ⟨M5, q1, q2, q3⟩ := c_next e S4
      rw [← hp4] at q2
      refine ⟨M5, ?_, q2, (A3.trans (RCw.add e (by omega) a4 a5)).trans q3.rw⟩
      rw [e3, if_neg cm, c_turnOfHoles dw.1 S3.2.1 a0 b0 c0, sbind, if_neg (by rw [iI_eq (by omega) (by omega)]; exact h4), a1, bdP, S4.2.2.2.1, ldr_ok e.2.2.1, sbind, q1, bdP, q2.2.2.2.1, ldr_ok e.2.2.1, sbind]
    · obtain ⟨M3, g1, g2, g3, g4, A3, e3⟩ := mC m M S
      obtain ⟨e4, e5⟩ := iM m M M3 S g1 g4
      obtain ⟨M4, f1, f2, f3⟩ := (m_old hφ hB.1 hB.2 g1 g2 (to := 2844 + 3 * F 0 2 0 + 2) (b := 72) (N := F 0 1 0) (a := nm 1) (by omega) (by omega) n1.1 dw.2.1.2.1 (nb2 m M M3 S g4)).2 (by rw [← hc]; exact h3)
      rw [← hc] at f3
      rw [← hp4] at f2
      have t4 : ∀ e : Int, 0 ≤ e → M4.1 (m + 1) e.toNat = if e = 2844 + 3 * F 0 2 0 + 2 then iI c else if e = 2844 + 3 * F 0 2 0 + 1 then iI b else if e = 2844 + 3 * F 0 2 0 then iI a else M.1 (m + 1) e.toNat := fun e e0 => by
        rw [(f3.2.2 (m + 1) (by omega)).1]
        by_cases z : e = 2844 + 3 * F 0 2 0 + 2
        · rw [if_pos z, rI_at rfl (by omega)]
        · rw [if_neg z, rI_nk (by omega)]; exact g3 e e0
      have s2 : M4.1 (m + 1) (Int.toNat 2602) = iI (F 0 2 0) := by
        have := t4 2602 (by omega)
        rw [if_neg (by omega), if_neg (by omega), if_neg (by omega)] at this
        exact this.trans (S.cnt (w := 2) (by omega))
      have frx : Fr (Rg (m + 1) (m + 1)) M4 (stI M4 (m + 1) (Int.toNat 2602) (iI (F 0 2 0 + 1))) := Fr.stI ⟨by omega, by omega⟩ (Fr.refl M4)
      have t22 : (stI M4 (m + 1) (Int.toNat 2602) (iI (F 0 2 0 + 1))).2 = M.2 := by
        show M4.2 = _
        rw [f3.2.1]
        exact g4
      refine ⟨stI M4 (m + 1) (Int.toNat 2602) (iI (F 0 2 0 + 1)), ?_, ⟨f2.fr frx (fun q => by have := q.1; omega) (fun q => by have := q.2; omega), MR.tri dw.1 (by omega) S.2.1 (rI_at rfl rfl) ?_ ?_ ?_ (fun e e0 e1 e2 e3 e4 => ?_), ?_, ?_⟩, ((A3.trans (RW.st (e := 2844 + 3 * F 0 2 0 + 2) (by omega) M3 _)).trans f3.rw).trans (RW.st (e := 2602) (by omega) M4 _)⟩
      · rw [e3, e4, sbind, if_neg (by decide), e5, sbind, if_neg cm, cornM m M M3 S g3, sbind, if_neg (by rw [z0, lI_eq (by omega) (by omega)]; exact h4)]
        unfold kT4
        rw [f1, bdP, if_neg (by decide), s2, iI_add]
      · rw [rI_nk (by omega), t4 _ (by omega), if_neg (by omega), if_neg (by omega), if_pos rfl]
      · rw [rI_nk (by omega), t4 _ (by omega), if_neg (by omega), if_pos rfl]
      · rw [rI_nk (by omega), t4 _ (by omega), if_pos rfl]
      · rw [rI_nk (by omega), t4 e e0, if_neg e4, if_neg e3, if_neg e2]
      · unfold NB
        rw [t22, ut_0 F a b c (w := 0) (by omega), ut_0 F a b c (w := 1) (by omega), ut_0 F a b c (w := 3) (by omega)]
        exact S.2.2.1
      · rw [rI_ng (by omega), f3.1 18 (by omega) (by omega) (by omega) (by omega), rI_ng (by omega)]; exact g2
end TR
