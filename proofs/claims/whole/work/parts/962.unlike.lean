/-! what two unlike rocks cost -/
def u_cp (F : Fld) (a b v : Int) : Fld := fun k x y => if k = 2 ∧ ((x = a ∧ y = b) ∨ (x = b ∧ y = a)) then v else F k x y
section UL
variable {t m ft gs g : Nat} {F F' : Fld} {nm nm' : NMs} {M : Mem} {B : Int → Int} {n p s : Int}
theorem ucp_k (F : Fld) (a b v : Int) {k : Nat} (h : k ≠ 2) : u_cp F a b v k = F k := by
  funext x y
  exact if_neg (fun q => h q.1)
theorem ucp_2 (F : Fld) (a b v x y : Int) : u_cp F a b v 2 x y = if (x = a ∧ y = b) ∨ (x = b ∧ y = a) then v else F 2 x y := by
  unfold u_cp
  by_cases h : (x = a ∧ y = b) ∨ (x = b ∧ y = a)
  · rw [if_pos ⟨rfl, h⟩, if_pos h]
  · rw [if_neg (fun q => h q.2), if_neg h]
theorem DW.cp {a b v : Int} (d : DW F nm) (hab : a ≠ b) (hv : 0 ≤ v ∧ v ≤ 99) : DW (u_cp F a b v) nm := by
  obtain ⟨w, wn, dg⟩ := d
  have hst : ∀ t, s_turn (u_cp F a b v) t = s_turn F t := fun t => by
    unfold s_turn s_turn3
    rw [ucp_k F a b v (k := 3) (by omega), ucp_k F a b v (k := 6) (by omega)]
  refine ⟨?_, ?_, fun x x0 x1 => ?_⟩
  · obtain ⟨ns, sk, cp, hl, ly, co, tn, fl⟩ := w
    unfold WF
    rw [ucp_k F a b v (k := 0) (by omega), ucp_k F a b v (k := 1) (by omega), ucp_k F a b v (k := 3) (by omega), ucp_k F a b v (k := 4) (by omega), ucp_k F a b v (k := 5) (by omega), ucp_k F a b v (k := 6) (by omega), ucp_k F a b v (k := 7) (by omega)]
    refine ⟨ns, sk, fun x y a0 a1 b0 b1 => ?_, hl, ly, co, fun t a b => by rw [hst]; exact tn t a b, fl⟩
    have e1 : u_cp F a b v 2 x x = F 2 x x := by rw [ucp_2, if_neg (by omega)]
    rw [e1, ucp_2]
    have := cp x y a0 a1 b0 b1
    split
    · exact ⟨hv.1, hv.2, this.2.2⟩
    · exact this
  · unfold WN
    rw [ucp_k F a b v (k := 0) (by omega)]
    exact wn
  · rw [ucp_2, if_neg (by omega)]; exact dg x x0 x1
theorem GR.cp2 {a b v : Int} (w : WF F) (G : GR g F M) (ha : 0 ≤ a ∧ a < F 0 0 0) (hb : 0 ≤ b ∧ b < F 0 0 0) : GR g (u_cp F a b v) (stI (stI M (g + 3) (a * 8 + b).toNat (iI v)) (g + 3) (b * 8 + a).toNat (iI v)) := by
  have n0 := w.n0
  have ot : ∀ z, z ≠ g + 3 → (stI (stI M (g + 3) (a * 8 + b).toNat (iI v)) (g + 3) (b * 8 + a).toNat (iI v)).1 z = M.1 z := fun z hz => by
    funext j
    rw [rI_ng hz, rI_ng hz]
  obtain ⟨ns, sk, cp, hl, ly, co, fl, ft⟩ := G
  unfold GR
  rw [ucp_k F a b v (k := 0) (by omega), ucp_k F a b v (k := 1) (by omega), ucp_k F a b v (k := 3) (by omega), ucp_k F a b v (k := 4) (by omega), ucp_k F a b v (k := 5) (by omega), ucp_k F a b v (k := 6) (by omega), ucp_k F a b v (k := 7) (by omega), ot g (by omega), ot (g + 2) (by omega), ot (g + 5) (by omega), ot (g + 6) (by omega), ot (g + 7) (by omega), ot (g + 8) (by omega), ot (g + 9) (by omega), ot (g + 10) (by omega), ot (g + 12) (by omega), ot (g + 13) (by omega)]
  refine ⟨ns, sk, fun x y a0 a1 b0 b1 => ?_, hl, ly, co, fl, ft⟩
  rw [ucp_2]
  by_cases q1 : x = b ∧ y = a
  · rw [if_pos (by omega), rI_at rfl (by omega)]
  · rw [rI_nk (by omega)]
    by_cases q2 : x = a ∧ y = b
    · rw [if_pos (by omega), rI_at rfl (by omega)]
    · rw [rI_nk (by omega), if_neg (by omega)]; exact cp x y a0 a1 b0 b1
theorem MR.cp2 {M1 : Mem} {a b v : Int} (G : MR m 2600 F M) (h2 : ∀ x y, 0 ≤ x → x < 8 → 0 ≤ y → y < 8 → M1.1 (m + 1) (2618 + 8 * x + y).toNat = if (x = a ∧ y = b) ∨ (x = b ∧ y = a) then iI v else M.1 (m + 1) (2618 + 8 * x + y).toNat) (h3 : ∀ e : Int, 0 ≤ e → e < 2880 → e < 2618 ∨ 2682 ≤ e → M1.1 (m + 1) e.toNat = M.1 (m + 1) e.toNat) : MR m 2600 (u_cp F a b v) M1 := by
  obtain ⟨g0, g1, g2, g3, g4, g5, g6⟩ := G
  refine ⟨fun w a b => ?_, fun k a b => ?_, fun x y a b c d => ?_, fun h w a b c d => ?_, fun h l a b c d => ⟨?_, ?_⟩, fun t k a b c d => ?_, fun f k a b c d => ?_⟩
  · rw [ucp_k F _ _ _ (k := 0) (by omega), h3 _ (by omega) (by omega) (by omega)]; exact g0 w a b
  · rw [ucp_k F _ _ _ (k := 1) (by omega), h3 _ (by omega) (by omega) (by omega)]; exact g1 k a b
  · have e := g2 x y a b c d
    rw [show (2600 : Int) + (18 + 8 * x + y) = 2618 + 8 * x + y from by omega] at e ⊢
    rw [h2 x y a b c d, ucp_2]
    split
    · rfl
    · exact e
  · rw [ucp_k F _ _ _ (k := 3) (by omega), h3 _ (by omega) (by omega) (by omega)]; exact g3 h w a b c d
  · rw [ucp_k F _ _ _ (k := 4) (by omega), h3 _ (by omega) (by omega) (by omega)]; exact (g4 h l a b c d).1
  · rw [ucp_k F _ _ _ (k := 5) (by omega), h3 _ (by omega) (by omega) (by omega)]; exact (g4 h l a b c d).2
  · rw [ucp_k F _ _ _ (k := 6) (by omega), h3 _ (by omega) (by omega) (by omega)]; exact g5 t k a b c d
  · rw [ucp_k F _ _ _ (k := 7) (by omega), h3 _ (by omega) (by omega) (by omega)]; exact g6 f k a b c d
theorem MSt.hi {M1 : Mem} {q : Int} {e : Int} {v : Int32} (S : MSt m B n p F nm M) (he : 2880 ≤ e) (h : RKp m B n q M1) (a : mAh m (stI M (m + 1) e.toNat v) M1) : MSt m B n q F nm M1 := by
  obtain ⟨s1, s2, s3, s4⟩ := S
  have t1 : M1.1 (m + 1) = (stI M (m + 1) e.toNat v).1 (m + 1) := (a.2.2 (m + 1) (by omega)).1
  exact ⟨h, s2.cell (by omega) (fun k k0 k1 => by rw [t1, rI_nk (by omega)]), s3.fr (S := fun z => z = m ∨ z = m + 1) ((Fr.stI (Or.inr rfl) (Fr.refl M)).trans (a.2.2.mono (fun z q => Or.inl q))) (by omega), by rw [a.1 18 (by omega) (by omega) (by omega) (by omega), rI_ng (by omega)]; exact s4⟩
theorem p_unlike {φ : Nat} (hφ : 2000 < φ) (hB : HB B n) (hp : 0 ≤ p ∧ p ≤ n) (dw : DW F nm) (hk : wv (tok B n p) = 2) : Part (fX1_passUnlike φ) (fun m M => sem φ m (fX11_unlikes φ m M)) B n p F nm := by
  have n0 := dw.1.n0
  have b1 := nx_b hB hp
  have w0 := hB.w hp
  have lt1 := b1.2.2 (wv_k hk (by omega))
  have b2 := nx_b hB b1.1
  have w1 := hB.w b1.1
  have b3 := nx_b hB b2.1
  have w2 := hB.w b2.1
  have b4 := nx_b hB b3.1
  have w3 := hB.w b3.1
  have b5 := nx_b hB b4.1
  have w4 := hB.w b4.1
  obtain ⟨p1, hp1⟩ : ∃ p1, p1 = nx B n p := ⟨_, rfl⟩
  rw [← hp1] at b1 b2 b3 b4 b5 w1 w2 w3 w4 lt1
  obtain ⟨p2, hp2⟩ : ∃ p2, p2 = nx B n p1 := ⟨_, rfl⟩
  rw [← hp2] at b2 b3 b4 b5 w2 w3 w4
  obtain ⟨p3, hp3⟩ : ∃ p3, p3 = nx B n p2 := ⟨_, rfl⟩
  rw [← hp3] at b3 b4 b5 w3 w4
  obtain ⟨p4, hp4⟩ : ∃ p4, p4 = nx B n p3 := ⟨_, rfl⟩
  rw [← hp4] at b4 b5 w4
  obtain ⟨p5, hp5⟩ : ∃ p5, p5 = nx B n p4 := ⟨_, rfl⟩
  rw [← hp5] at b5
  obtain ⟨a, ha⟩ : ∃ a, a = fN (nm 0) (F 0 0 0) (tok B n p1).2.2.2.2 := ⟨_, rfl⟩
  obtain ⟨b, hb⟩ : ∃ b, b = fN (nm 0) (F 0 0 0) (tok B n p2).2.2.2.2 := ⟨_, rfl⟩
  have ab := fN_bd (nm 0) (N := F 0 0 0) (c := (tok B n p1).2.2.2.2) n0.1
  have bb := fN_bd (nm 0) (N := F 0 0 0) (c := (tok B n p2).2.2.2.2) n0.1
  rw [← ha] at ab
  rw [← hb] at bb
  have zm : (-1 : Int32) = iI (-1) := rfl
  have z26 : (2600 : Int32) = iI 2600 := rfl
  have z32 : (3245 : Int32) = iI 3245 := rfl
  have z18 : (2618 : Int32) = iI 2618 := rfl
  -- the class's way
  have cA : ∀ (t : Nat) (ft : Nat) (gs : Nat) (M : Mem) (e : ENV t ft gs) (S : CSt t ft gs B n p F nm M), ∃ M1, fX6_goOn t M = some ((), M1) ∧ CSt t ft gs B n p1 F nm M1 ∧ cGo t M M1 ∧ fX2_rockNamed φ gs (lI (tok B n p1).2.2.2.2) M1 = some (iI a) := fun t ft gs M (e : ENV t ft gs) (S : CSt t ft gs B n p F nm M) => by
    obtain ⟨M1, r1, S1, A1⟩ := c_next e S
    rw [← hp1] at S1
    have e1 := c_rockNamed dw.1 S1.2.1 S1.2.2.1 dw.2.1 (nc_bd w1) (φ := φ) (by omega)
    rw [← ha] at e1
    exact ⟨M1, r1, S1, A1, e1⟩
  have mA : ∀ (m : Nat) (M : Mem) (S : MSt m B n p F nm M), ∃ M1, fX11_ahead φ m M = some ((), M1) ∧ MSt m B n p1 F nm M1 ∧ mAh m M M1 ∧ M1.1 (m + 1) (Int.toNat 2600) = iI (F 0 0 0) ∧ (a = -1 → MFail m (fkT (tok B n p1) (if isNm (tok B n p1) = true then 3 else 2)) (tok B n p1).2.1 M1 (fX11_oldOne φ m (iI 64) (iI (F 0 0 0)) (iI 3245) M1)) ∧ (a ≠ -1 → ∃ M2, fX11_oldOne φ m (iI 64) (iI (F 0 0 0)) (iI 3245) M1 = some (iI 1, M2) ∧ RKp m B n (nx B n p1) M2 ∧ mAh m (stI M1 (m + 1) (Int.toNat 3245) (iI a)) M2) := fun m M (S : MSt m B n p F nm M) => by
    obtain ⟨M1, r1, S1, A1⟩ := m_next hφ hB S
    rw [← hp1] at S1
    have o1 := m_old hφ hB.1 hB.2 S1.1 S1.2.2.2 (to := 3245) (b := 64) (N := F 0 0 0) (a := nm 0) (by omega) (by omega) n0.1 dw.2.1.1 (nb_r S1.2.2.1)
    rw [← ha] at o1
    have c1 : M1.1 (m + 1) (Int.toNat 2600) = iI (F 0 0 0) := S1.cnt (w := 0) (by omega)
    exact ⟨M1, r1, S1, A1, c1, o1⟩
  by_cases h1 : a = -1
  · refine Part.no (fp := (tok B n p1).2.1) (fkT_1 (tok B n p1) (nf_1 (isNm (tok B n p1)))) (fun t ft gs M e S => ?_) (fun m M S => ?_)
    · obtain ⟨M1, r1, S1, A1, e1⟩ := cA t ft gs M e S
      rw [h1] at e1
      refine CFail.le A1.rw (CFail.of M1 ?_)
      unfold fX1_passUnlike
      rw [S.2.2.2.1, ldr_ok e.2.2.1, sbind, r1, bdP, S1.2.2.2.2, ldr_ok e.2.2.2, sbind, S1.2.2.2.1, ldr_ok e.2.2.1, sbind, c_name S1.1, sbind, e1, sbind, zm, if_pos rfl, sbind, sbind, c_nameFault w1 S1.1, sbind, c_refuse w1 S1.1, bdP, if_pos (Or.inl i0e)]
    · obtain ⟨M1, r1, S1, A1, c1, o1, _⟩ := mA m M S
      obtain ⟨M2, f1, f2⟩ := o1 h1
      refine MFail.le A1.rw ⟨M2, ?_, f2⟩
      unfold fX11_unlikes
      rw [r1, bdP, z26, ixkI (by omega), iI_nat (by omega), c1, k_64, z32, f1, bdP, if_pos i0e]
      rfl
  have a0 : 0 ≤ a ∧ a < F 0 0 0 := by omega
  have cB : ∀ (t : Nat) (ft : Nat) (gs : Nat) (M : Mem) (e : ENV t ft gs) (S : CSt t ft gs B n p F nm M), ∃ M1 M2, fX6_goOn t M = some ((), M1) ∧ CSt t ft gs B n p1 F nm M1 ∧ cGo t M M1 ∧ fX2_rockNamed φ gs (lI (tok B n p1).2.2.2.2) M1 = some (iI a) ∧ fX6_goOn t M1 = some ((), M2) ∧ CSt t ft gs B n p2 F nm M2 ∧ cGo t M1 M2 ∧ fX2_rockNamed φ gs (lI (tok B n p2).2.2.2.2) M2 = some (iI b) := fun t ft gs M (e : ENV t ft gs) (S : CSt t ft gs B n p F nm M) => by
    obtain ⟨M1, r1, S1, A1, e1⟩ := cA t ft gs M e S
    obtain ⟨M2, r2, S2, A2⟩ := c_next e S1
    rw [← hp2] at S2
    have e2 := c_rockNamed dw.1 S2.2.1 S2.2.2.1 dw.2.1 (nc_bd w2) (φ := φ) (by omega)
    rw [← hb] at e2
    exact ⟨M1, M2, r1, S1, A1, e1, r2, S2, A2, e2⟩
  have mB : ∀ (m : Nat) (M : Mem) (S : MSt m B n p F nm M), ∃ M1 M2, fX11_ahead φ m M = some ((), M1) ∧ M1.1 (m + 1) (Int.toNat 2600) = iI (F 0 0 0) ∧ fX11_oldOne φ m (iI 64) (iI (F 0 0 0)) (iI 3245) M1 = some (iI 1, M2) ∧ MSt m B n p2 F nm M2 ∧ RW m M M2 ∧ M2.1 (m + 1) (Int.toNat 3245) = iI a ∧ M2.1 (m + 1) (Int.toNat 2600) = iI (F 0 0 0) ∧ (b = -1 → MFail m (fkT (tok B n p2) (if isNm (tok B n p2) = true then 3 else 2)) (tok B n p2).2.1 M2 (fX11_oldOne φ m (iI 64) (iI (F 0 0 0)) (iI 3245) M2)) ∧ (b ≠ -1 → ∃ M3, fX11_oldOne φ m (iI 64) (iI (F 0 0 0)) (iI 3245) M2 = some (iI 1, M3) ∧ RKp m B n (nx B n p2) M3 ∧ mAh m (stI M2 (m + 1) (Int.toNat 3245) (iI b)) M3) := fun m M (S : MSt m B n p F nm M) => by
    obtain ⟨M1, r1, S1, A1, c1, _, o1⟩ := mA m M S
    obtain ⟨M2, f1, f2, f3⟩ := o1 h1
    rw [← hp2] at f2
    have S2 := S1.hi (by omega) f2 f3
    have v2 : M2.1 (m + 1) (Int.toNat 3245) = iI a := by rw [(f3.2.2 (m + 1) (by omega)).1]; exact rI_at rfl rfl
    have c2 : M2.1 (m + 1) (Int.toNat 2600) = iI (F 0 0 0) := S2.cnt (w := 0) (by omega)
    have o2 := m_old hφ hB.1 hB.2 S2.1 S2.2.2.2 (to := 3245) (b := 64) (N := F 0 0 0) (a := nm 0) (by omega) (by omega) n0.1 dw.2.1.1 (nb_r S2.2.2.1)
    rw [← hb] at o2
    exact ⟨M1, M2, r1, c1, f1, S2, (A1.rw.trans (RW.st (e := 3245) (by omega) M1 _)).trans f3.rw, v2, c2, o2⟩
  by_cases h2 : b = -1
  · refine Part.no (fp := (tok B n p2).2.1) (fkT_1 (tok B n p2) (nf_1 (isNm (tok B n p2)))) (fun t ft gs M e S => ?_) (fun m M S => ?_)
    · obtain ⟨M1, M2, r1, S1, A1, e1, r2, S2, A2, e2⟩ := cB t ft gs M e S
      rw [h2] at e2
      refine CFail.le (A1.rw.trans A2.rw) (CFail.of M2 ?_)
      unfold fX1_passUnlike
      rw [S.2.2.2.1, ldr_ok e.2.2.1, sbind, r1, bdP, S1.2.2.2.2, ldr_ok e.2.2.2, sbind, S1.2.2.2.1, ldr_ok e.2.2.1, sbind, c_name S1.1, sbind, e1, sbind, zm, if_neg (by rw [iI_eq (by omega) (by omega)]; omega), sbind, r2, bdP, S2.2.2.2.2, ldr_ok e.2.2.2, sbind, S2.2.2.2.1, ldr_ok e.2.2.1, sbind, c_name S2.1, sbind, e2, sbind, if_pos rfl, sbind, sbind, c_nameFault w2 S2.1, sbind, c_refuse w2 S2.1, bdP, if_pos (Or.inl i0e)]
    · obtain ⟨M1, M2, r1, c1, f1, S2, A2, v2, c2, o2, _⟩ := mB m M S
      obtain ⟨M3, g1, g2⟩ := o2 h2
      have i2 := m_isName hφ hB.1 hB.2 S2.1
      refine MFail.le A2 ⟨M3, ?_, g2⟩
      unfold fX11_unlikes
      cases hm : isNm (tok B n p2) with
      | false =>
        rw [hm] at i2
        simp (disch := omega) only [iI_add, iI_sub, iI_mul, iI_neg, iI_nat, addm1, ixkI, ↓sbind, sbind, ↓bdS, bdS, ↓nm_eq, ↓jn_eq, iI_lt, iI_le, iI_eq, k_0, k_1, k_2, k_3, k_4, k_5, k_6, k_7, k_8, k_9, k_10, k_11, k_12, k_13, k_14, k_15, k_16, k_17, k_18, k_19, k_20, k_21, k_22, k_23, k_24, k_27, k_30, k_32, k_48, k_57, k_59, k_60, k_61, k_62, k_63, k_64, k_72, k_78, k_80, k_82, k_97, k_99, k_100, k_122, k_244, k_255, k_268, k_280, k_300, k_432, k_650, k_900, k_901, k_999, k_1700, k_2600, k_2601, k_2602, k_2603, k_2604, k_2610, k_2618, k_2682, k_2777, k_2844, k_2868, k_2880, k_3245, k_3250, k_9551, k_9999, k_65536, k_100000, k_999999, k_1000000, k_2147483647, lt_T, lt_F, le_T, le_F, eq_T, eq_F, ↓reduceIte, not_true_eq_false, not_false_eq_true, or_true, or_false, true_or, false_or, and_true, true_and, and_false, false_and, r1, z26, z32, c1, f1, v2, i2, bI_f, c2, g1]
      | true =>
        rw [hm] at i2
        have i3 := m_find hφ hB.1 hB.2 S2.1 hm (b := 64) (N := F 0 0 0) (by omega) n0.1 dw.2.1.1 (nb_r S2.2.2.1)
        rw [← hb, h2] at i3
        simp (disch := omega) only [iI_add, iI_sub, iI_mul, iI_neg, iI_nat, addm1, ixkI, ↓sbind, sbind, ↓bdS, bdS, ↓nm_eq, ↓jn_eq, iI_lt, iI_le, iI_eq, k_0, k_1, k_2, k_3, k_4, k_5, k_6, k_7, k_8, k_9, k_10, k_11, k_12, k_13, k_14, k_15, k_16, k_17, k_18, k_19, k_20, k_21, k_22, k_23, k_24, k_27, k_30, k_32, k_48, k_57, k_59, k_60, k_61, k_62, k_63, k_64, k_72, k_78, k_80, k_82, k_97, k_99, k_100, k_122, k_244, k_255, k_268, k_280, k_300, k_432, k_650, k_900, k_901, k_999, k_1700, k_2600, k_2601, k_2602, k_2603, k_2604, k_2610, k_2618, k_2682, k_2777, k_2844, k_2868, k_2880, k_3245, k_3250, k_9551, k_9999, k_65536, k_100000, k_999999, k_1000000, k_2147483647, lt_T, lt_F, le_T, le_F, eq_T, eq_F, ↓reduceIte, not_true_eq_false, not_false_eq_true, or_true, or_false, true_or, false_or, and_true, true_and, and_false, false_and, r1, z26, z32, c1, f1, v2, i2, bI_t, c2, i3, g1]
  have b0 : 0 ≤ b ∧ b < F 0 0 0 := by omega
  have hm2 : isNm (tok B n p2) = true := by
    cases hm : isNm (tok B n p2) with
    | true => rfl
    | false =>
      have := fN_no (N := F 0 0 0) n0.1 dw.2.1.1 w2 hm
      rw [← hb] at this
      exact absurd this h2
  have iB : ∀ (m : Nat) (M2 : Mem) (S2 : MSt m B n p2 F nm M2), fX11_isName φ m 1002 M2 = some (iI 1) ∧ fX11_findHere φ m (iI 64) (iI (F 0 0 0)) M2 = some (iI b) := fun m M2 (S2 : MSt m B n p2 F nm M2) => by
    have i2 := m_isName hφ hB.1 hB.2 S2.1
    rw [hm2, bI_t] at i2
    have i3 := m_find hφ hB.1 hB.2 S2.1 hm2 (b := 64) (N := F 0 0 0) (by omega) n0.1 dw.2.1.1 (nb_r S2.2.2.1)
    rw [← hb] at i3
    exact ⟨i2, i3⟩
  by_cases h3 : a = b
  · refine Part.no (fp := (tok B n p2).2.1) (fkT_1 (tok B n p2) (k := 5) (by omega)) (fun t ft gs M e S => ?_) (fun m M S => ?_)
    · obtain ⟨M1, M2, r1, S1, A1, e1, r2, S2, A2, e2⟩ := cB t ft gs M e S
      rw [← h3] at e2
      refine CFail.le (A1.rw.trans A2.rw) (CFail.of M2 ?_)
      unfold fX1_passUnlike
      rw [S.2.2.2.1, ldr_ok e.2.2.1, sbind, r1, bdP, S1.2.2.2.2, ldr_ok e.2.2.2, sbind, S1.2.2.2.1, ldr_ok e.2.2.1, sbind, c_name S1.1, sbind, e1, sbind, zm, if_neg (by rw [iI_eq (by omega) (by omega)]; omega), sbind, r2, bdP, S2.2.2.2.2, ldr_ok e.2.2.2, sbind, S2.2.2.2.1, ldr_ok e.2.2.1, sbind, c_name S2.1, sbind, e2, sbind, if_neg (by rw [iI_eq (by omega) (by omega)]; omega), if_pos rfl, sbind, k_5, c_refuse w2 S2.1, bdP, if_pos (Or.inl i0e)]
    · obtain ⟨M1, M2, r1, c1, f1, S2, A2, v2, c2, o2, _⟩ := mB m M S
      obtain ⟨i2, i3⟩ := iB m M2 S2
      rw [← h3] at i3
      have e3 := m_fails hB.2 S2.1 S2.2.2.2 5
      refine MFail.le A2 (MFail.of M2 ?_)
      unfold fX11_unlikes
      rw [r1, bdP, z26, ixkI (by omega), iI_nat (by omega), c1, k_64, z32, f1, bdP, if_neg i1n, ixkI (by omega), iI_nat (by omega), v2, nm_eq, i2, sbind, jn_eq, if_neg i1n, ixkI (by omega), c2, i3, sbind, if_pos rfl, k_5, e3, bdP, if_pos (Or.inl i0e)]
  have cC : ∀ (t : Nat) (ft : Nat) (gs : Nat) (M : Mem) (e : ENV t ft gs) (S : CSt t ft gs B n p F nm M), ∃ M1 M2 M3, fX6_goOn t M = some ((), M1) ∧ CSt t ft gs B n p1 F nm M1 ∧ fX2_rockNamed φ gs (lI (tok B n p1).2.2.2.2) M1 = some (iI a) ∧ fX6_goOn t M1 = some ((), M2) ∧ CSt t ft gs B n p2 F nm M2 ∧ fX2_rockNamed φ gs (lI (tok B n p2).2.2.2.2) M2 = some (iI b) ∧ fX6_goOn t M2 = some ((), M3) ∧ CSt t ft gs B n p3 F nm M3 ∧ RCw t ft gs 13 M M3 := fun t ft gs M (e : ENV t ft gs) (S : CSt t ft gs B n p F nm M) => by
    obtain ⟨M1, M2, r1, S1, A1, e1, r2, S2, A2, e2⟩ := cB t ft gs M e S
    obtain ⟨M3, r3, S3, A3⟩ := c_next e S2
    rw [← hp3] at S3
    exact ⟨M1, M2, M3, r1, S1, e1, r2, S2, e2, r3, S3, (A1.rw.trans A2.rw).trans A3.rw⟩
  have mC : ∀ (m : Nat) (M : Mem) (S : MSt m B n p F nm M), ∃ M3, fX11_unlikes φ m M = (bd (fX11_wantWord φ m 1002 (iI 6) M3) fun v11 M12 => if v11 = iI 0 then some ((iI 0), M12) else bd (fX11_number φ m (iI (2618 + 8 * a + b)) (iI 0) (iI 99) M12) fun v13 M14 => if v13 = iI 0 then some ((iI 0), M14) else some (iI 1, stI M14 (m + 1) (2618 + 8 * b + a).toNat (M14.1 (m + 1) (2618 + 8 * a + b).toNat))) ∧ MSt m B n p3 F nm M3 ∧ RW m M M3 := fun m M (S : MSt m B n p F nm M) => by
    obtain ⟨M1, M2, r1, c1, f1, S2, A2, v2, c2, _, o2⟩ := mB m M S
    obtain ⟨i2, i3⟩ := iB m M2 S2
    obtain ⟨M3, g1, g2, g3⟩ := o2 h2
    rw [← hp3] at g2
    have S3 := S2.hi (by omega) g2 g3
    have v3 : M3.1 (m + 1) (Int.toNat 3245) = iI b := by rw [(g3.2.2 (m + 1) (by omega)).1]; exact rI_at rfl rfl
    have hh : fX11_unlikes φ m M = bd (fX11_wantWord φ m 1002 (iI 6) M3) fun v11 M12 => if v11 = iI 0 then some ((iI 0), M12) else bd (fX11_number φ m (iI (2618 + 8 * a + b)) (iI 0) (iI 99) M12) fun v13 M14 => if v13 = iI 0 then some ((iI 0), M14) else some (iI 1, stI M14 (m + 1) (2618 + 8 * b + a).toNat (M14.1 (m + 1) (2618 + 8 * a + b).toNat)) := by
      unfold fX11_unlikes
      simp (disch := omega) only [iI_add, iI_sub, iI_mul, iI_neg, iI_nat, addm1, ixkI, ↓sbind, sbind, ↓bdS, bdS, ↓nm_eq, ↓jn_eq, iI_lt, iI_le, iI_eq, k_0, k_1, k_2, k_3, k_4, k_5, k_6, k_7, k_8, k_9, k_10, k_11, k_12, k_13, k_14, k_15, k_16, k_17, k_18, k_19, k_20, k_21, k_22, k_23, k_24, k_27, k_30, k_32, k_48, k_57, k_59, k_60, k_61, k_62, k_63, k_64, k_72, k_78, k_80, k_82, k_97, k_99, k_100, k_122, k_244, k_255, k_268, k_280, k_300, k_432, k_650, k_900, k_901, k_999, k_1700, k_2600, k_2601, k_2602, k_2603, k_2604, k_2610, k_2618, k_2682, k_2777, k_2844, k_2868, k_2880, k_3245, k_3250, k_9551, k_9999, k_65536, k_100000, k_999999, k_1000000, k_2147483647, lt_T, lt_F, le_T, le_F, eq_T, eq_F, ↓reduceIte, not_true_eq_false, not_false_eq_true, or_true, or_false, true_or, false_or, and_true, true_and, and_false, false_and, r1, z26, z32, z18, c1, f1, v2, i2, c2, i3, g1, v3]
    exact ⟨M3, hh, S3, (A2.trans (RW.st (e := 3245) (by omega) M2 _)).trans g3.rw⟩
  by_cases h4 : wv (tok B n p3) = 3
  · cases h5 : isNu (tok B n p4) 0 99 with
    | false =>
      refine Part.no (fp := (tok B n p4).2.1) (fkT_1 (tok B n p4) (nu_1 (tok B n p4).1)) (fun t ft gs M e S => ?_) (fun m M S => ?_)
      · obtain ⟨M1, M2, M3, r1, S1, e1, r2, S2, e2, r3, S3, A3⟩ := cC t ft gs M e S
        obtain ⟨M4, q1, q2, q3⟩ := (c_passW w3 S3.1 (k := 3) (by omega)).1 h4
        have S4 := S3.go e q2 q3
        rw [← hp4] at S4
        obtain ⟨v, e3, _⟩ := c_value S4.1
        have e4 := (c_passNum w4 S4.1 (a := 0) (b := 99) (by omega) (by omega)).2 h5
        refine CFail.le (A3.trans q3.rw) (CFail.of M4 ?_)
        unfold fX1_passUnlike
        simp (disch := omega) only [iI_add, iI_sub, iI_mul, iI_neg, iI_nat, addm1, ixkI, ↓sbind, sbind, ↓bdS, bdS, ↓nm_eq, ↓jn_eq, iI_lt, iI_le, iI_eq, k_0, k_1, k_2, k_3, k_4, k_5, k_6, k_7, k_8, k_9, k_10, k_11, k_12, k_13, k_14, k_15, k_16, k_17, k_18, k_19, k_20, k_21, k_22, k_23, k_24, k_27, k_30, k_32, k_48, k_57, k_59, k_60, k_61, k_62, k_63, k_64, k_72, k_78, k_80, k_82, k_97, k_99, k_100, k_122, k_244, k_255, k_268, k_280, k_300, k_432, k_650, k_900, k_901, k_999, k_1700, k_2600, k_2601, k_2602, k_2603, k_2604, k_2610, k_2618, k_2682, k_2777, k_2844, k_2868, k_2880, k_3245, k_3250, k_9551, k_9999, k_65536, k_100000, k_999999, k_1000000, k_2147483647, lt_T, lt_F, le_T, le_F, eq_T, eq_F, ↓reduceIte, not_true_eq_false, not_false_eq_true, or_true, or_false, true_or, false_or, and_true, true_and, and_false, false_and, S.2.2.2.1, S1.2.2.2.1, S1.2.2.2.2, S2.2.2.2.1, S2.2.2.2.2, S3.2.2.2.1, S4.2.2.2.1, ldr_ok e.2.2.1, ldr_ok e.2.2.2, r1, c_name S1.1, e1, zm, r2, c_name S2.1, e2, r3, q1, e3, e4]
      · obtain ⟨M3, hh, S3, A3⟩ := mC m M S
        obtain ⟨M4, q1, q2, q3⟩ := (m_wWord hφ hB.1 hB.2 S3.1 S3.2.2.2 (k := 3) (j := 6) (by omega) (by decide +kernel)).1 h4
        have S4 := S3.ah q2 q3
        rw [← hp4] at S4
        have e4 := (m_num hφ hB.1 hB.2 S4.1 S4.2.2.2 (to := 2618 + 8 * a + b) (a := 0) (b := 99) (by omega) (by omega) (by omega)).2 h5
        refine MFail.le (A3.trans q3.rw) (MFail.of M4 ?_)
        rw [hh]
        simp (disch := omega) only [iI_add, iI_sub, iI_mul, iI_neg, iI_nat, addm1, ixkI, ↓sbind, sbind, ↓bdS, bdS, ↓nm_eq, ↓jn_eq, iI_lt, iI_le, iI_eq, k_0, k_1, k_2, k_3, k_4, k_5, k_6, k_7, k_8, k_9, k_10, k_11, k_12, k_13, k_14, k_15, k_16, k_17, k_18, k_19, k_20, k_21, k_22, k_23, k_24, k_27, k_30, k_32, k_48, k_57, k_59, k_60, k_61, k_62, k_63, k_64, k_72, k_78, k_80, k_82, k_97, k_99, k_100, k_122, k_244, k_255, k_268, k_280, k_300, k_432, k_650, k_900, k_901, k_999, k_1700, k_2600, k_2601, k_2602, k_2603, k_2604, k_2610, k_2618, k_2682, k_2777, k_2844, k_2868, k_2880, k_3245, k_3250, k_9551, k_9999, k_65536, k_100000, k_999999, k_1000000, k_2147483647, lt_T, lt_F, le_T, le_F, eq_T, eq_F, ↓reduceIte, not_true_eq_false, not_false_eq_true, or_true, or_false, true_or, false_or, and_true, true_and, and_false, false_and, q1, e4]
    | true =>
      have hv := of_decide_eq_true (p := (tok B n p4).1 = 2 ∧ 0 ≤ (tok B n p4).2.2.1 ∧ (tok B n p4).2.2.1 ≤ 99) h5
      refine Part.fin hφ hB b5.1 (by omega) (dw.cp (a := a) (b := b) h3 hv.2) (fun t ft gs M e S => ?_) (fun m M S => ?_)
      · obtain ⟨M1, M2, M3, r1, S1, e1, r2, S2, e2, r3, S3, A3⟩ := cC t ft gs M e S
        obtain ⟨M4, q1, q2, q3⟩ := (c_passW w3 S3.1 (k := 3) (by omega)).1 h4
        have S4 := S3.go e q2 q3
        rw [← hp4] at S4
        obtain ⟨v, e3, e3'⟩ := c_value S4.1
        have e3' := e3' (by omega)
        rw [e3'] at e3
        obtain ⟨M5, e4, q4, A4⟩ := (c_passNum w4 S4.1 (a := 0) (b := 99) (by omega) (by omega)).1 h5
        have S5 := S4.go e q4 A4
        rw [← hp5] at S5
        have e5 := c_setCost (g := gs) (M := M5) (a := a) (b := b) (v := (tok B n p4).2.2.1) (by omega) (by omega)
        have fr : Fr (Rg gs (gs + 13)) M5 (stI (stI M5 (gs + 3) (a * 8 + b).toNat (iI (tok B n p4).2.2.1)) (gs + 3) (b * 8 + a).toNat (iI (tok B n p4).2.2.1)) := Fr.stI ⟨by omega, by omega⟩ (Fr.stI ⟨by omega, by omega⟩ (Fr.refl M5))
        have S6 := S5.add (nm' := nm) e (GR.cp2 (v := (tok B n p4).2.2.1) dw.1 S5.2.1 a0 b0) (show NCn gs (u_cp F a b _) nm _ from by unfold NCn; rw [ucp_k F a b _ (k := 0) (by omega)]; exact S5.2.2.1) rfl fr
        refine ⟨_, ?_, S6, ((A3.trans q3.rw).trans A4.rw).trans (RCw.add e (by omega) rfl fr)⟩
        unfold fX1_passUnlike csm
        simp (disch := omega) only [iI_add, iI_sub, iI_mul, iI_neg, iI_nat, addm1, ixkI, ↓sbind, sbind, ↓bdS, bdS, ↓nm_eq, ↓jn_eq, iI_lt, iI_le, iI_eq, k_0, k_1, k_2, k_3, k_4, k_5, k_6, k_7, k_8, k_9, k_10, k_11, k_12, k_13, k_14, k_15, k_16, k_17, k_18, k_19, k_20, k_21, k_22, k_23, k_24, k_27, k_30, k_32, k_48, k_57, k_59, k_60, k_61, k_62, k_63, k_64, k_72, k_78, k_80, k_82, k_97, k_99, k_100, k_122, k_244, k_255, k_268, k_280, k_300, k_432, k_650, k_900, k_901, k_999, k_1700, k_2600, k_2601, k_2602, k_2603, k_2604, k_2610, k_2618, k_2682, k_2777, k_2844, k_2868, k_2880, k_3245, k_3250, k_9551, k_9999, k_65536, k_100000, k_999999, k_1000000, k_2147483647, lt_T, lt_F, le_T, le_F, eq_T, eq_F, ↓reduceIte, not_true_eq_false, not_false_eq_true, or_true, or_false, true_or, false_or, and_true, true_and, and_false, false_and, S.2.2.2.1, S1.2.2.2.1, S1.2.2.2.2, S2.2.2.2.1, S2.2.2.2.2, S3.2.2.2.1, S4.2.2.2.1, S5.2.2.2.1, S5.2.2.2.2, S6.2.2.2.1, ldr_ok e.2.2.1, ldr_ok e.2.2.2, r1, c_name S1.1, e1, zm, r2, c_name S2.1, e2, r3, q1, e3, e4, e5]
      · obtain ⟨M3, hh, S3, A3⟩ := mC m M S
        obtain ⟨M4, q1, q2, q3⟩ := (m_wWord hφ hB.1 hB.2 S3.1 S3.2.2.2 (k := 3) (j := 6) (by omega) (by decide +kernel)).1 h4
        have S4 := S3.ah q2 q3
        rw [← hp4] at S4
        obtain ⟨M5, e4, e5, e6⟩ := (m_num hφ hB.1 hB.2 S4.1 S4.2.2.2 (to := 2618 + 8 * a + b) (a := 0) (b := 99) (by omega) (by omega) (by omega)).1 h5
        rw [← hp5] at e5
        have t5 : M5.1 (m + 1) = (stI M4 (m + 1) (2618 + 8 * a + b).toNat (iI (tok B n p4).2.2.1)).1 (m + 1) := (e6.2.2 (m + 1) (by omega)).1
        have v5 : M5.1 (m + 1) (2618 + 8 * a + b).toNat = iI (tok B n p4).2.2.1 := by rw [t5]; exact rI_at rfl rfl
        have frx : Fr (Rg (m + 1) (m + 1)) M5 (stI M5 (m + 1) (2618 + 8 * b + a).toNat (iI (tok B n p4).2.2.1)) := Fr.stI ⟨by omega, by omega⟩ (Fr.refl M5)
        refine ⟨stI M5 (m + 1) (2618 + 8 * b + a).toNat (iI (tok B n p4).2.2.1), ?_, ⟨e5.fr frx (fun q => by have := q.1; omega) (fun q => by have := q.2; omega), S4.2.1.cp2 (fun x y x0 x1 y0 y1 => ?_) (fun k k0 k1 k2 => ?_), ?_, ?_⟩, (((A3.trans q3.rw).trans (RW.st (e := 2618 + 8 * a + b) (by omega) M4 _)).trans e6.rw).trans (RW.st (e := 2618 + 8 * b + a) (by omega) M5 _)⟩
        · rw [hh]
          simp (disch := omega) only [iI_add, iI_sub, iI_mul, iI_neg, iI_nat, addm1, ixkI, ↓sbind, sbind, ↓bdS, bdS, ↓nm_eq, ↓jn_eq, iI_lt, iI_le, iI_eq, k_0, k_1, k_2, k_3, k_4, k_5, k_6, k_7, k_8, k_9, k_10, k_11, k_12, k_13, k_14, k_15, k_16, k_17, k_18, k_19, k_20, k_21, k_22, k_23, k_24, k_27, k_30, k_32, k_48, k_57, k_59, k_60, k_61, k_62, k_63, k_64, k_72, k_78, k_80, k_82, k_97, k_99, k_100, k_122, k_244, k_255, k_268, k_280, k_300, k_432, k_650, k_900, k_901, k_999, k_1700, k_2600, k_2601, k_2602, k_2603, k_2604, k_2610, k_2618, k_2682, k_2777, k_2844, k_2868, k_2880, k_3245, k_3250, k_9551, k_9999, k_65536, k_100000, k_999999, k_1000000, k_2147483647, lt_T, lt_F, le_T, le_F, eq_T, eq_F, ↓reduceIte, not_true_eq_false, not_false_eq_true, or_true, or_false, true_or, false_or, and_true, true_and, and_false, false_and, q1, e4, v5]
        · by_cases z1 : x = b ∧ y = a
          · rw [if_pos (by omega), rI_at rfl (by omega)]
          · rw [rI_nk (by omega), t5]
            by_cases z2 : x = a ∧ y = b
            · rw [if_pos (by omega), rI_at rfl (by omega)]
            · rw [rI_nk (by omega), if_neg (by omega)]
        · rw [rI_nk (by omega), t5, rI_nk (by omega)]
        · unfold NB
          rw [ucp_k F a b _ (k := 0) (by omega)]
          have := S4.2.2.1
          have t22 : (stI M5 (m + 1) (2618 + 8 * b + a).toNat (iI (tok B n p4).2.2.1)).2.1 (m + 2) = M4.2.1 (m + 2) := by
            show M5.2.1 (m + 2) = _
            rw [e6.2.1]
            rfl
          rw [t22]
          exact this
        · rw [rI_ng (by omega), e6.1 18 (by omega) (by omega) (by omega) (by omega), rI_ng (by omega)]; exact S4.2.2.2
  · refine Part.no (fp := (tok B n p3).2.1) (fkT_1 (tok B n p3) (k := 2) (by omega)) (fun t ft gs M e S => ?_) (fun m M S => ?_)
    · obtain ⟨M1, M2, M3, r1, S1, e1, r2, S2, e2, r3, S3, A3⟩ := cC t ft gs M e S
      have e3 := (c_passW w3 S3.1 (k := 3) (by omega)).2 h4
      refine CFail.le A3 (CFail.of M3 ?_)
      unfold fX1_passUnlike
      simp (disch := omega) only [iI_add, iI_sub, iI_mul, iI_neg, iI_nat, addm1, ixkI, ↓sbind, sbind, ↓bdS, bdS, ↓nm_eq, ↓jn_eq, iI_lt, iI_le, iI_eq, k_0, k_1, k_2, k_3, k_4, k_5, k_6, k_7, k_8, k_9, k_10, k_11, k_12, k_13, k_14, k_15, k_16, k_17, k_18, k_19, k_20, k_21, k_22, k_23, k_24, k_27, k_30, k_32, k_48, k_57, k_59, k_60, k_61, k_62, k_63, k_64, k_72, k_78, k_80, k_82, k_97, k_99, k_100, k_122, k_244, k_255, k_268, k_280, k_300, k_432, k_650, k_900, k_901, k_999, k_1700, k_2600, k_2601, k_2602, k_2603, k_2604, k_2610, k_2618, k_2682, k_2777, k_2844, k_2868, k_2880, k_3245, k_3250, k_9551, k_9999, k_65536, k_100000, k_999999, k_1000000, k_2147483647, lt_T, lt_F, le_T, le_F, eq_T, eq_F, ↓reduceIte, not_true_eq_false, not_false_eq_true, or_true, or_false, true_or, false_or, and_true, true_and, and_false, false_and, S.2.2.2.1, S1.2.2.2.1, S1.2.2.2.2, S2.2.2.2.1, S2.2.2.2.2, S3.2.2.2.1, ldr_ok e.2.2.1, ldr_ok e.2.2.2, r1, c_name S1.1, e1, zm, r2, c_name S2.1, e2, r3, e3]
    · obtain ⟨M3, hh, S3, A3⟩ := mC m M S
      have e3 := (m_wWord hφ hB.1 hB.2 S3.1 S3.2.2.2 (k := 3) (j := 6) (by omega) (by decide +kernel)).2 h4
      refine MFail.le A3 (MFail.of M3 ?_)
      rw [hh]
      simp (disch := omega) only [iI_add, iI_sub, iI_mul, iI_neg, iI_nat, addm1, ixkI, ↓sbind, sbind, ↓bdS, bdS, ↓nm_eq, ↓jn_eq, iI_lt, iI_le, iI_eq, k_0, k_1, k_2, k_3, k_4, k_5, k_6, k_7, k_8, k_9, k_10, k_11, k_12, k_13, k_14, k_15, k_16, k_17, k_18, k_19, k_20, k_21, k_22, k_23, k_24, k_27, k_30, k_32, k_48, k_57, k_59, k_60, k_61, k_62, k_63, k_64, k_72, k_78, k_80, k_82, k_97, k_99, k_100, k_122, k_244, k_255, k_268, k_280, k_300, k_432, k_650, k_900, k_901, k_999, k_1700, k_2600, k_2601, k_2602, k_2603, k_2604, k_2610, k_2618, k_2682, k_2777, k_2844, k_2868, k_2880, k_3245, k_3250, k_9551, k_9999, k_65536, k_100000, k_999999, k_1000000, k_2147483647, lt_T, lt_F, le_T, le_F, eq_T, eq_F, ↓reduceIte, not_true_eq_false, not_false_eq_true, or_true, or_false, true_or, false_or, and_true, true_and, and_false, false_and, e3]
end UL
