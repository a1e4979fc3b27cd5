/-! a hole's row of a field -/
def kH1 (φ : Nat) (t : Nat) (vz7 : Int64) (M10 : Mem) : Option (Int32 × Mem) :=
 (ldr 6 (M10.2.2 t 1)).bind fun vr11 =>
 bd (fX6_passWord vr11 (5 : Int32) M10) fun v12 M13 =>
 if v12 = 0 then
 some ((0 : Int32), M13)
 else
 (ldr 6 (M13.2.2 t 1)).bind fun vr14 =>
 (fX6_value vr14 M13).bind fun v15 =>
 (ldr 6 (M13.2.2 t 1)).bind fun vr16 =>
 bd (fX6_passNumber vr16 (0 : Int32) (999 : Int32) M13) fun v17 M18 =>
 if v17 = 0 then
 some ((0 : Int32), M18)
 else
 (ldr 6 (M18.2.2 t 1)).bind fun vr19 =>
 (fX6_isNumber vr19 (0 : Int32) (999 : Int32) M18).bind fun v20 =>
 if v20 = 0 then
 (ldr 6 (M18.2.2 t 1)).bind fun vr42 =>
 (ldr 6 (M18.2.2 t 1)).bind fun vr43 =>
 (fX6_numberFault vr43 M18).bind fun v44 =>
 bd (fX6_refuseToken vr42 v44 M18) fun v45 M46 =>
 if v45 = 0 ∨ v45 = 1 then some (v45, M46) else none
 else
 (ldr 2 (M18.2.2 t 2)).bind fun vr21 =>
 (ldr 6 (M18.2.2 t 1)).bind fun vr22 =>
 (fX6_value vr22 M18).bind fun v23 =>
 (fX2_isHoleAt φ vr21 v15 v23 M18).bind fun v24 =>
 if v24 = 0 then
 (ldr 2 (M18.2.2 t 2)).bind fun vr25 =>
 (ldr 6 (M18.2.2 t 1)).bind fun vr26 =>
 (fX6_value vr26 M18).bind fun v27 =>
 bd (fX2_addHole vr25 vz7 v15 v27 M18) fun vu28 M29 =>
 (ldr 6 (M29.2.2 t 1)).bind fun vr30 =>
 bd (fX6_goOn vr30 M29) fun vu31 M32 =>
 bd (fX1_passBeds φ t M32) fun v33 M34 =>
 if v33 = 0 then
 some ((0 : Int32), M34)
 else
 (ldr 6 (M34.2.2 t 1)).bind fun vr35 =>
 bd (fX6_passSemicolon vr35 M34) fun v36 M37 =>
 if v36 = 0 then
 some ((0 : Int32), M37)
 else
 some ((1 : Int32), M37)
 else
 (ldr 6 (M18.2.2 t 1)).bind fun vr38 =>
 bd (fX6_refuseToken vr38 (5 : Int32) M18) fun v39 M40 =>
 if v39 = 0 ∨ v39 = 1 then some (v39, M40) else none
def kH2 (φ : Nat) (t : Nat) (vz7 : Int64) (v15 : Int32) (M18 : Mem) : Option (Int32 × Mem) :=
 (ldr 2 (M18.2.2 t 2)).bind fun vr21 =>
 (ldr 6 (M18.2.2 t 1)).bind fun vr22 =>
 (fX6_value vr22 M18).bind fun v23 =>
 (fX2_isHoleAt φ vr21 v15 v23 M18).bind fun v24 =>
 if v24 = 0 then
 (ldr 2 (M18.2.2 t 2)).bind fun vr25 =>
 (ldr 6 (M18.2.2 t 1)).bind fun vr26 =>
 (fX6_value vr26 M18).bind fun v27 =>
 bd (fX2_addHole vr25 vz7 v15 v27 M18) fun vu28 M29 =>
 (ldr 6 (M29.2.2 t 1)).bind fun vr30 =>
 bd (fX6_goOn vr30 M29) fun vu31 M32 =>
 bd (fX1_passBeds φ t M32) fun v33 M34 =>
 if v33 = 0 then
 some ((0 : Int32), M34)
 else
 (ldr 6 (M34.2.2 t 1)).bind fun vr35 =>
 bd (fX6_passSemicolon vr35 M34) fun v36 M37 =>
 if v36 = 0 then
 some ((0 : Int32), M37)
 else
 some ((1 : Int32), M37)
 else
 (ldr 6 (M18.2.2 t 1)).bind fun vr38 =>
 bd (fX6_refuseToken vr38 (5 : Int32) M18) fun v39 M40 =>
 if v39 = 0 ∨ v39 = 1 then some (v39, M40) else none
def kA1 (φ : Nat) (t : Nat) (v1 : Int32) (M3 : Mem) : Option (Int32 × Mem) :=
 bd (fX11_wantWord φ t 1002 (7 : Int32) M3) fun v4 M5 =>
 if v4 = 0 then
 some ((0 : Int32), M5)
 else
 bd (fX11_number φ t v1 (0 : Int32) (999 : Int32) M5) fun v6 M7 =>
 if v6 = 0 then
 some ((0 : Int32), M7)
 else
 jn (bd (fX11_number φ t (v1 + (1 : Int32)) (0 : Int32) (999 : Int32) M7) fun v9 M10 =>
 if v9 = 0 then
 some ((0 : Int32), M10)
 else
 ixk (v1 + (2 : Int32)) 3900 (nm (stI M10 (t + 1) (v1 + (2 : Int32)).toNatClampNeg (0 : Int32)) (fun M11 =>
 lX11_aHole_149 (fun (M26 : Mem) => ixk (2601 : Int32) 3900 (
 ixk (2601 : Int32) 3900 (nm (stI M26 (t + 1) (2601 : Int32).toNatClampNeg ((M26.1 (t + 1) (2601 : Int32).toNatClampNeg) + (1 : Int32))) (fun M27 =>
 some ((1 : Int32), M27))))) φ t v1 φ M11))) (fun J8 => if (M7.1 t 12) = (3 : Int32) then
 if (999 : Int32) < (M7.1 t 15) then
 J8
 else
 lX11_aHole_77 (J8) t v1 M7 φ (2682 : Int32)
 else
 J8)
def kA2 (φ : Nat) (t : Nat) (v1 : Int32) (M7 : Mem) : Option (Int32 × Mem) :=
 jn (bd (fX11_number φ t (v1 + (1 : Int32)) (0 : Int32) (999 : Int32) M7) fun v9 M10 =>
 if v9 = 0 then
 some ((0 : Int32), M10)
 else
 ixk (v1 + (2 : Int32)) 3900 (nm (stI M10 (t + 1) (v1 + (2 : Int32)).toNatClampNeg (0 : Int32)) (fun M11 =>
 lX11_aHole_149 (fun (M26 : Mem) => ixk (2601 : Int32) 3900 (
 ixk (2601 : Int32) 3900 (nm (stI M26 (t + 1) (2601 : Int32).toNatClampNeg ((M26.1 (t + 1) (2601 : Int32).toNatClampNeg) + (1 : Int32))) (fun M27 =>
 some ((1 : Int32), M27))))) φ t v1 φ M11))) (fun J8 => if (M7.1 t 12) = (3 : Int32) then
 if (999 : Int32) < (M7.1 t 15) then
 J8
 else
 lX11_aHole_77 (J8) t v1 M7 φ (2682 : Int32)
 else
 J8)
def kA3 (φ m : Nat) (h : Int) (M7 : Mem) : Option (Int32 × Mem) := bd (fX11_number φ m (iI (h + 1)) (iI 0) (iI 999) M7) fun v9 M10 => if v9 = 0 then some ((0 : Int32), M10) else lX11_aHole_149 (fun (M26 : Mem) => some ((1 : Int32), stI M26 (m + 1) (Int.toNat 2601) ((M26.1 (m + 1) (Int.toNat 2601)) + iI 1))) φ m (iI h) φ (stI M10 (m + 1) (h + 2).toNat (iI 0))
section HP
variable {t m ft gs g : Nat} {F F' : Fld} {nm nm' : NMs} {M : Mem} {B : Int → Int} {n p s x y h r v q : Int}
theorem MR.hole {M1 : Mem} (w : WF F) (hH : F 0 1 0 < 6) (G : MR m 2600 F M) (h0 : M1.1 (m + 1) (Int.toNat 2601) = iI (F 0 1 0 + 1)) (h1 : M1.1 (m + 1) (2682 + 27 * F 0 1 0).toNat = iI x) (h2 : M1.1 (m + 1) (2682 + 27 * F 0 1 0 + 1).toNat = iI y) (h3 : M1.1 (m + 1) (2682 + 27 * F 0 1 0 + 2).toNat = iI 0) (h4 : ∀ e : Int, 0 ≤ e → e ≠ 2601 → e ≠ 2682 + 27 * F 0 1 0 → e ≠ 2682 + 27 * F 0 1 0 + 1 → e ≠ 2682 + 27 * F 0 1 0 + 2 → M1.1 (m + 1) e.toNat = M.1 (m + 1) e.toNat) : MR m 2600 (u_hole F x y) M1 := by
  have n1 := w.n1
  obtain ⟨g0, g1, g2, g3, g4, g5, g6⟩ := G
  have kk := fun (k : Nat) (a : k ≠ 0) (b : k ≠ 3) => uh_k F x y a b
  refine ⟨fun w a b => ?_, fun k a b => ?_, fun x y a b c d => ?_, fun a w a0 a1 w0 w1 => ?_, fun a l a0 a1 l0 l1 => ⟨?_, ?_⟩, fun t k a b c d => ?_, fun f k a b c d => ?_⟩
  · by_cases q : w = 1
    · rw [q, uh_01]; exact h0
    · rw [uh_0 F x y q, h4 _ (by omega) (by omega) (by omega) (by omega) (by omega)]; exact g0 w a b
  · rw [kk 1 (by omega) (by omega), h4 _ (by omega) (by omega) (by omega) (by omega) (by omega)]; exact g1 k a b
  · rw [kk 2 (by omega) (by omega), h4 _ (by omega) (by omega) (by omega) (by omega) (by omega)]; exact g2 x y a b c d
  · by_cases q : a = F 0 1 0
    · have : w = 0 ∨ w = 1 ∨ w = 2 := by omega
      rcases this with z | z | z
      · rw [q, z, uh_x, show (2600 : Int) + (82 + 27 * F 0 1 0 + 0) = 2682 + 27 * F 0 1 0 from by omega]; exact h1
      · rw [q, z, uh_y, show (2600 : Int) + (82 + 27 * F 0 1 0 + 1) = 2682 + 27 * F 0 1 0 + 1 from by omega]; exact h2
      · rw [q, z, uh_n, show (2600 : Int) + (82 + 27 * F 0 1 0 + 2) = 2682 + 27 * F 0 1 0 + 2 from by omega]; exact h3
    · rw [uh_3 F x y w q, h4 _ (by omega) (by omega) (by omega) (by omega) (by omega)]; exact g3 a w a0 a1 w0 w1
  · rw [kk 4 (by omega) (by omega), h4 _ (by omega) (by omega) (by omega) (by omega) (by omega)]; exact (g4 a l a0 a1 l0 l1).1
  · rw [kk 5 (by omega) (by omega), h4 _ (by omega) (by omega) (by omega) (by omega) (by omega)]; exact (g4 a l a0 a1 l0 l1).2
  · rw [kk 6 (by omega) (by omega), h4 _ (by omega) (by omega) (by omega) (by omega) (by omega)]; exact g5 t k a b c d
  · rw [kk 7 (by omega) (by omega), h4 _ (by omega) (by omega) (by omega) (by omega) (by omega)]; exact g6 f k a b c d
theorem m_at77 (w : WF F) (K : Option (Int32 × Mem)) (hx : 0 ≤ x ∧ x ≤ 999) (hy : 0 ≤ y ∧ y ≤ 999) (h0 : M.1 (m + 1) (2682 + 27 * F 0 1 0).toNat = iI x) (h15 : M.1 m 15 = iI y) (hM : ∀ i, 0 ≤ i → i < F 0 1 0 → M.1 (m + 1) (2682 + 27 * i).toNat = iI (F 3 i 0) ∧ M.1 (m + 1) (2682 + 27 * i + 1).toNat = iI (F 3 i 1)) : ∀ (d : Nat) (i : Int), F 0 1 0 - i = d → 0 ≤ i → ∀ k, d < k → lX11_aHole_77 K m (iI (2682 + 27 * F 0 1 0)) M k (iI (2682 + 27 * i)) = if ff (fun h => F 3 h 0 == x && F 3 h 1 == y) (F 0 1 0) i = -1 then K else (bd (fX11_fails m (iI 5) M) fun v29 M30 => if v29 = iI 0 ∨ v29 = iI 1 then some (v29, M30) else none) := by
  have n1 := w.n1
  intro d
  induction d with
  | zero =>
    intro i hd hi k hk
    obtain ⟨k, rfl⟩ : ∃ q, k = q + 1 := ⟨k - 1, by omega⟩
    rw [ff_e' _ (by omega), if_pos rfl, lX11_aHole_77, if_pos (by rw [iI_le (by omega) (by omega)]; omega)]
  | succ d ih =>
    intro i hd hi k hk
    obtain ⟨k, rfl⟩ : ∃ q, k = q + 1 := ⟨k - 1, by omega⟩
    have hb : 0 ≤ i ∧ i < F 0 1 0 := by omega
    obtain ⟨e1, e2⟩ := hM i hb.1 hb.2
    have b1 := w.x hb
    have b2 := w.y hb
    have r1 := ih (i + 1) (by omega) (by omega) k (by omega)
    have z27 : (27 : Int32) = iI 27 := rfl
    have ez : iI (2682 + 27 * i) + (27 : Int32) = iI (2682 + 27 * (i + 1)) := by
      rw [z27, iI_add, show 2682 + 27 * i + 27 = 2682 + 27 * (i + 1) from by omega]
    rw [lX11_aHole_77, if_neg (by rw [iI_le (by omega) (by omega)]; omega), ez, r1, ixkI (by omega), ixkI (by omega), iI_nat (by omega), iI_nat (by omega), e1, h0, k_1, iI_add, iI_nat (by omega), e2, h15, jn_eq]
    by_cases h1 : F 3 i 0 = x
    · rw [if_pos (by rw [h1]), ixkI (by omega)]
      by_cases h2 : F 3 i 1 = y
      · rw [ff_t (i := i) (by omega) (by show (F 3 i 0 == x && F 3 i 1 == y) = true; rw [h1, h2, beq_self_eq_true, beq_self_eq_true]; rfl), if_pos (by rw [h2]), if_neg (by omega)]
        rfl
      · rw [ff_f (i := i) (by omega) (by show (F 3 i 0 == x && F 3 i 1 == y) = false; rw [beq_eq_false_iff_ne.mpr h2, Bool.and_false]), if_neg (by rw [iI_eq (by omega) (by omega)]; exact h2)]
    · rw [ff_f (i := i) (by omega) (by show (F 3 i 0 == x && F 3 i 1 == y) = false; rw [beq_eq_false_iff_ne.mpr h1, Bool.false_and]), if_neg (by rw [iI_eq (by omega) (by omega)]; exact h1)]
theorem mh_fail {fk fp : Int} {φ : Nat} (w : WF F) (S : MSt m B n p F nm M) (h : MFail m fk fp M (fX11_newOne φ m (iI 1) (iI 6) (iI 8) M)) : MFail m fk fp M (fX11_aHole φ m M) := by
  have n1 := w.n1
  obtain ⟨M1, h1, h2⟩ := h
  refine ⟨M1, ?_, h2⟩
  have s0 : M.1 (m + 1) (Int.toNat 2601) = iI (F 0 1 0) := S.cnt (w := 1) (by omega)
  have h1' : fX11_newOne φ m (1 : Int32) (6 : Int32) (8 : Int32) M = some (iI 0, M1) := h1
  have z1 : (2601 : Int32) = iI 2601 := rfl
  unfold fX11_aHole
  rw [z1, ixkI (by omega), iI_nat (by omega), s0, nm_eq, h1', bdP, if_pos i0e]
  rfl
theorem p_hole {φ : Nat} (hφ : 2000 < φ) (hB : HB B n) (hp : 0 ≤ p ∧ p ≤ n) (dw : DW F nm) (hk : wv (tok B n p) = 4) : Part (fX1_passHole φ) (fun m M => sem φ m (fX11_aHole φ m M)) B n p F nm := by
  have n0 := dw.1.n0
  have n1 := dw.1.n1
  have b1 := nx_b hB hp
  have w0 := hB.w hp
  have lt1 := b1.2.2 (wv_k hk (by omega))
  have b2 := nx_b hB b1.1
  have w1 := hB.w b1.1
  have b3 := nx_b hB b2.1
  have w2 := hB.w b2.1
  have b4 := nx_b hB b3.1
  have w3 := hB.w b3.1
  have b5 := nx_b hB b4.1
  have w4 := hB.w b4.1
  obtain ⟨p1, hp1⟩ : ∃ p1, p1 = nx B n p := ⟨_, rfl⟩
  rw [← hp1] at b1 b2 b3 b4 b5 w1 w2 w3 w4 lt1
  obtain ⟨p2, hp2⟩ : ∃ p2, p2 = nx B n p1 := ⟨_, rfl⟩
  rw [← hp2] at b2 b3 b4 b5 w2 w3 w4
  obtain ⟨p3, hp3⟩ : ∃ p3, p3 = nx B n p2 := ⟨_, rfl⟩
  rw [← hp3] at b3 b4 b5 w3 w4
  obtain ⟨p4, hp4⟩ : ∃ p4, p4 = nx B n p3 := ⟨_, rfl⟩
  rw [← hp4] at b4 b5 w4
  obtain ⟨p5, hp5⟩ : ∃ p5, p5 = nx B n p4 := ⟨_, rfl⟩
  rw [← hp5] at b5
  by_cases h8 : F 0 1 0 = 6
  · refine Part.no (fp := (tok B n p).2.1) (fkT_1 (tok B n p) (k := 6) (by omega)) (fun t ft gs M e S => ?_) (fun m M S => mh_fail dw.1 S ((m_new hφ hB hp dw S (w := 1) (most := 6) (b := 8) (by omega) n1).1 h8))
    have g0 := S.2.1.n1
    rw [h8] at g0
    refine CFail.of M ?_
    unfold fX1_passHole
    rw [S.2.2.2.2, ldr_ok e.2.2.2, sbind, g0, k_6, if_neg (by decide), S.2.2.2.1, ldr_ok e.2.2.1, sbind, c_refuse w0 S.1, bdP, if_pos (Or.inl i0e)]
  have c6 : iI (F 0 1 0) < (6 : Int32) := by rw [k_6, iI_lt (by omega) (by omega)]; omega
  cases hw : nwN F nm (tok B n p1) with
  | false =>
    refine Part.no (fp := (tok B n p1).2.1) (fkT_1 (tok B n p1) (nf_1 (isNm (tok B n p1)))) (fun t ft gs M e S => ?_) (fun m M S => mh_fail dw.1 S (by
      have := (m_new hφ hB hp dw S (w := 1) (most := 6) (b := 8) (by omega) n1).2.1 h8
      rw [← hp1] at this
      exact this hw))
    obtain ⟨M1, r1, S1, A1⟩ := c_next e S
    rw [← hp1] at S1
    have e1 := c_newName hφ hB b1.1 e dw S1
    rw [hw, bI_f] at e1
    refine CFail.le A1.rw (CFail.of M1 ?_)
    unfold fX1_passHole
    rw [S.2.2.2.2, ldr_ok e.2.2.2, sbind, S.2.1.n1, if_pos c6, S.2.2.2.1, ldr_ok e.2.2.1, sbind, r1, bdP, e1, sbind, if_pos i0e, S1.2.2.2.1, ldr_ok e.2.2.1, sbind, sbind, c_nameFault w1 S1.1, sbind, c_refuse w1 S1.1, bdP, if_pos (Or.inl i0e)]
  | true =>
  have okc : okN (tok B n p1).2.2.2.2 := by
    have hm : isNm (tok B n p1) = true := by
      unfold nwN at hw
      cases hm : isNm (tok B n p1) with
      | true => rfl
      | false => rw [hm] at hw; cases hw
    exact (isNm_t w1 hm).2.2
  obtain ⟨c, hc⟩ : ∃ c, c = (tok B n p1).2.2.2.2 := ⟨_, rfl⟩
  rw [← hc] at okc
  have cA : ∀ t ft gs M, ENV t ft gs → CSt t ft gs B n p F nm M → ∃ M2, CSt t ft gs B n p2 F nm M2 ∧ RCw t ft gs 13 M M2 ∧ fX1_passHole φ ft M = kH1 φ ft (lI c) M2 := fun t ft gs M e S => by
    obtain ⟨M1, r1, S1, A1⟩ := c_next e S
    rw [← hp1] at S1
    have e1 := c_newName hφ hB b1.1 e dw S1
    rw [hw, bI_t] at e1
    obtain ⟨M2, r2, S2, A2⟩ := c_next e S1
    rw [← hp2] at S2
    refine ⟨M2, S2, A1.rw.trans A2.rw, ?_⟩
    unfold fX1_passHole
    rw [S.2.2.2.2, ldr_ok e.2.2.2, sbind, S.2.1.n1, if_pos c6, S.2.2.2.1, ldr_ok e.2.2.1, sbind, r1, bdP, e1, sbind, if_neg i1n, S1.2.2.2.1, ldr_ok e.2.2.1, sbind, c_name S1.1, sbind, sbind, r2, bdP, ← hc]
    rfl
  have mA : ∀ m M, MSt m B n p F nm M → ∃ M3, RKp m B n p2 M3 ∧ mAh m (stL M (m + 2) (72 + F 0 1 0).toNat (lI (w8 c))) M3 ∧ fX11_aHole φ m M = kA1 φ m (iI (2682 + 27 * F 0 1 0)) M3 := fun m M S => by
    have n3 := m_new hφ hB hp dw S (w := 1) (most := 6) (b := 8) (by omega) n1
    rw [← hp1] at n3
    obtain ⟨M3, a1, a2, a3⟩ := n3.2.2 h8 hw
    rw [← hp2] at a2
    rw [← hc, show (64 : Int) + 8 + F 0 1 0 = 72 + F 0 1 0 from by omega] at a3
    refine ⟨M3, a2, a3, ?_⟩
    have s0 : M.1 (m + 1) (Int.toNat 2601) = iI (F 0 1 0) := S.cnt (w := 1) (by omega)
    have a1' : fX11_newOne φ m (1 : Int32) (6 : Int32) (8 : Int32) M = some (iI 1, M3) := a1
    have z1 : (2601 : Int32) = iI 2601 := rfl
    have z2 : (2682 : Int32) = iI 2682 := rfl
    have z3 : (27 : Int32) = iI 27 := rfl
    unfold fX11_aHole
    rw [z1, ixkI (by omega), iI_nat (by omega), s0, z2, z3, iI_mul, iI_add, nm_eq, a1', bdP, if_neg i1n]
    rfl
  have r18 : ∀ m (M M3 : Mem), MSt m B n p F nm M → mAh m (stL M (m + 2) (72 + F 0 1 0).toNat (lI (w8 c))) M3 → M3.1 m 18 = iI 0 := fun m M M3 S a => by
    rw [a.1 18 (by omega) (by omega) (by omega) (by omega)]; exact S.2.2.2
  by_cases h5 : wv (tok B n p2) = 5
  rotate_left
  · refine Part.no (fp := (tok B n p2).2.1) (fkT_1 (tok B n p2) (k := 2) (by omega)) (fun t ft gs M e S => ?_) (fun m M S => ?_)
    · obtain ⟨M2, S2, A2, e2⟩ := cA t ft gs M e S
      have e3 := (c_passW w2 S2.1 (k := 5) (by omega)).2 h5
      refine CFail.le A2 (CFail.of M2 ?_)
      rw [e2]
      unfold kH1
      rw [S2.2.2.2.1, ldr_ok e.2.2.1, sbind, k_5, e3, bdP, if_pos i0e]
      rfl
    · obtain ⟨M3, a2, a3, e2⟩ := mA m M S
      have e3 := (m_wWord hφ hB.1 hB.2 a2 (r18 m M M3 S a3) (k := 5) (j := 7) (by omega) (by decide +kernel)).2 h5
      refine MFail.le ((RW.stN (by omega) M _).trans a3.rw) (MFail.of M3 ?_)
      rw [e2]
      unfold kA1
      rw [k_7, e3, bdP, if_pos i0e]
      rfl
  have cB : ∀ t ft gs M, ENV t ft gs → CSt t ft gs B n p F nm M → ∃ M3 v, CSt t ft gs B n p3 F nm M3 ∧ RCw t ft gs 13 M M3 ∧ ((tok B n p3).1 ≠ 4 → v = iI (tok B n p3).2.2.1) ∧ fX1_passHole φ ft M = bd (fX6_passNumber t (iI 0) (iI 999) M3) fun v17 M18 => if v17 = iI 0 then some (iI 0, M18) else (ldr 6 (M18.2.2 ft 1)).bind fun vr19 => (fX6_isNumber vr19 (iI 0) (iI 999) M18).bind fun v20 => if v20 = iI 0 then (ldr 6 (M18.2.2 ft 1)).bind fun vr42 => (ldr 6 (M18.2.2 ft 1)).bind fun vr43 => (fX6_numberFault vr43 M18).bind fun v44 => bd (fX6_refuseToken vr42 v44 M18) fun v45 M46 => if v45 = iI 0 ∨ v45 = iI 1 then some (v45, M46) else none else kH2 φ ft (lI c) v M18 := fun t ft gs M e S => by
    obtain ⟨M2, S2, A2, e2⟩ := cA t ft gs M e S
    obtain ⟨M3, q1, q2, q3⟩ := (c_passW w2 S2.1 (k := 5) (by omega)).1 h5
    have S3 := S2.go e q2 q3
    rw [← hp3] at S3
    obtain ⟨v, e3, e4⟩ := c_value S3.1
    refine ⟨M3, v, S3, A2.trans q3.rw, e4, ?_⟩
    rw [e2]
    unfold kH1
    rw [S2.2.2.2.1, ldr_ok e.2.2.1, sbind, k_5, q1, bdP, if_neg i1n, S3.2.2.2.1, ldr_ok e.2.2.1, sbind, e3, sbind, sbind]
    rfl
  have mB : ∀ m M, MSt m B n p F nm M → ∃ M5, RKp m B n p3 M5 ∧ mAh m (stL M (m + 2) (72 + F 0 1 0).toNat (lI (w8 c))) M5 ∧ fX11_aHole φ m M = bd (fX11_number φ m (iI (2682 + 27 * F 0 1 0)) (iI 0) (iI 999) M5) fun v6 M7 => if v6 = iI 0 then some (iI 0, M7) else kA2 φ m (iI (2682 + 27 * F 0 1 0)) M7 := fun m M S => by
    obtain ⟨M3, a2, a3, e2⟩ := mA m M S
    obtain ⟨M5, q1, q2, q3⟩ := (m_wWord hφ hB.1 hB.2 a2 (r18 m M M3 S a3) (k := 5) (j := 7) (by omega) (by decide +kernel)).1 h5
    rw [← hp3] at q2
    refine ⟨M5, q2, a3.trans q3, ?_⟩
    rw [e2]
    unfold kA1
    rw [k_7, q1, bdP, if_neg i1n]
    rfl
  cases h6 : isNu (tok B n p3) 0 999 with
  | false =>
    refine Part.no (fp := (tok B n p3).2.1) (fkT_1 (tok B n p3) (nu_1 (tok B n p3).1)) (fun t ft gs M e S => ?_) (fun m M S => ?_)
    · obtain ⟨M3, v, S3, A3, _, e3⟩ := cB t ft gs M e S
      have e4 := (c_passNum w3 S3.1 (a := 0) (b := 999) (by omega) (by omega)).2 h6
      refine CFail.le A3 (CFail.of M3 ?_)
      rw [e3, e4, bdP, if_pos rfl]
    · obtain ⟨M5, a2, a3, e3⟩ := mB m M S
      have e4 := (m_num hφ hB.1 hB.2 a2 (r18 m M M5 S a3) (to := 2682 + 27 * F 0 1 0) (a := 0) (b := 999) (by omega) (by omega) (by omega)).2 h6
      refine MFail.le ((RW.stN (by omega) M _).trans a3.rw) (MFail.of M5 ?_)
      rw [e3, e4, bdP, if_pos rfl]
  | true =>
  have hx := of_decide_eq_true (p := (tok B n p3).1 = 2 ∧ 0 ≤ (tok B n p3).2.2.1 ∧ (tok B n p3).2.2.1 ≤ 999) h6
  obtain ⟨x, hxx⟩ : ∃ x, x = (tok B n p3).2.2.1 := ⟨_, rfl⟩
  rw [← hxx] at hx
  have cC : ∀ t ft gs M, ENV t ft gs → CSt t ft gs B n p F nm M → ∃ M4, CSt t ft gs B n p4 F nm M4 ∧ RCw t ft gs 13 M M4 ∧ fX1_passHole φ ft M = (fX6_isNumber t (iI 0) (iI 999) M4).bind fun v20 => if v20 = iI 0 then (ldr 6 (M4.2.2 ft 1)).bind fun vr42 => (ldr 6 (M4.2.2 ft 1)).bind fun vr43 => (fX6_numberFault vr43 M4).bind fun v44 => bd (fX6_refuseToken vr42 v44 M4) fun v45 M46 => if v45 = iI 0 ∨ v45 = iI 1 then some (v45, M46) else none else kH2 φ ft (lI c) (iI x) M4 := fun t ft gs M e S => by
    obtain ⟨M3, v, S3, A3, ev, e3⟩ := cB t ft gs M e S
    have ev := ev (by omega)
    rw [← hxx] at ev
    obtain ⟨M4, q1, q2, q3⟩ := (c_passNum w3 S3.1 (a := 0) (b := 999) (by omega) (by omega)).1 h6
    have S4 := S3.go e q2 q3
    rw [← hp4] at S4
    refine ⟨M4, S4, A3.trans q3.rw, ?_⟩
    rw [e3, q1, bdP, if_neg (by decide), S4.2.2.2.1, ldr_ok e.2.2.1, sbind, ev]
  have mC : ∀ m M, MSt m B n p F nm M → ∃ M7, RKp m B n p4 M7 ∧ M7.1 m 18 = iI 0 ∧ (∀ e : Int, 0 ≤ e → M7.1 (m + 1) e.toNat = if e = 2682 + 27 * F 0 1 0 then iI x else M.1 (m + 1) e.toNat) ∧ M7.2 = (stL M (m + 2) (72 + F 0 1 0).toNat (lI (w8 c))).2 ∧ RW m M M7 ∧ fX11_aHole φ m M = kA2 φ m (iI (2682 + 27 * F 0 1 0)) M7 := fun m M S => by
    obtain ⟨M5, a2, a3, e3⟩ := mB m M S
    obtain ⟨M7, q1, q2, q3⟩ := (m_num hφ hB.1 hB.2 a2 (r18 m M M5 S a3) (to := 2682 + 27 * F 0 1 0) (a := 0) (b := 999) (by omega) (by omega) (by omega)).1 h6
    rw [← hp4] at q2
    rw [← hxx] at q3
    refine ⟨M7, q2, by rw [q3.1 18 (by omega) (by omega) (by omega) (by omega), rI_ng (by omega)]; exact r18 m M M5 S a3, fun e e0 => ?_, by rw [q3.2.1]; exact a3.2.1, (((RW.stN (by omega) M _).trans a3.rw).trans (RW.st (e := 2682 + 27 * F 0 1 0) (by omega) M5 _)).trans q3.rw, ?_⟩
    · rw [(q3.2.2 (m + 1) (by omega)).1]
      by_cases z : e = 2682 + 27 * F 0 1 0
      · rw [if_pos z, rI_at rfl (by omega)]
      · rw [if_neg z, rI_nk (by omega), (a3.2.2 (m + 1) (by omega)).1, rL_1]
    · rw [e3, q1, bdP, if_neg (by decide)]
  have z26 : (2682 : Int32) = iI 2682 := rfl
  have z201 : (2601 : Int32) = iI 2601 := rfl
  have mD : ∀ m (M7 : Mem), RKp m B n p4 M7 → kA2 φ m (iI (2682 + 27 * F 0 1 0)) M7 = if isNu (tok B n p4) 0 999 = true then lX11_aHole_77 (kA3 φ m (2682 + 27 * F 0 1 0) M7) m (iI (2682 + 27 * F 0 1 0)) M7 φ (iI 2682) else kA3 φ m (2682 + 27 * F 0 1 0) M7 := fun m M7 R => by
    have ej : kA2 φ m (iI (2682 + 27 * F 0 1 0)) M7 = (if (M7.1 m 12) = (3 : Int32) then if (999 : Int32) < (M7.1 m 15) then kA3 φ m (2682 + 27 * F 0 1 0) M7 else lX11_aHole_77 (kA3 φ m (2682 + 27 * F 0 1 0) M7) m (iI (2682 + 27 * F 0 1 0)) M7 φ (iI 2682) else kA3 φ m (2682 + 27 * F 0 1 0) M7) := by
      unfold kA2 kA3
      simp (disch := omega) only [z26, z201, k_1, k_2, iI_add, ixkI, iI_nat, nm_eq, jn_eq, k_0, k_999]
    rw [ej]
    obtain ⟨⟨hp', h17⟩, h11, hT, r1, r2, r3, r4⟩ := R
    have ww := w4.1
    obtain ⟨k0, k1, k2, k3, k4⟩ := rkd_v ww
    by_cases q : (tok B n p4).1 = 2
    · have r4 := r4 (Or.inl q)
      have bb := w4.2.2.2.1 q
      rw [k2 q] at r1
      rw [r1, if_pos (show iI 3 = (3 : Int32) from rfl), r4, k_999]
      by_cases q2 : (tok B n p4).2.2.1 ≤ 999
      · rw [if_neg (by rw [iI_lt (by omega) (by omega)]; omega), if_pos (show isNu (tok B n p4) 0 999 = true from decide_eq_true ⟨q, bb.1, q2⟩)]
      · rw [if_pos (by rw [iI_lt (by omega) (by omega)]; omega), if_neg (by
          intro z
          exact q2 (of_decide_eq_true (p := (tok B n p4).1 = 2 ∧ 0 ≤ (tok B n p4).2.2.1 ∧ (tok B n p4).2.2.1 ≤ 999) z).2.2)]
    · have ne : rkd (tok B n p4).1 ≠ 3 ∧ 0 ≤ rkd (tok B n p4).1 ∧ rkd (tok B n p4).1 ≤ 4 := by
        have : (tok B n p4).1 = 0 ∨ (tok B n p4).1 = 3 ∨ (tok B n p4).1 = 1 ∨ (tok B n p4).1 = 4 := by omega
        rcases this with z | z | z | z
        · rw [k0 z]; omega
        · rw [k3 z]; omega
        · rw [k1 z]; omega
        · rw [k4 z]; omega
      rw [r1, if_neg (by rw [k_3, iI_eq (by omega) (by omega)]; exact ne.1), if_neg (by
        intro z
        exact q (of_decide_eq_true (p := (tok B n p4).1 = 2 ∧ 0 ≤ (tok B n p4).2.2.1 ∧ (tok B n p4).2.2.1 ≤ 999) z).1)]
  cases h7 : isNu (tok B n p4) 0 999 with
  | false =>
    refine Part.no (fp := (tok B n p4).2.1) (fkT_1 (tok B n p4) (nu_1 (tok B n p4).1)) (fun t ft gs M e S => ?_) (fun m M S => ?_)
    · obtain ⟨M4, S4, A4, e4⟩ := cC t ft gs M e S
      have e5 := c_isNumber w4 S4.1 (a := 0) (b := 999) (by omega) (by omega)
      rw [h7, bI_f] at e5
      refine CFail.le A4 (CFail.of M4 ?_)
      rw [e4, e5, sbind, if_pos rfl, S4.2.2.2.1, ldr_ok e.2.2.1, sbind, sbind, c_numFault w4 S4.1, sbind, c_refuse w4 S4.1, bdP, if_pos (Or.inl rfl)]
    · obtain ⟨M7, g1, g2, g3, g4, A7, e7⟩ := mC m M S
      have e4 := (m_num hφ hB.1 hB.2 g1 g2 (to := 2682 + 27 * F 0 1 0 + 1) (a := 0) (b := 999) (by omega) (by omega) (by omega)).2 h7
      refine MFail.le A7 (MFail.of M7 ?_)
      rw [e7, mD m M7 g1, h7, if_neg (by decide)]
      unfold kA3
      rw [e4, bdP, if_pos i0e]
      rfl
  | true =>
  have hy := of_decide_eq_true (p := (tok B n p4).1 = 2 ∧ 0 ≤ (tok B n p4).2.2.1 ∧ (tok B n p4).2.2.1 ≤ 999) h7
  obtain ⟨y, hyy⟩ : ∃ y, y = (tok B n p4).2.2.1 := ⟨_, rfl⟩
  rw [← hyy] at hy
  have cE : ∀ t ft gs M, ENV t ft gs → CSt t ft gs B n p F nm M → ∃ M4, CSt t ft gs B n p4 F nm M4 ∧ RCw t ft gs 13 M M4 ∧ fX6_value t M4 = some (iI y) ∧ fX1_passHole φ ft M = kH2 φ ft (lI c) (iI x) M4 := fun t ft gs M e S => by
    obtain ⟨M4, S4, A4, e4⟩ := cC t ft gs M e S
    have e5 := c_isNumber w4 S4.1 (a := 0) (b := 999) (by omega) (by omega)
    rw [h7, bI_t] at e5
    obtain ⟨v, e6, e7⟩ := c_value S4.1
    have e7 := e7 (by omega)
    rw [← hyy] at e7
    refine ⟨M4, S4, A4, by rw [← e7]; exact e6, ?_⟩
    rw [e4, e5, sbind, if_neg (by decide)]
  have mE : ∀ m M, MSt m B n p F nm M → ∃ M7, RKp m B n p4 M7 ∧ M7.1 m 18 = iI 0 ∧ (∀ e : Int, 0 ≤ e → M7.1 (m + 1) e.toNat = if e = 2682 + 27 * F 0 1 0 then iI x else M.1 (m + 1) e.toNat) ∧ M7.2 = (stL M (m + 2) (72 + F 0 1 0).toNat (lI (w8 c))).2 ∧ RW m M M7 ∧ fX11_aHole φ m M = if sH F x y = true then (bd (fX11_fails m (iI 5) M7) fun v29 M30 => if v29 = iI 0 ∨ v29 = iI 1 then some (v29, M30) else none) else kA3 φ m (2682 + 27 * F 0 1 0) M7 := fun m M S => by
    obtain ⟨M7, g1, g2, g3, g4, A7, e7⟩ := mC m M S
    refine ⟨M7, g1, g2, g3, g4, A7, ?_⟩
    have h15 := g1.2.2.2.2.2.2 (Or.inl hy.1)
    rw [← hyy] at h15
    have l7 := m_at77 (m := m) (M := M7) (x := x) (y := y) dw.1 (kA3 φ m (2682 + 27 * F 0 1 0) M7) hx.2 hy.2 (by rw [g3 _ (by omega), if_pos rfl]) h15 (fun i i0 i1 => by
      have e0 := S.2.1.2.2.2.1 i 0 i0 (by omega) (by omega) (by omega)
      have e1 := S.2.1.2.2.2.1 i 1 i0 (by omega) (by omega) (by omega)
      rw [show (2600 : Int) + (82 + 27 * i + 0) = 2682 + 27 * i from by omega] at e0
      rw [show (2600 : Int) + (82 + 27 * i + 1) = 2682 + 27 * i + 1 from by omega] at e1
      rw [g3 _ (by omega), g3 _ (by omega), if_neg (by omega), if_neg (by omega)]
      exact ⟨e0, e1⟩) (F 0 1 0).toNat 0 (by omega) (by omega) φ (by omega)
    rw [show (2682 : Int) + 27 * 0 = 2682 from by omega] at l7
    rw [e7, mD m M7 g1, if_pos h7, l7]
    unfold sH
    by_cases z : ff (fun h => F 3 h 0 == x && F 3 h 1 == y) (F 0 1 0) 0 = -1
    · rw [if_pos z, z, if_neg (by decide)]
    · rw [if_neg z, if_pos (bne_iff_ne.mpr z)]
  cases h9 : sH F x y with
  | true =>
    refine Part.no (fp := (tok B n p4).2.1) (fkT_1 (tok B n p4) (k := 5) (by omega)) (fun t ft gs M e S => ?_) (fun m M S => ?_)
    · obtain ⟨M4, S4, A4, ev, e4⟩ := cE t ft gs M e S
      have e5 := c_holeAt (x := x) (y := y) dw.1 S4.2.1 hx.2 hy.2 (φ := φ) (by omega)
      rw [h9, bI_t] at e5
      refine CFail.le A4 (CFail.of M4 ?_)
      rw [e4]
      unfold kH2
      rw [S4.2.2.2.2, ldr_ok e.2.2.2, sbind, S4.2.2.2.1, ldr_ok e.2.2.1, sbind, ev, sbind, e5, sbind, if_neg i1n, sbind, k_5, c_refuse w4 S4.1, bdP, if_pos (Or.inl i0e)]
    · obtain ⟨M7, g1, g2, g3, g4, A7, e7⟩ := mE m M S
      have e5 := m_fails hB.2 g1 g2 5
      refine MFail.le A7 (MFail.of M7 ?_)
      rw [e7, h9, if_pos rfl, e5, bdP, if_pos (Or.inl rfl)]
  | false =>
  have dh := dw.hole (x := x) (y := y) (c := c) (by omega) hx.2 hy.2 okc
  have cF : ∀ t ft gs M, ENV t ft gs → CSt t ft gs B n p F nm M → ∃ M6, CSt t ft gs B n p5 (u_hole F x y) (u_nm nm 1 (F 0 1 0) c) M6 ∧ RCw t ft gs 13 M M6 ∧ fX1_passHole φ ft M = bd (lX1_passBeds_2 (kB ft) φ ft φ (iI 0) M6) fun v33 M34 => if v33 = iI 0 then some (iI 0, M34) else (ldr 6 (M34.2.2 ft 1)).bind fun vr35 => bd (fX6_passSemicolon vr35 M34) fun v36 M37 => if v36 = iI 0 then some (iI 0, M37) else some (iI 1, M37) := fun t ft gs M e S => by
    obtain ⟨M4, S4, A4, ev, e4⟩ := cE t ft gs M e S
    have e5 := c_holeAt (x := x) (y := y) dw.1 S4.2.1 hx.2 hy.2 (φ := φ) (by omega)
    rw [h9, bI_f] at e5
    obtain ⟨M5, a1, a2, a3, a4, a5⟩ := c_addHole (x := x) (y := y) (c := c) dw (by omega) S4.2.1 S4.2.2.1
    have S5 := S4.add e a2 a3 a4 a5
    obtain ⟨M6, q1, q2, q3⟩ := c_next e S5
    rw [← hp5] at q2
    refine ⟨M6, q2, (A4.trans (RCw.add e (by omega) a4 a5)).trans q3.rw, ?_⟩
    rw [e4]
    unfold kH2
    rw [S4.2.2.2.2, ldr_ok e.2.2.2, sbind, S4.2.2.2.1, ldr_ok e.2.2.1, sbind, ev, sbind, e5, sbind, if_pos i0e, sbind, sbind, ev, sbind, a1, bdP, S5.2.2.2.1, ldr_ok e.2.2.1, sbind, q1, bdP]
    rfl
  have mF : ∀ m M, MSt m B n p F nm M → ∃ M11, HSt m B n p5 (u_hole F x y) (u_nm nm 1 (F 0 1 0) c) M11 ∧ RW m M M11 ∧ fX11_aHole φ m M = lX11_aHole_149 (fun (M26 : Mem) => some ((1 : Int32), stI M26 (m + 1) (Int.toNat 2601) ((M26.1 (m + 1) (Int.toNat 2601)) + iI 1))) φ m (iI (2682 + 27 * F 0 1 0)) φ M11 := fun m M S => by
    obtain ⟨M7, g1, g2, g3, g4, A7, e7⟩ := mE m M S
    obtain ⟨M10, q1, q2, q3⟩ := (m_num hφ hB.1 hB.2 g1 g2 (to := 2682 + 27 * F 0 1 0 + 1) (a := 0) (b := 999) (by omega) (by omega) (by omega)).1 h7
    rw [← hp5] at q2
    rw [← hyy] at q3
    have t10 : ∀ e : Int, 0 ≤ e → M10.1 (m + 1) e.toNat = if e = 2682 + 27 * F 0 1 0 + 1 then iI y else if e = 2682 + 27 * F 0 1 0 then iI x else M.1 (m + 1) e.toNat := fun e e0 => by
      rw [(q3.2.2 (m + 1) (by omega)).1]
      by_cases z : e = 2682 + 27 * F 0 1 0 + 1
      · rw [if_pos z, rI_at rfl (by omega)]
      · rw [if_neg z, rI_nk (by omega)]; exact g3 e e0
    have frx : Fr (Rg (m + 1) (m + 1)) M10 (stI M10 (m + 1) (2682 + 27 * F 0 1 0 + 2).toNat (iI 0)) := Fr.stI ⟨by omega, by omega⟩ (Fr.refl M10)
    have t22 : (stI M10 (m + 1) (2682 + 27 * F 0 1 0 + 2).toNat (iI 0)).2 = (stL M (m + 2) (72 + F 0 1 0).toNat (lI (w8 c))).2 := by
      show M10.2 = _
      rw [q3.2.1]
      exact g4
    have c01 : M.1 (m + 1) (Int.toNat 2601) = iI (F 0 1 0) := S.cnt (w := 1) (by omega)
    refine ⟨stI M10 (m + 1) (2682 + 27 * F 0 1 0 + 2).toNat (iI 0), ⟨q2.fr frx (fun q => by have := q.1; omega) (fun q => by have := q.2; omega), MR.hole dw.1 (by omega) S.2.1 ?_ ?_ ?_ ?_ (fun e e0 e1 e2 e3 e4 => ?_), ⟨fun r a b => ?_, fun r a b => ?_, fun r a b => ?_⟩, ?_, ?_⟩, ((A7.trans (RW.st (e := 2682 + 27 * F 0 1 0 + 1) (by omega) M7 _)).trans q3.rw).trans (RW.st (e := 2682 + 27 * F 0 1 0 + 2) (by omega) M10 _), ?_⟩
    · rw [uh_01]; exact rI_at rfl rfl
    · rw [rI_nk (by omega), rI_nk (by omega), t10 _ (by omega), if_neg (by omega), if_pos rfl]
    · rw [rI_nk (by omega), rI_nk (by omega), t10 _ (by omega), if_pos rfl]
    · rw [rI_nk (by omega)]; exact rI_at rfl rfl
    · rw [rI_nk (by omega), rI_nk (by omega), t10 e e0, if_neg e3, if_neg e2]
    · rw [uh_0 F x y (by omega)] at b
      rw [t22, nm_o nm (Or.inr (by omega))]
      exact (rL_nk (by omega)).trans (S.2.2.1.1 r a b)
    · rw [uh_01] at b
      rw [t22]
      by_cases z : r = F 0 1 0
      · rw [z, nm_t]; exact rL_at rfl (by omega)
      · rw [nm_o nm (Or.inl z)]; exact (rL_nk (by omega)).trans (S.2.2.1.2.1 r a (by omega))
    · rw [uh_0 F x y (by omega)] at b
      rw [t22, nm_o nm (Or.inr (by omega))]
      exact (rL_nk (by omega)).trans (S.2.2.1.2.2 r a b)
    · rw [rI_ng (by omega), q3.1 18 (by omega) (by omega) (by omega) (by omega), rI_ng (by omega)]; exact g2
    · rw [uh_01, rI_nk (by omega)]
      have := t10 2601 (by omega)
      rw [if_neg (by omega), if_neg (by omega)] at this
      rw [show F 0 1 0 + 1 - 1 = F 0 1 0 from by omega]
      exact this.trans c01
    · rw [e7, h9, if_neg (by decide)]
      unfold kA3
      rw [q1, bdP, if_neg i1n]
  have f01 : u_hole F x y 0 1 0 - 1 = F 0 1 0 := by rw [uh_01]; omega
  rcases beds_l hφ hB 8 p5 0 (u_hole F x y 0 1 0 - 1) (u_hole F x y) dh b5.1 (by rw [uh_01]; omega) rfl (by rw [f01, uh_n]) (by omega) (by omega) with ⟨fk, fp, i0, i1, i2⟩ | ⟨F', q', i0, i1, i2, i3, i4, i5⟩
  · refine Part.no (fp := fp) i0 (fun t ft gs M e S => ?_) (fun m M S => ?_)
    · obtain ⟨M6, S6, A6, e6⟩ := cF t ft gs M e S
      obtain ⟨M7, j1, j2⟩ := i1 t ft gs M6 e S6 φ (by omega)
      refine CFail.le A6 ⟨M7, ?_, j2⟩
      rw [e6, j1, bdP, if_pos rfl]
    · obtain ⟨M11, S11, A11, e11⟩ := mF m M S
      have := i2 m M11 (fun (M26 : Mem) => some ((1 : Int32), stI M26 (m + 1) (Int.toNat 2601) ((M26.1 (m + 1) (Int.toNat 2601)) + iI 1))) S11 φ (by omega)
      rw [f01] at this
      rw [e11]
      exact this.le A11
  · refine Part.fin hφ hB ⟨by omega, i2⟩ (by omega) i0 (fun t ft gs M e S => ?_) (fun m M S => ?_)
    · obtain ⟨M6, S6, A6, e6⟩ := cF t ft gs M e S
      obtain ⟨M7, j1, j2, j3⟩ := i4 t ft gs M6 e S6 φ (by omega)
      refine ⟨M7, ?_, j2, A6.trans j3⟩
      rw [e6, j1, bdP, if_neg (by decide), j2.2.2.2.1, ldr_ok e.2.2.1, sbind]
      obtain ⟨a1, a2⟩ := c_passSemi (hB.w ⟨by omega, i2⟩) j2.1
      unfold csm
      cases hs : isSg (tok B n q') 59 with
      | true =>
        obtain ⟨M8, z1, _⟩ := a1 hs
        rw [z1, bdP, bdP, if_neg (by decide), if_pos (Or.inr (show iI 1 = (1 : Int32) from rfl))]
      | false =>
        rw [a2 hs, bdP, bdP, if_pos rfl, if_pos (Or.inl i0e)]
    · obtain ⟨M11, S11, A11, e11⟩ := mF m M S
      obtain ⟨M12, j1, j2, j3⟩ := i5 m M11 (fun (M26 : Mem) => some ((1 : Int32), stI M26 (m + 1) (Int.toNat 2601) ((M26.1 (m + 1) (Int.toNat 2601)) + iI 1))) S11 φ (by omega)
      rw [f01] at j1
      obtain ⟨s1, s2, s3, s4, s5⟩ := j2
      have frx : Fr (Rg (m + 1) (m + 1)) M12 (stI M12 (m + 1) (Int.toNat 2601) (iI (F' 0 1 0))) := Fr.stI ⟨by omega, by omega⟩ (Fr.refl M12)
      refine ⟨stI M12 (m + 1) (Int.toNat 2601) (iI (F' 0 1 0)), ?_, ⟨s1.fr frx (fun q => by have := q.1; omega) (fun q => by have := q.2; omega), s2, s3.fr frx (fun q => by have := q.2; omega), by rw [rI_ng (by omega)]; exact s4⟩, (A11.trans j3).trans (RW.st (e := 2601) (by omega) M12 _)⟩
      rw [e11, j1, s5, iI_add, show F' 0 1 0 - 1 + 1 = F' 0 1 0 from by omega]
      rfl
end HP
