/-! the two texts -/
def isS (q : Nat) : Prop := q = 1001 ∨ q = 1002
def sLen (q : Nat) : Option Int32 := some (nI (strL.getD (q - 1001) 0))
def sAt (q : Nat) (i : Int32) : Option Int32 := ixk i (strL.getD (q - 1001) 0) (some ((strB.getD (q - 1001) []).getD i.toNatClampNeg 0))
theorem str_byte : ∀ i, i < 2 → (strL.getD i 0 < 2 ^ 31) ∧ ∀ j, j < strL.getD i 0 → ((((strB.getD i []).getD j 0 &&& 255).toUInt32 % 65536).toInt32 = (strB.getD i []).getD j 0 ∧ narrow .char (.int ((strB.getD i []).getD j 0)) = .int ((strB.getD i []).getD j 0)) := by decide +kernel
section XT
variable {γ : Type} {J : JT} {pj : γ → Option Value × Mem} {E : Option γ} {pc : Nat} {L : List (Nat × Value)} {S : List Value} {M : Mem} {cc : ByteArray} {own : String}
theorem x_same {C : Prop} [dc : Decidable C] (h : X J pj (if C then E else E) pc L S M) : X J pj E pc L S M := by
  rw [ite_self] at h
  exact h
theorem x_ldcS1 (g : Gd J cc RX6) (hd : decode cc pc = .ok (.ldc 78, 2)) (k : X J pj E (pc + 2) L (.ref 1001 :: S) M) : X J pj E pc L S M := by
  obtain ⟨p, l, e, R, s, m, args, below, meth, c, G, Q, nL, cs⟩ := J
  obtain ⟨hx, hb, hml, hown, hts, hKF, hHF, hcs⟩ := id g
  intro a hE H locs ls hP hS hl
  exact va_ldcS (q := rh G 1001) hx hb hown hKF.2.2.2.1 hd (k a hE H locs ls hP hS hl)
theorem x_ldcS2 (g : Gd J cc RX11) (hd : decode cc pc = .ok (.ldc 196, 2)) (k : X J pj E (pc + 2) L (.ref 1002 :: S) M) : X J pj E pc L S M := by
  obtain ⟨p, l, e, R, s, m, args, below, meth, c, G, Q, nL, cs⟩ := J
  obtain ⟨hx, hb, hml, hown, hts, hKF, hHF, hcs⟩ := id g
  intro a hE H locs ls hP hS hl
  exact va_ldcS (q := rh G 1002) hx hb hown hKF.2.2.2.2 hd (k a hE H locs ls hP hS hl)
theorem x_i2c (g : Gd J cc own) {x : Int32} (hd : decode cc pc = .ok (.i2c, 1)) (k : X J pj E (pc + 1) L (.int (x.toUInt32 % 65536).toInt32 :: S) M) : X J pj E pc L (.int x :: S) M := by
  obtain ⟨p, l, e, R, s, m, args, below, meth, c, G, Q, nL, cs⟩ := J
  obtain ⟨hx, hb, hml, hown, hts, hKF, hHF, hcs⟩ := id g
  intro a hE H locs ls hP hS hl
  exact lv_i2c hx hb hd rfl (k a hE H locs ls hP hS hl)
theorem x_gval (g : Gd J cc own) {i idx : Nat} (hi : i < 2) (hlk : Cond.fieldLink own idx "java/lang/String" "value" "[B" ∈ okT) (hd : decode cc pc = .ok (.getfield idx, 3)) (k : X J pj E (pc + 3) L (.ref (1000 + (i + 11)) :: S) M) : X J pj E pc L (.ref (1000 + (i + 1)) :: S) M := by
  obtain ⟨p, l, e, R, s, m, args, below, meth, c, G, Q, nL, cs⟩ := J
  obtain ⟨hx, hb, hml, hown, hts, hKF, hHF, hcs⟩ := id g
  intro a hE H locs ls hP hS hl
  exact vk_getf (A := Ar G) hx hb (hHF.2.2.1.1 i hi).2.2.1 hS hown (hts _ hlk) (fun _ h => h) hd (k a hE H locs ls hP hS hl)
theorem x_gcod (g : Gd J cc own) {i idx : Nat} (hi : i < 2) (hlk : Cond.fieldLink own idx "java/lang/String" "coder" "B" ∈ okT) (hd : decode cc pc = .ok (.getfield idx, 3)) (k : X J pj E (pc + 3) L (.int 0 :: S) M) : X J pj E pc L (.ref (1000 + (i + 1)) :: S) M := by
  obtain ⟨p, l, e, R, s, m, args, below, meth, c, G, Q, nL, cs⟩ := J
  obtain ⟨hx, hb, hml, hown, hts, hKF, hHF, hcs⟩ := id g
  intro a hE H locs ls hP hS hl
  exact vk_getf (A := Ar G) hx hb (hHF.2.2.1.1 i hi).2.1 hS hown (hts _ hlk) (fun _ h => h) hd (k a hE H locs ls hP hS hl)
theorem x_gcs (g : Gd J cc own) {idx : Nat} (hlk : Cond.fieldLink own idx "java/lang/String" "COMPACT_STRINGS" "Z" ∈ okT) (hd : decode cc pc = .ok (.getstatic idx, 3)) (k : X J pj E (pc + 3) L (.int 1 :: S) M) : X J pj E pc L S M := by
  obtain ⟨p, l, e, R, s, m, args, below, meth, c, G, Q, nL, cs⟩ := J
  obtain ⟨hx, hb, hml, hown, hts, hKF, hHF, hcs⟩ := id g
  intro a hE H locs ls hP hS hl
  exact va_gets (A := Ar G) hx hb hHF.2.2.2.1 hS hown (hts _ hlk) (fun _ h => h) hd (k a hE H locs ls hP hS hl)
theorem x_gsio (g : Gd J cc own) {idx : Nat} (hlk : Cond.fieldLink own idx "jdk/internal/util/Preconditions" "SIOOBE_FORMATTER" "Ljava/util/function/BiFunction;" ∈ okT) (hd : decode cc pc = .ok (.getstatic idx, 3)) (k : ∀ v : Value, v = .null ∨ v = .ref 1005 → X J pj E (pc + 3) L (v :: S) M) : X J pj E pc L S M := by
  obtain ⟨p, l, e, R, s, m, args, below, meth, c, G, Q, nL, cs⟩ := J
  obtain ⟨hx, hb, hml, hown, hts, hKF, hHF, hcs⟩ := id g
  intro a hE H locs ls hP hS hl
  rcases hHF.2.2.2.2.1 with hz | hz
  · exact va_gets (A := Ar G) hx hb hz hS hown (hts _ hlk) (fun _ h => h) hd (k .null (Or.inl rfl) a hE H locs ls hP hS hl)
  · exact va_gets (A := Ar G) hx hb hz hS hown (hts _ hlk) (fun _ h => h) hd (k (.ref 1005) (Or.inr rfl) a hE H locs ls hP hS hl)
theorem x_blen (g : Gd J cc own) {i : Nat} (hi : i < 2) (hd : decode cc pc = .ok (.arraylength, 1)) (k : X J pj E (pc + 1) L (.int (nI (strL.getD i 0)) :: S) M) : X J pj E pc L (.ref (1000 + (i + 11)) :: S) M := by
  obtain ⟨p, l, e, R, s, m, args, below, meth, c, G, Q, nL, cs⟩ := J
  obtain ⟨hx, hb, hml, hown, hts, hKF, hHF, hcs⟩ := id g
  intro a hE H locs ls hP hS hl
  exact va_tlen (A := Ar G) hx hb (hHF.2.2.1.1 i hi).2.2.2 hS rfl hd (k a hE H locs ls hP hS hl)
theorem x_bld (g : Gd J cc own) {i : Nat} {j : Int32} (hi : i < 2) (hin : vp_in j (strL.getD i 0)) (hd : decode cc pc = .ok (.baload, 1)) (k : X J pj E (pc + 1) L (.int ((strB.getD i []).getD j.toNatClampNeg 0) :: S) M) : X J pj E pc L (.int j :: .ref (1000 + (i + 11)) :: S) M := by
  obtain ⟨p, l, e, R, s, m, args, below, meth, c, G, Q, nL, cs⟩ := J
  obtain ⟨hx, hb, hml, hown, hts, hKF, hHF, hcs⟩ := id g
  intro a hE H locs ls hP hS hl
  exact va_tb (A := Ar G) hx hb (hHF.2.2.1.1 i hi).2.2.2 hS hin rfl hd (k a hE H locs ls hP hS hl)
/-- a call of a text's method -/
theorem x_callT {v : Value} (g : Gd J cc own) {y : MethodName} {c2 : ByteArray} {mL2 : Nat} {ret2 : Option FieldType} {fr lo np idx i : Nat} {As st : List Value} (hi : i < 2) (hy : y.cls = "java/lang/String") (mv : MV y c2 mL2 ret2 np) (i1 : Cond.instanceMethod y ∈ okT) (i2 : Cond.selects y.cls y y ∈ okT) (hlk : Cond.methodLink own idx y ∈ okT) (hok : Ok (Jl J) (JG J) y c2 mL2 ret2 fr lo (.ref (1000 + (i + 1)) :: As) M (some v) M) (hnp : As.length = np) (hst : st = As.reverse ++ .ref (1000 + (i + 1)) :: S) {fr1 lo1 : Nat} (hR : (JR J).frames = fr1 ∧ (JR J).locals = lo1) (hroom : fr + 1 ≤ fr1 ∧ 8 + (mL2 + 11) + lo ≤ lo1) (hcat : (S.map fun v => v.category).sum ≤ 8) (hd : decode cc pc = .ok (.invokevirtual idx, 3)) (k : X J pj E (pc + 3) L (v :: S) M) : X J pj E pc L st M := by
  subst hst
  obtain ⟨rfl, rfl⟩ := hR
  obtain ⟨p, l, e, R, s, m, args, below, meth, c, G, Q, nL, cs⟩ := J
  obtain ⟨hx, hb, hml, hown, hts, hKF, hHF, hcs⟩ := id g
  intro a hE H locs ls hP hS hl
  have hM : Ok l G y c2 mL2 ret2 fr lo (.ref (1000 + (i + 1)) :: As) M (some v) M := hok
  rw [Ok_eq] at hM
  obtain ⟨m1, m2, m3, m4⟩ := mv
  have hq0 : ∀ q : Nat, q < bs G → H[q]? = s.heap[q]? := fun q h => hS.2.1 q (Nat.lt_of_lt_of_le h hHF.2.2.2.2.2) (Nat.not_le.mpr h)
  have hrec := vk_recv (A := Ar G) hHF.2.2.1 hi hS
  refine run_on hKF hHF hS hl hE (r := some v) (a0 := (Value.ref (rh G (1000 + (i + 1))) :: As.map (cv G)).toArray) (va_runV (As := As.map (cv G)) (C := y.cls) (nL := nL) (n := np) (Ts := okT) ⟨hx, hb, hml, hown, hts⟩ hM ⟨⟨rfl, rfl, hroom.1, hroom.2, ws_of hts m1, List.mem_cons_self, hts _ m1, hts _ m2, m3, fun sig h => ?_, hts _ hlk⟩, hts _ i1, hts _ i2⟩ ⟨pic_blind, by rw [hy]; exact hrec, fun U hU hW => ⟨by simp [cv], hKF.warm hW, ?_, by rw [hU]; exact hP⟩⟩ rfl (by rw [List.length_map]; exact hnp) hl.1 (by simp [cv]) (lv_room (rest := []) (pc := 0) (m := m) (ls := ls) ?_) hd ⟨hcs.1, hcs.2⟩) k
  · rw [h] at m4
    exact (Option.some.inj m4).symm
  · rw [hU]
    exact (hHF.moved hW.alike).kept (Nat.le_trans hHF.2.2.2.2.2 hS.1) hq0
  · rw [List.map_map]
    refine Nat.le_trans (Nat.le_of_eq ?_) hcat
    congr 2
    funext v
    exact cv_cat G v
end XT
theorem dJ0_length_8abf5_0 : decode cJ0_length_8abf5 0 = .ok (.aload_n 0, 1) := by decide +kernel
theorem dJ0_length_8abf5_1 : decode cJ0_length_8abf5 1 = .ok (.getfield 9, 3) := by decide +kernel
theorem dJ0_length_8abf5_4 : decode cJ0_length_8abf5 4 = .ok (.arraylength, 1) := by decide +kernel
theorem dJ0_length_8abf5_5 : decode cJ0_length_8abf5 5 = .ok (.aload_n 0, 1) := by decide +kernel
theorem dJ0_length_8abf5_6 : decode cJ0_length_8abf5 6 = .ok (.invokevirtual 335, 3) := by decide +kernel
theorem dJ0_length_8abf5_9 : decode cJ0_length_8abf5 9 = .ok (.ishr, 1) := by decide +kernel
theorem dJ0_length_8abf5_10 : decode cJ0_length_8abf5 10 = .ok (.ireturn, 1) := by decide +kernel
theorem dJ0_coder_7d493_0 : decode cJ0_coder_7d493 0 = .ok (.getstatic 38, 3) := by decide +kernel
theorem dJ0_coder_7d493_3 : decode cJ0_coder_7d493 3 = .ok (.ifCond .eq 10, 3) := by decide +kernel
theorem dJ0_coder_7d493_6 : decode cJ0_coder_7d493 6 = .ok (.aload_n 0, 1) := by decide +kernel
theorem dJ0_coder_7d493_7 : decode cJ0_coder_7d493 7 = .ok (.getfield 15, 3) := by decide +kernel
theorem dJ0_coder_7d493_10 : decode cJ0_coder_7d493 10 = .ok (.goto 4, 3) := by decide +kernel
theorem dJ0_coder_7d493_13 : decode cJ0_coder_7d493 13 = .ok (.iconst 1, 1) := by decide +kernel
theorem dJ0_coder_7d493_14 : decode cJ0_coder_7d493 14 = .ok (.ireturn, 1) := by decide +kernel
theorem dJ0_isLatin1_aae02_0 : decode cJ0_isLatin1_aae02 0 = .ok (.getstatic 38, 3) := by decide +kernel
theorem dJ0_isLatin1_aae02_3 : decode cJ0_isLatin1_aae02 3 = .ok (.ifCond .eq 14, 3) := by decide +kernel
theorem dJ0_isLatin1_aae02_6 : decode cJ0_isLatin1_aae02 6 = .ok (.aload_n 0, 1) := by decide +kernel
theorem dJ0_isLatin1_aae02_7 : decode cJ0_isLatin1_aae02 7 = .ok (.getfield 15, 3) := by decide +kernel
theorem dJ0_isLatin1_aae02_10 : decode cJ0_isLatin1_aae02 10 = .ok (.ifCond .ne 7, 3) := by decide +kernel
theorem dJ0_isLatin1_aae02_13 : decode cJ0_isLatin1_aae02 13 = .ok (.iconst 1, 1) := by decide +kernel
theorem dJ0_isLatin1_aae02_14 : decode cJ0_isLatin1_aae02 14 = .ok (.goto 4, 3) := by decide +kernel
theorem dJ0_isLatin1_aae02_17 : decode cJ0_isLatin1_aae02 17 = .ok (.iconst 0, 1) := by decide +kernel
theorem dJ0_isLatin1_aae02_18 : decode cJ0_isLatin1_aae02 18 = .ok (.ireturn, 1) := by decide +kernel
theorem dJ0_checkIndex_df160_0 : decode cJ0_checkIndex_df160 0 = .ok (.iload_n 0, 1) := by decide +kernel
theorem dJ0_checkIndex_df160_1 : decode cJ0_checkIndex_df160 1 = .ok (.iload_n 1, 1) := by decide +kernel
theorem dJ0_checkIndex_df160_2 : decode cJ0_checkIndex_df160 2 = .ok (.getstatic 1053, 3) := by decide +kernel
theorem dJ0_checkIndex_df160_5 : decode cJ0_checkIndex_df160 5 = .ok (.invokestatic 1059, 3) := by decide +kernel
theorem dJ0_checkIndex_df160_8 : decode cJ0_checkIndex_df160 8 = .ok (.pop, 1) := by decide +kernel
theorem dJ0_checkIndex_df160_9 : decode cJ0_checkIndex_df160 9 = .ok (.return_, 1) := by decide +kernel
theorem dJ1_charAt_3b067_0 : decode cJ1_charAt_3b067 0 = .ok (.iload_n 1, 1) := by decide +kernel
theorem dJ1_charAt_3b067_1 : decode cJ1_charAt_3b067 1 = .ok (.aload_n 0, 1) := by decide +kernel
theorem dJ1_charAt_3b067_2 : decode cJ1_charAt_3b067 2 = .ok (.arraylength, 1) := by decide +kernel
theorem dJ1_charAt_3b067_3 : decode cJ1_charAt_3b067 3 = .ok (.invokestatic 9, 3) := by decide +kernel
theorem dJ1_charAt_3b067_6 : decode cJ1_charAt_3b067 6 = .ok (.aload_n 0, 1) := by decide +kernel
theorem dJ1_charAt_3b067_7 : decode cJ1_charAt_3b067 7 = .ok (.iload_n 1, 1) := by decide +kernel
theorem dJ1_charAt_3b067_8 : decode cJ1_charAt_3b067 8 = .ok (.baload, 1) := by decide +kernel
theorem dJ1_charAt_3b067_9 : decode cJ1_charAt_3b067 9 = .ok (.sipush 255, 3) := by decide +kernel
theorem dJ1_charAt_3b067_12 : decode cJ1_charAt_3b067 12 = .ok (.iand, 1) := by decide +kernel
theorem dJ1_charAt_3b067_13 : decode cJ1_charAt_3b067 13 = .ok (.i2c, 1) := by decide +kernel
theorem dJ1_charAt_3b067_14 : decode cJ1_charAt_3b067 14 = .ok (.ireturn, 1) := by decide +kernel
theorem dJ3_checkIndex_8e157_0 : decode cJ3_checkIndex_8e157 0 = .ok (.iload_n 0, 1) := by decide +kernel
theorem dJ3_checkIndex_8e157_1 : decode cJ3_checkIndex_8e157 1 = .ok (.ifCond .lt 8, 3) := by decide +kernel
theorem dJ3_checkIndex_8e157_4 : decode cJ3_checkIndex_8e157 4 = .ok (.iload_n 0, 1) := by decide +kernel
theorem dJ3_checkIndex_8e157_5 : decode cJ3_checkIndex_8e157 5 = .ok (.iload_n 1, 1) := by decide +kernel
theorem dJ3_checkIndex_8e157_6 : decode cJ3_checkIndex_8e157 6 = .ok (.if_icmp .lt 10, 3) := by decide +kernel
theorem dJ3_checkIndex_8e157_9 : decode cJ3_checkIndex_8e157 9 = .ok (.aload_n 2, 1) := by decide +kernel
theorem dJ3_checkIndex_8e157_10 : decode cJ3_checkIndex_8e157 10 = .ok (.iload_n 0, 1) := by decide +kernel
theorem dJ3_checkIndex_8e157_11 : decode cJ3_checkIndex_8e157 11 = .ok (.iload_n 1, 1) := by decide +kernel
theorem dJ3_checkIndex_8e157_12 : decode cJ3_checkIndex_8e157 12 = .ok (.invokestatic 95, 3) := by decide +kernel
theorem dJ3_checkIndex_8e157_15 : decode cJ3_checkIndex_8e157 15 = .ok (.athrow, 1) := by decide +kernel
theorem dJ3_checkIndex_8e157_16 : decode cJ3_checkIndex_8e157 16 = .ok (.iload_n 0, 1) := by decide +kernel
theorem dJ3_checkIndex_8e157_17 : decode cJ3_checkIndex_8e157 17 = .ok (.ireturn, 1) := by decide +kernel
theorem dJ0_charAt_5068e_0 : decode cJ0_charAt_5068e 0 = .ok (.aload_n 0, 1) := by decide +kernel
theorem dJ0_charAt_5068e_1 : decode cJ0_charAt_5068e 1 = .ok (.invokevirtual 492, 3) := by decide +kernel
theorem dJ0_charAt_5068e_4 : decode cJ0_charAt_5068e 4 = .ok (.ifCond .eq 12, 3) := by decide +kernel
theorem dJ0_charAt_5068e_7 : decode cJ0_charAt_5068e 7 = .ok (.aload_n 0, 1) := by decide +kernel
theorem dJ0_charAt_5068e_8 : decode cJ0_charAt_5068e 8 = .ok (.getfield 9, 3) := by decide +kernel
theorem dJ0_charAt_5068e_11 : decode cJ0_charAt_5068e 11 = .ok (.iload_n 1, 1) := by decide +kernel
theorem dJ0_charAt_5068e_12 : decode cJ0_charAt_5068e 12 = .ok (.invokestatic 495, 3) := by decide +kernel
theorem dJ0_charAt_5068e_15 : decode cJ0_charAt_5068e 15 = .ok (.ireturn, 1) := by decide +kernel
theorem dJ0_charAt_5068e_16 : decode cJ0_charAt_5068e 16 = .ok (.aload_n 0, 1) := by decide +kernel
theorem dJ0_charAt_5068e_17 : decode cJ0_charAt_5068e 17 = .ok (.getfield 9, 3) := by decide +kernel
theorem dJ0_charAt_5068e_20 : decode cJ0_charAt_5068e 20 = .ok (.iload_n 1, 1) := by decide +kernel
theorem dJ0_charAt_5068e_21 : decode cJ0_charAt_5068e 21 = .ok (.invokestatic 498, 3) := by decide +kernel
theorem dJ0_charAt_5068e_24 : decode cJ0_charAt_5068e 24 = .ok (.ireturn, 1) := by decide +kernel
theorem mvS_len : MV yJ0_length_8abf5 cJ0_length_8abf5 1 (some .int) 0 := ⟨ok_mem (tb_at3 102 rfl) rfl, ok_mem (tb_at1 14 rfl) rfl, ⟨by decide +kernel, by decide +kernel⟩, by decide +kernel⟩
theorem mvS_cod : MV yJ0_coder_7d493 cJ0_coder_7d493 1 (some .byte) 0 := ⟨ok_mem (tb_at3 106 rfl) rfl, ok_mem (tb_at1 14 rfl) rfl, ⟨by decide +kernel, by decide +kernel⟩, by decide +kernel⟩
theorem mvS_lat : MV yJ0_isLatin1_aae02 cJ0_isLatin1_aae02 1 (some .boolean) 0 := ⟨ok_mem (tb_at3 116 rfl) rfl, ok_mem (tb_at1 14 rfl) rfl, ⟨by decide +kernel, by decide +kernel⟩, by decide +kernel⟩
theorem mvS_at : MV yJ0_charAt_5068e cJ0_charAt_5068e 2 (some .char) 1 := ⟨ok_mem (tb_at3 112 rfl) rfl, ok_mem (tb_at1 14 rfl) rfl, ⟨by decide +kernel, by decide +kernel⟩, by decide +kernel⟩
theorem mvS_ci : MV yJ0_checkIndex_df160 cJ0_checkIndex_df160 2 none 2 := ⟨ok_mem (tb_at3 122 rfl) rfl, ok_mem (tb_at1 14 rfl) rfl, ⟨by decide +kernel, by decide +kernel⟩, by decide +kernel⟩
theorem mvL_at : MV yJ1_charAt_3b067 cJ1_charAt_3b067 2 (some .char) 2 := ⟨ok_mem (tb_at3 119 rfl) rfl, ok_mem (tb_at1 15 rfl) rfl, ⟨by decide +kernel, by decide +kernel⟩, by decide +kernel⟩
theorem mvP_ci : MV yJ3_checkIndex_8e157 cJ3_checkIndex_8e157 3 (some .int) 3 := ⟨ok_mem (tb_at3 127 rfl) rfl, ok_mem (tb_at1 16 rfl) rfl, ⟨by decide +kernel, by decide +kernel⟩, by decide +kernel⟩
theorem imS_len : Cond.instanceMethod yJ0_length_8abf5 ∈ okT := ok_mem (tb_at3 100 rfl) rfl
theorem slS_len : Cond.selects yJ0_length_8abf5.cls yJ0_length_8abf5 yJ0_length_8abf5 ∈ okT := ok_mem (tb_at3 101 rfl) rfl
theorem imS_cod : Cond.instanceMethod yJ0_coder_7d493 ∈ okT := ok_mem (tb_at3 104 rfl) rfl
theorem slS_cod : Cond.selects yJ0_coder_7d493.cls yJ0_coder_7d493 yJ0_coder_7d493 ∈ okT := ok_mem (tb_at3 105 rfl) rfl
theorem imS_lat : Cond.instanceMethod yJ0_isLatin1_aae02 ∈ okT := ok_mem (tb_at3 114 rfl) rfl
theorem slS_lat : Cond.selects yJ0_isLatin1_aae02.cls yJ0_isLatin1_aae02 yJ0_isLatin1_aae02 ∈ okT := ok_mem (tb_at3 115 rfl) rfl
theorem imS_at : Cond.instanceMethod yJ0_charAt_5068e ∈ okT := ok_mem (tb_at3 110 rfl) rfl
theorem slS_at : Cond.selects yJ0_charAt_5068e.cls yJ0_charAt_5068e yJ0_charAt_5068e ∈ okT := ok_mem (tb_at3 111 rfl) rfl
theorem stS_ci : Cond.static yJ0_checkIndex_df160 ∈ okT := ok_mem (tb_at3 121 rfl) rfl
theorem stL_at : Cond.static yJ1_charAt_3b067 ∈ okT := ok_mem (tb_at3 118 rfl) rfl
theorem stP_ci : Cond.static yJ3_checkIndex_8e157 ∈ okT := ok_mem (tb_at3 126 rfl) rfl
theorem lkS_335 : Cond.methodLink RJ0 335 yJ0_coder_7d493 ∈ okT := ok_mem (tb_at3 103 rfl) rfl
theorem lkS_492 : Cond.methodLink RJ0 492 yJ0_isLatin1_aae02 ∈ okT := ok_mem (tb_at3 113 rfl) rfl
theorem lkS_495 : Cond.methodLink RJ0 495 yJ1_charAt_3b067 ∈ okT ∨ ∃ host, Cond.methodLinkNest RJ0 495 yJ1_charAt_3b067 host ∈ nestW := Or.inl (ok_mem (tb_at3 117 rfl) rfl)
theorem lkL_9 : Cond.methodLink RJ1 9 yJ0_checkIndex_df160 ∈ okT ∨ ∃ host, Cond.methodLinkNest RJ1 9 yJ0_checkIndex_df160 host ∈ nestW := Or.inl (ok_mem (tb_at3 120 rfl) rfl)
theorem lkS_1059 : Cond.methodLink RJ0 1059 yJ3_checkIndex_8e157 ∈ okT ∨ ∃ host, Cond.methodLinkNest RJ0 1059 yJ3_checkIndex_8e157 host ∈ nestW := Or.inl (ok_mem (tb_at3 125 rfl) rfl)
theorem flS_9 : Cond.fieldLink RJ0 9 "java/lang/String" "value" "[B" ∈ okT := ok_mem (tb_at10 24 rfl) rfl
theorem flS_15 : Cond.fieldLink RJ0 15 "java/lang/String" "coder" "B" ∈ okT := ok_mem (tb_at10 25 rfl) rfl
theorem flS_38 : Cond.fieldLink RJ0 38 "java/lang/String" "COMPACT_STRINGS" "Z" ∈ okT := ok_mem (tb_at3 107 rfl) rfl
theorem flS_1053 : Cond.fieldLink RJ0 1053 "jdk/internal/util/Preconditions" "SIOOBE_FORMATTER" "Ljava/util/function/BiFunction;" ∈ okT := ok_mem (tb_at3 123 rfl) rfl
theorem kS_cod (l : Launch) (G : GT) {i : Nat} (hi : i < 2) (M : Mem) : Ok l G yJ0_coder_7d493 cJ0_coder_7d493 1 (some .byte) 0 0 [.ref (1000 + (i + 1))] M (some (.int 0)) M := by
  refine Ok.ofX (E := some ()) (a := ()) (pj := fun _ => (some (Value.int 0), M)) (by decide) (Nat.le_of_ble_eq_true rfl) rfl (fun J g hr hG hl hR hn => ?_)
  show X J _ _ 0 [(0, .ref (1000 + (i + 1)))] [] M
  exact x_gcs g flS_38 dJ0_coder_7d493_0 (x_same (x_if_eq g 13 dJ0_coder_7d493_3 rfl (fun h => absurd h (by decide)) (fun _ => x_aload_n g 0 dJ0_coder_7d493_6 rfl rfl (x_gcod g hi flS_15 dJ0_coder_7d493_7 (x_goto g 14 dJ0_coder_7d493_10 rfl (x_iret g hr rfl rfl dJ0_coder_7d493_14))))))
theorem kS_lat (l : Launch) (G : GT) {i : Nat} (hi : i < 2) (M : Mem) : Ok l G yJ0_isLatin1_aae02 cJ0_isLatin1_aae02 1 (some .boolean) 0 0 [.ref (1000 + (i + 1))] M (some (.int 1)) M := by
  refine Ok.ofX (E := some ()) (a := ()) (pj := fun _ => (some (Value.int 1), M)) (by decide) (Nat.le_of_ble_eq_true rfl) rfl (fun J g hr hG hl hR hn => ?_)
  show X J _ _ 0 [(0, .ref (1000 + (i + 1)))] [] M
  exact x_gcs g flS_38 dJ0_isLatin1_aae02_0 (x_same (x_if_eq g 17 dJ0_isLatin1_aae02_3 rfl (fun h => absurd h (by decide)) (fun _ => x_aload_n g 0 dJ0_isLatin1_aae02_6 rfl rfl (x_gcod g hi flS_15 dJ0_isLatin1_aae02_7 (x_same (x_if_ne g 17 dJ0_isLatin1_aae02_10 rfl (fun h => absurd rfl h) (fun _ => x_iconst (v := 1) g dJ0_isLatin1_aae02_13 (by decide) (x_goto g 18 dJ0_isLatin1_aae02_14 rfl (x_iret g hr rfl rfl dJ0_isLatin1_aae02_18)))))))))
theorem kS_len (l : Launch) (G : GT) {i : Nat} (hi : i < 2) (M : Mem) : Ok l G yJ0_length_8abf5 cJ0_length_8abf5 1 (some .int) 1 20 [.ref (1000 + (i + 1))] M (some (.int (nI (strL.getD i 0)))) M := by
  refine Ok.ofX (E := some ()) (a := ()) (pj := fun _ => (some (Value.int (nI (strL.getD i 0))), M)) (by decide) (Nat.le_of_ble_eq_true rfl) rfl (fun J g hr hG hl hR hn => ?_)
  show X J _ _ 0 [(0, .ref (1000 + (i + 1)))] [] M
  refine x_aload_n g 0 dJ0_length_8abf5_0 rfl rfl (x_gval g hi flS_9 dJ0_length_8abf5_1 (x_blen g hi dJ0_length_8abf5_4 (x_aload_n g 0 dJ0_length_8abf5_5 rfl rfl (x_callT (As := []) g hi rfl mvS_cod imS_cod slS_cod lkS_335 (kS_cod _ _ hi M) rfl rfl hR ⟨Nat.le_of_ble_eq_true rfl, Nat.le_of_ble_eq_true rfl⟩ (Nat.le_of_ble_eq_true rfl) dJ0_length_8abf5_6 (x_ishr g dJ0_length_8abf5_9 ?_)))))
  rw [show nI (strL.getD i 0) >>> ((0 : Int32) &&& 31) = nI (strL.getD i 0) from by
    rw [pk_shrN (str_byte i hi).1 _ 0 (by decide)]
    simp]
  exact x_iret g hr rfl rfl dJ0_length_8abf5_10
theorem kP_ci (l : Launch) (G : GT) {i : Int32} {n : Nat} {v : Value} (hv : v = .null ∨ v = .ref 1005) (hn2 : n < 2 ^ 31) (hin : vp_in i n) (M : Mem) : Ok l G yJ3_checkIndex_8e157 cJ3_checkIndex_8e157 3 (some .int) 0 0 [.int i, .int (nI n), v] M (some (.int i)) M := by
  refine Ok.ofX (E := some ()) (a := ()) (pj := fun _ => (some (Value.int i), M)) (by decide) (by rcases hv with rfl | rfl <;> exact Nat.le_of_ble_eq_true rfl) rfl (fun J g hr hG hl hR hn => ?_)
  obtain ⟨j, hj, rfl⟩ := vp_in_of hin hn2
  rw [show lv_args 0 [.int (nI j), .int (nI n), v] = [(0, .int (nI j)), (1, .int (nI n)), (2, v)] from rfl]
  exact x_iload_n g 0 dJ3_checkIndex_8e157_0 rfl rfl (x_same (x_if_lt g 9 dJ3_checkIndex_8e157_1 rfl (fun h => absurd h (nI_pos (by omega))) (fun _ => x_iload_n g 0 dJ3_checkIndex_8e157_4 rfl rfl (x_iload_n g 1 dJ3_checkIndex_8e157_5 rfl rfl (x_same (x_icmp_lt g 16 dJ3_checkIndex_8e157_6 rfl (fun _ => x_iload_n g 0 dJ3_checkIndex_8e157_16 rfl rfl (x_iret g hr rfl rfl dJ3_checkIndex_8e157_17)) (fun h => absurd (nI_lt hj hn2) h)))))))
theorem kS_ci (l : Launch) (G : GT) {i : Int32} {n : Nat} (hn2 : n < 2 ^ 31) (hin : vp_in i n) (M : Mem) : Ok l G yJ0_checkIndex_df160 cJ0_checkIndex_df160 2 none 1 22 [.int i, .int (nI n)] M none M := by
  refine Ok.ofX (E := some ()) (a := ()) (pj := fun _ => ((none : Option Value), M)) (by decide) (Nat.le_of_ble_eq_true rfl) rfl (fun J g hr hG hl hR hn => ?_)
  show X J _ _ 0 [(0, .int i), (1, .int (nI n))] [] M
  refine x_iload_n g 0 dJ0_checkIndex_df160_0 rfl rfl (x_iload_n g 1 dJ0_checkIndex_df160_1 rfl rfl (x_gsio g flS_1053 dJ0_checkIndex_df160_2 (fun v hv => ?_)))
  exact x_callSip (F := some i) (K := fun _ => some ()) (As := [.int i, .int (nI n), v]) g mvP_ci stP_ci lkS_1059 (fun b hb => by cases hb; exact kP_ci _ _ hv hn2 hin M) rfl rfl hR ⟨Nat.le_of_ble_eq_true rfl, Nat.le_of_ble_eq_true rfl⟩ (Nat.le_of_ble_eq_true rfl) dJ0_checkIndex_df160_5 (fun b => x_pop g dJ0_checkIndex_df160_8 rfl (x_vret g hr rfl dJ0_checkIndex_df160_9))
theorem kL_at (l : Launch) (G : GT) {i : Nat} {j : Int32} (hi : i < 2) (hin : vp_in j (strL.getD i 0)) (M : Mem) : Ok l G yJ1_charAt_3b067 cJ1_charAt_3b067 2 (some .char) 2 43 [.ref (1000 + (i + 11)), .int j] M (some (.int ((strB.getD i []).getD j.toNatClampNeg 0))) M := by
  have hb := (str_byte i hi).2 j.toNatClampNeg (Nat.not_le.mp fun q => hin (Or.inr q))
  refine Ok.ofX (E := some ()) (a := ()) (pj := fun _ => (some (Value.int ((strB.getD i []).getD j.toNatClampNeg 0)), M)) (by decide) (Nat.le_of_ble_eq_true rfl) rfl (fun J g hr hG hl hR hn => ?_)
  show X J _ _ 0 [(0, .ref (1000 + (i + 11))), (1, .int j)] [] M
  refine x_iload_n g 1 dJ1_charAt_3b067_0 rfl rfl (x_aload_n g 0 dJ1_charAt_3b067_1 rfl rfl (x_blen g hi dJ1_charAt_3b067_2 ?_))
  refine x_callSvp (F := some ()) (K := fun _ => some ()) (As := [.int j, .int (nI (strL.getD i 0))]) g mvS_ci stS_ci lkL_9 (fun b hb => kS_ci _ _ (str_byte i hi).1 hin M) rfl rfl hR ⟨Nat.le_of_ble_eq_true rfl, Nat.le_of_ble_eq_true rfl⟩ (Nat.le_of_ble_eq_true rfl) dJ1_charAt_3b067_3 (fun b => ?_)
  refine x_aload_n g 0 dJ1_charAt_3b067_6 rfl rfl (x_iload_n g 1 dJ1_charAt_3b067_7 rfl rfl (x_bld g hi hin dJ1_charAt_3b067_8 (x_sipush (v := 255) g dJ1_charAt_3b067_9 (by decide) (x_iand g dJ1_charAt_3b067_12 (x_i2c g dJ1_charAt_3b067_13 ?_)))))
  rw [hb.1]
  exact x_iret g hr hb.2 rfl dJ1_charAt_3b067_14
theorem kS_at (l : Launch) (G : GT) {i : Nat} {j : Int32} (hi : i < 2) (hin : vp_in j (strL.getD i 0)) (M : Mem) : Ok l G yJ0_charAt_5068e cJ0_charAt_5068e 2 (some .char) 3 64 [.ref (1000 + (i + 1)), .int j] M (some (.int ((strB.getD i []).getD j.toNatClampNeg 0))) M := by
  have hb := (str_byte i hi).2 j.toNatClampNeg (Nat.not_le.mp fun q => hin (Or.inr q))
  generalize hw : (strB.getD i []).getD j.toNatClampNeg 0 = w at hb ⊢
  refine Ok.ofX (E := (some w).bind fun b => if narrow .char (.int b) = .int b then some b else none) (a := w) (pj := fun b : Int32 => (some (Value.int b), M)) (by decide) (Nat.le_of_ble_eq_true rfl) (if_pos hb.2) (fun J g hr hG hl hR hn => ?_)
  show X J _ _ 0 [(0, .ref (1000 + (i + 1))), (1, .int j)] [] M
  refine x_aload_n g 0 dJ0_charAt_5068e_0 rfl rfl (x_callT (As := []) g hi rfl mvS_lat imS_lat slS_lat lkS_492 (kS_lat _ _ hi M) rfl rfl hR ⟨Nat.le_of_ble_eq_true rfl, Nat.le_of_ble_eq_true rfl⟩ (Nat.le_of_ble_eq_true rfl) dJ0_charAt_5068e_1 (x_same (x_if_eq g 16 dJ0_charAt_5068e_4 rfl (fun h => absurd h (by decide)) (fun _ => ?_))))
  refine x_aload_n g 0 dJ0_charAt_5068e_7 rfl rfl (x_gval g hi flS_9 dJ0_charAt_5068e_8 (x_iload_n g 1 dJ0_charAt_5068e_11 rfl rfl ?_))
  exact x_callSip (As := [.ref (1000 + (i + 11)), .int j]) g mvL_at stL_at lkS_495 (fun b hb => by cases hb; rw [← hw]; exact kL_at _ _ hi hin M) rfl rfl hR ⟨Nat.le_of_ble_eq_true rfl, Nat.le_of_ble_eq_true rfl⟩ (Nat.le_of_ble_eq_true rfl) dJ0_charAt_5068e_12 (fun b => x_ck (fun h => x_iret g hr h rfl dJ0_charAt_5068e_15))
section XT2
variable {γ : Type} {J : JT} {pj : γ → Option Value × Mem} {E : Option γ} {pc : Nat} {L : List (Nat × Value)} {S : List Value} {M : Mem} {cc : ByteArray} {own : String}
theorem isS_ix {q : Nat} (h : isS q) : ∃ i, i < 2 ∧ q = 1000 + (i + 1) ∧ q - 1001 = i := by
  rcases h with rfl | rfl
  · exact ⟨0, by decide, rfl, rfl⟩
  · exact ⟨1, by decide, rfl, rfl⟩
theorem x_slength (g : Gd J cc own) {K : Int32 → Option γ} {q idx fr lo : Nat} (hR : (JR J).frames = fr ∧ (JR J).locals = lo) (hlk : Cond.methodLink own idx yJ0_length_8abf5 ∈ okT) (hs : isS q) (hfr : 4 ≤ fr) (hlo : 120 ≤ lo) (hcat : (S.map fun v => v.category).sum ≤ 8) (hd : decode cc pc = .ok (.invokevirtual idx, 3)) (k : ∀ b, X J pj (K b) (pc + 3) L (.int b :: S) M) : X J pj ((sLen q).bind K) pc L (.ref q :: S) M := by
  obtain ⟨i, hi, rfl, e⟩ := isS_ix hs
  show X J pj (K (nI (strL.getD (1000 + (i + 1) - 1001) 0))) pc L _ M
  rw [e]
  exact x_callT (As := []) g hi rfl mvS_len imS_len slS_len hlk (kS_len _ _ hi M) rfl rfl hR ⟨by omega, by omega⟩ hcat hd (k _)
theorem x_scharAt (g : Gd J cc own) {K : Int32 → Option γ} {q idx fr lo : Nat} {i : Int32} (hR : (JR J).frames = fr ∧ (JR J).locals = lo) (hlk : Cond.methodLink own idx yJ0_charAt_5068e ∈ okT) (hs : isS q) (hfr : 4 ≤ fr) (hlo : 121 ≤ lo) (hcat : (S.map fun v => v.category).sum ≤ 8) (hd : decode cc pc = .ok (.invokevirtual idx, 3)) (k : ∀ b, X J pj (K b) (pc + 3) L (.int b :: S) M) : X J pj ((sAt q i).bind K) pc L (.int i :: .ref q :: S) M := by
  obtain ⟨z, hz, rfl, e⟩ := isS_ix hs
  by_cases hin : vp_in i (strL.getD z 0)
  · rw [show sAt (1000 + (z + 1)) i = some ((strB.getD z []).getD i.toNatClampNeg 0) from by
      unfold sAt
      rw [e]
      exact ixk_in hin]
    exact x_callT (As := [.int i]) g hz rfl mvS_at imS_at slS_at hlk (kS_at _ _ hz hin M) rfl rfl hR ⟨by omega, by omega⟩ hcat hd (k _)
  · rw [show sAt (1000 + (z + 1)) i = none from by
      unfold sAt
      rw [e]
      exact if_neg (fun h => hin (vp_in_iff.mpr h))]
    exact x_none
end XT2
