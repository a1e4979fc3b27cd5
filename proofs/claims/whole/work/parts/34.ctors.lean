/-! the memory behind the two constructors -/
def M0 : Mem := (fun g => if g = 150 then (fun k => if k = 3 then (-1) else if k = 2 then (-1) else if k = 1 then (-1) else if k = 0 then (-1) else 0) else if g = 147 then (fun k => if k = 4 then (-1) else 0) else if g = 146 then (fun k => if k = 26 then (-1) else if k = 17 then (-1) else if k = 16 then (-1) else 0) else if g = 84 then (fun k => if k = 2 then (-1) else 0) else if g = 82 then (fun k => if k = 2 then (-1) else 0) else if g = 80 then (fun k => if k = 2 then (-1) else 0) else if g = 78 then (fun k => if k = 2 then (-1) else 0) else if g = 58 then (fun k => if k = 2 then (-1) else 0) else if g = 57 then (fun k => if k = 13 then (1) else if k = 1 then (1) else 0) else if g = 54 then (fun k => if k = 2 then (-1) else 0) else if g = 2 then (fun k => if k = 10 then (-1) else 0) else fun _ => 0, fun g => if g = 146 then (fun k => if k = 4 then (1) else 0) else if g = 0 then (fun k => if k = 2 then (1) else 0) else fun _ => 0, fun g => if g = 0 then (fun k => if k = 10 then some 46 else if k = 9 then some 40 else if k = 8 then some 26 else if k = 7 then some 12 else none) else fun _ => none)
def cat (G : GT) (C : Cm) (h n : Nat) : Cm := fun g => if h ≤ g ∧ g < n then el G M0 g else C g
def eqv (e e2 : va_E) : Prop := e = e2 ∨ ∃ (c : ClassId) (n : Nat) (f f2 : Nat → Option Nat), e = .inl (c, n, .inr (.inr (.inr (.inr f)))) ∧ e2 = .inl (c, n, .inr (.inr (.inr (.inr f2)))) ∧ ∀ j, j < n → f j = f2 j
theorem wc_P {G : GT} {n : Nat} {C C2 : Cm} {H : Heap} (h : ∀ g, g < n → eqv (C g) (C2 g)) (hP : va_P (gD G) vwCl (wc G n C) H) : va_P (gD G) vwCl (wc G n C2) H := by
  intro k q hq
  have hk : k < n := by
    have := (List.getElem?_eq_some_iff.mp hq).1
    simpa [wc] using this
  rw [wc_get hk] at hq
  cases hq
  have h0 := hP k _ (wc_get hk)
  rcases h k hk with he | ⟨c, m, f, f2, e1, e2, hf⟩
  · rw [← he]
    exact h0
  · rw [e1] at h0
    rw [e2]
    have h1 : H[rh G k]? = some (vp_cell c (m, .inr (.inr (.inr (.inr f))))) := h0
    show H[rh G k]? = some (vp_cell c (m, .inr (.inr (.inr (.inr f2)))))
    rw [h1, vp_cell_q, vp_cell_q]
    have hfn : (fun j : Fin m => va_rf (f j.val)) = fun j : Fin m => va_rf (f2 j.val) := by
      funext j
      rw [hf j.val j.isLt]
    unfold arrV
    rw [hfn]
theorem y_catN {J : JT} {n ck sk pc : Nat} {L : List (Nat × Value)} {S : List Value} {D : Cm} {G : GT} {t h n2 : Nat} {e : va_E} (ht : t < h) (k : Y J n ck sk pc L S (upC (cat G D h n2) t e)) : Y J n ck sk pc L S (cat G (upC D t e) h n2) := by
  rw [show cat G (upC D t e) h n2 = upC (cat G D h n2) t e from by
    funext j
    unfold cat upC
    by_cases h1 : j = t
    · rw [if_neg (by omega), if_pos h1, if_pos h1]
    · rw [if_neg h1, if_neg h1]]
  exact k
theorem y_cv {J : JT} {n ck sk pc : Nat} {L : List (Nat × Value)} {S : List Value} {C C2 : Cm} (h : ∀ g, g < n → eqv (C g) (C2 g)) (k : Y J n ck sk pc L S C2) : Y J n ck sk pc L S C := by
  obtain ⟨p, l, e, R, s, m, args, below, meth, c, G, Q, nL, cs⟩ := J
  intro H locs ls hP hS hl
  exact k H locs ls (wc_P h hP) hS hl
set_option maxRecDepth 100000 in
set_option maxHeartbeats 8000000 in
theorem kc_8 (l : Launch) (G : GT) (hlin : Lin G) {C : Cm} (hC : C 8 = .inr (1, [.null, .null, .null])) : OkC l G yX1_init cX1_init 1 1 30 1 4 8 9 C 10 (cat G C 8 10) := by
  refine OkC.ofY (by decide) rfl (Nat.le_of_ble_eq_true rfl) hlin (fun J g hI hr hG hl hR hRc hn => ?_)
  subst hG
  refine y_cv (C2 := upC C 8 (.inr (1, [.null, .null, .null]))) (fun g _ => Or.inl <| by
    unfold upC
    by_cases h : g = 8
    · rw [h, if_pos rfl, hC]
    · rw [if_neg h]) ?_
  refine y_aload_n g 0 dX1_init_0 rfl rfl ?_
  refine y_objI g hR lo_RX1_3 ok_oin ok_oco (Nat.le_of_ble_eq_true rfl) (Nat.le_of_ble_eq_true rfl) dX1_init_1 ?_
  refine y_aload_n g 0 dX1_init_4 rfl rfl ?_
  refine y_iconst (v := 4) g dX1_init_5 (by decide) ?_
  refine y_new_int (N := 4) g rfl (Nat.le_of_ble_eq_true rfl) hRc okA_int (by decide) (by decide) (Nat.le_of_ble_eq_true rfl) (Nat.le_of_ble_eq_true rfl) (Nat.le_of_ble_eq_true rfl) dX1_init_6 ?_
  refine y_swN (by decide) ?_
  refine y_putN (fs2 := [.ref (rh (JG J) 9), .null, .null]) g hI fy_RX1_9 (Nat.le_of_ble_eq_true rfl) (Nat.le_of_ble_eq_true rfl) rfl (Nat.le_of_ble_eq_true rfl) rfl rfl dX1_init_8 ?_
  refine y_aload_n g 0 dX1_init_11 rfl rfl ?_
  refine y_null g dX1_init_12 ?_
  refine y_putN (fs2 := [.ref (rh (JG J) 9), .null, .null]) g hI fy_RX1_15 (Nat.le_of_ble_eq_true rfl) (Nat.le_of_ble_eq_true rfl) rfl (Nat.le_of_ble_eq_true rfl) rfl rfl dX1_init_13 ?_
  refine y_aload_n g 0 dX1_init_16 rfl rfl ?_
  refine y_null g dX1_init_17 ?_
  refine y_putN (fs2 := [.ref (rh (JG J) 9), .null, .null]) g hI fy_RX1_19 (Nat.le_of_ble_eq_true rfl) (Nat.le_of_ble_eq_true rfl) rfl (Nat.le_of_ble_eq_true rfl) rfl rfl dX1_init_18 ?_
  refine y_cv (C2 := cat (JG J) C 8 10) (fun g hg => by
      by_cases hlt : g < 8
      · refine Or.inl ?_
        simp only [upC, cat]
        repeat rw [if_neg (by omega)]
      · obtain ⟨k, rfl⟩ : ∃ k, g = 8 + k := ⟨g - 8, by omega⟩
        have hk : k < 2 := by omega
        clear hlt hg
        exact (match k, hk with | 0, _ => Or.inl rfl | 1, _ => Or.inl rfl | k + 2, hk => absurd hk (by omega))) ?_
  exact y_vret g hr rfl (Nat.le_of_ble_eq_true rfl) dX1_init_21
set_option maxRecDepth 100000 in
set_option maxHeartbeats 8000000 in
theorem kc_10 (l : Launch) (G : GT) (hlin : Lin G) {C : Cm} (hC : C 10 = .inr (9, [.null, .int 0, .null, .null, .null])) : OkC l G yX9_init cX9_init 1 1 30 1 3 10 11 C 12 (cat G C 10 12) := by
  refine OkC.ofY (by decide) rfl (Nat.le_of_ble_eq_true rfl) hlin (fun J g hI hr hG hl hR hRc hn => ?_)
  subst hG
  refine y_cv (C2 := upC C 10 (.inr (9, [.null, .int 0, .null, .null, .null]))) (fun g _ => Or.inl <| by
    unfold upC
    by_cases h : g = 10
    · rw [h, if_pos rfl, hC]
    · rw [if_neg h]) ?_
  refine y_aload_n g 0 dX9_init_0 rfl rfl ?_
  refine y_objI g hR lo_RX9_3 ok_oin ok_oco (Nat.le_of_ble_eq_true rfl) (Nat.le_of_ble_eq_true rfl) dX9_init_1 ?_
  refine y_aload_n g 0 dX9_init_4 rfl rfl ?_
  refine y_iconst (v := 3) g dX9_init_5 (by decide) ?_
  refine y_new_int (N := 3) g rfl (Nat.le_of_ble_eq_true rfl) hRc okA_int (by decide) (by decide) (Nat.le_of_ble_eq_true rfl) (Nat.le_of_ble_eq_true rfl) (Nat.le_of_ble_eq_true rfl) dX9_init_6 ?_
  refine y_swN (by decide) ?_
  refine y_putN (fs2 := [.ref (rh (JG J) 11), .int 0, .null, .null, .null]) g hI fy_RX9_11 (Nat.le_of_ble_eq_true rfl) (Nat.le_of_ble_eq_true rfl) rfl (Nat.le_of_ble_eq_true rfl) rfl rfl dX9_init_8 ?_
  refine y_aload_n g 0 dX9_init_11 rfl rfl ?_
  refine y_iconst (v := 0) g dX9_init_12 (by decide) ?_
  refine y_putN (fs2 := [.ref (rh (JG J) 11), .int 0, .null, .null, .null]) g hI fy_RX9_15 (Nat.le_of_ble_eq_true rfl) (Nat.le_of_ble_eq_true rfl) rfl (Nat.le_of_ble_eq_true rfl) rfl rfl dX9_init_13 ?_
  refine y_aload_n g 0 dX9_init_16 rfl rfl ?_
  refine y_null g dX9_init_17 ?_
  refine y_putN (fs2 := [.ref (rh (JG J) 11), .int 0, .null, .null, .null]) g hI fy_RX9_19 (Nat.le_of_ble_eq_true rfl) (Nat.le_of_ble_eq_true rfl) rfl (Nat.le_of_ble_eq_true rfl) rfl rfl dX9_init_18 ?_
  refine y_aload_n g 0 dX9_init_21 rfl rfl ?_
  refine y_null g dX9_init_22 ?_
  refine y_putN (fs2 := [.ref (rh (JG J) 11), .int 0, .null, .null, .null]) g hI fy_RX9_23 (Nat.le_of_ble_eq_true rfl) (Nat.le_of_ble_eq_true rfl) rfl (Nat.le_of_ble_eq_true rfl) rfl rfl dX9_init_23 ?_
  refine y_aload_n g 0 dX9_init_26 rfl rfl ?_
  refine y_null g dX9_init_27 ?_
  refine y_putN (fs2 := [.ref (rh (JG J) 11), .int 0, .null, .null, .null]) g hI fy_RX9_27 (Nat.le_of_ble_eq_true rfl) (Nat.le_of_ble_eq_true rfl) rfl (Nat.le_of_ble_eq_true rfl) rfl rfl dX9_init_28 ?_
  refine y_cv (C2 := cat (JG J) C 10 12) (fun g hg => by
      by_cases hlt : g < 10
      · refine Or.inl ?_
        simp only [upC, cat]
        repeat rw [if_neg (by omega)]
      · obtain ⟨k, rfl⟩ : ∃ k, g = 10 + k := ⟨g - 10, by omega⟩
        have hk : k < 2 := by omega
        clear hlt hg
        exact (match k, hk with | 0, _ => Or.inl rfl | 1, _ => Or.inl rfl | k + 2, hk => absurd hk (by omega))) ?_
  exact y_vret g hr rfl (Nat.le_of_ble_eq_true rfl) dX9_init_31
set_option maxRecDepth 100000 in
set_option maxHeartbeats 8000000 in
theorem kc_74 (l : Launch) (G : GT) (hlin : Lin G) {C : Cm} (hC : C 74 = .inr (3, [.null, .int 0, .int 0, .int 0, .int 0, .int 0, .int 0, .int 0])) : OkC l G yX3_init cX3_init 1 1 30 1 60 74 75 C 76 (cat G C 74 76) := by
  refine OkC.ofY (by decide) rfl (Nat.le_of_ble_eq_true rfl) hlin (fun J g hI hr hG hl hR hRc hn => ?_)
  subst hG
  refine y_cv (C2 := upC C 74 (.inr (3, [.null, .int 0, .int 0, .int 0, .int 0, .int 0, .int 0, .int 0]))) (fun g _ => Or.inl <| by
    unfold upC
    by_cases h : g = 74
    · rw [h, if_pos rfl, hC]
    · rw [if_neg h]) ?_
  refine y_aload_n g 0 dX3_init_0 rfl rfl ?_
  refine y_objI g hR lo_RX3_3 ok_oin ok_oco (Nat.le_of_ble_eq_true rfl) (Nat.le_of_ble_eq_true rfl) dX3_init_1 ?_
  refine y_aload_n g 0 dX3_init_4 rfl rfl ?_
  refine y_bipush (v := 60) g dX3_init_5 (by decide) ?_
  refine y_new_int (N := 60) g rfl (Nat.le_of_ble_eq_true rfl) hRc okA_int (by decide) (by decide) (Nat.le_of_ble_eq_true rfl) (Nat.le_of_ble_eq_true rfl) (Nat.le_of_ble_eq_true rfl) dX3_init_7 ?_
  refine y_swN (by decide) ?_
  refine y_putN (fs2 := [.ref (rh (JG J) 75), .int 0, .int 0, .int 0, .int 0, .int 0, .int 0, .int 0]) g hI fy_RX3_11 (Nat.le_of_ble_eq_true rfl) (Nat.le_of_ble_eq_true rfl) rfl (Nat.le_of_ble_eq_true rfl) rfl rfl dX3_init_9 ?_
  refine y_aload_n g 0 dX3_init_12 rfl rfl ?_
  refine y_iconst (v := 0) g dX3_init_13 (by decide) ?_
  refine y_putN (fs2 := [.ref (rh (JG J) 75), .int 0, .int 0, .int 0, .int 0, .int 0, .int 0, .int 0]) g hI fy_RX3_17 (Nat.le_of_ble_eq_true rfl) (Nat.le_of_ble_eq_true rfl) rfl (Nat.le_of_ble_eq_true rfl) rfl rfl dX3_init_14 ?_
  refine y_aload_n g 0 dX3_init_17 rfl rfl ?_
  refine y_iconst (v := 0) g dX3_init_18 (by decide) ?_
  refine y_putN (fs2 := [.ref (rh (JG J) 75), .int 0, .int 0, .int 0, .int 0, .int 0, .int 0, .int 0]) g hI fy_RX3_21 (Nat.le_of_ble_eq_true rfl) (Nat.le_of_ble_eq_true rfl) rfl (Nat.le_of_ble_eq_true rfl) rfl rfl dX3_init_19 ?_
  refine y_aload_n g 0 dX3_init_22 rfl rfl ?_
  refine y_iconst (v := 0) g dX3_init_23 (by decide) ?_
  refine y_putN (fs2 := [.ref (rh (JG J) 75), .int 0, .int 0, .int 0, .int 0, .int 0, .int 0, .int 0]) g hI fy_RX3_25 (Nat.le_of_ble_eq_true rfl) (Nat.le_of_ble_eq_true rfl) rfl (Nat.le_of_ble_eq_true rfl) rfl rfl dX3_init_24 ?_
  refine y_aload_n g 0 dX3_init_27 rfl rfl ?_
  refine y_iconst (v := 0) g dX3_init_28 (by decide) ?_
  refine y_putN (fs2 := [.ref (rh (JG J) 75), .int 0, .int 0, .int 0, .int 0, .int 0, .int 0, .int 0]) g hI fy_RX3_28 (Nat.le_of_ble_eq_true rfl) (Nat.le_of_ble_eq_true rfl) rfl (Nat.le_of_ble_eq_true rfl) rfl rfl dX3_init_29 ?_
  refine y_aload_n g 0 dX3_init_32 rfl rfl ?_
  refine y_iconst (v := 0) g dX3_init_33 (by decide) ?_
  refine y_putN (fs2 := [.ref (rh (JG J) 75), .int 0, .int 0, .int 0, .int 0, .int 0, .int 0, .int 0]) g hI fy_RX3_31 (Nat.le_of_ble_eq_true rfl) (Nat.le_of_ble_eq_true rfl) rfl (Nat.le_of_ble_eq_true rfl) rfl rfl dX3_init_34 ?_
  refine y_aload_n g 0 dX3_init_37 rfl rfl ?_
  refine y_iconst (v := 0) g dX3_init_38 (by decide) ?_
  refine y_putN (fs2 := [.ref (rh (JG J) 75), .int 0, .int 0, .int 0, .int 0, .int 0, .int 0, .int 0]) g hI fy_RX3_34 (Nat.le_of_ble_eq_true rfl) (Nat.le_of_ble_eq_true rfl) rfl (Nat.le_of_ble_eq_true rfl) rfl rfl dX3_init_39 ?_
  refine y_aload_n g 0 dX3_init_42 rfl rfl ?_
  refine y_iconst (v := 0) g dX3_init_43 (by decide) ?_
  refine y_putN (fs2 := [.ref (rh (JG J) 75), .int 0, .int 0, .int 0, .int 0, .int 0, .int 0, .int 0]) g hI fy_RX3_37 (Nat.le_of_ble_eq_true rfl) (Nat.le_of_ble_eq_true rfl) rfl (Nat.le_of_ble_eq_true rfl) rfl rfl dX3_init_44 ?_
  refine y_cv (C2 := cat (JG J) C 74 76) (fun g hg => by
      by_cases hlt : g < 74
      · refine Or.inl ?_
        simp only [upC, cat]
        repeat rw [if_neg (by omega)]
      · obtain ⟨k, rfl⟩ : ∃ k, g = 74 + k := ⟨g - 74, by omega⟩
        have hk : k < 2 := by omega
        clear hlt hg
        exact (match k, hk with | 0, _ => Or.inl rfl | 1, _ => Or.inl rfl | k + 2, hk => absurd hk (by omega))) ?_
  exact y_vret g hr rfl (Nat.le_of_ble_eq_true rfl) dX3_init_47
set_option maxRecDepth 100000 in
set_option maxHeartbeats 8000000 in
theorem kc_76 (l : Launch) (G : GT) (hlin : Lin G) {C : Cm} (hC : C 76 = .inr (3, [.null, .int 0, .int 0, .int 0, .int 0, .int 0, .int 0, .int 0])) : OkC l G yX3_init cX3_init 1 1 30 1 60 76 77 C 78 (cat G C 76 78) := by
  refine OkC.ofY (by decide) rfl (Nat.le_of_ble_eq_true rfl) hlin (fun J g hI hr hG hl hR hRc hn => ?_)
  subst hG
  refine y_cv (C2 := upC C 76 (.inr (3, [.null, .int 0, .int 0, .int 0, .int 0, .int 0, .int 0, .int 0]))) (fun g _ => Or.inl <| by
    unfold upC
    by_cases h : g = 76
    · rw [h, if_pos rfl, hC]
    · rw [if_neg h]) ?_
  refine y_aload_n g 0 dX3_init_0 rfl rfl ?_
  refine y_objI g hR lo_RX3_3 ok_oin ok_oco (Nat.le_of_ble_eq_true rfl) (Nat.le_of_ble_eq_true rfl) dX3_init_1 ?_
  refine y_aload_n g 0 dX3_init_4 rfl rfl ?_
  refine y_bipush (v := 60) g dX3_init_5 (by decide) ?_
  refine y_new_int (N := 60) g rfl (Nat.le_of_ble_eq_true rfl) hRc okA_int (by decide) (by decide) (Nat.le_of_ble_eq_true rfl) (Nat.le_of_ble_eq_true rfl) (Nat.le_of_ble_eq_true rfl) dX3_init_7 ?_
  refine y_swN (by decide) ?_
  refine y_putN (fs2 := [.ref (rh (JG J) 77), .int 0, .int 0, .int 0, .int 0, .int 0, .int 0, .int 0]) g hI fy_RX3_11 (Nat.le_of_ble_eq_true rfl) (Nat.le_of_ble_eq_true rfl) rfl (Nat.le_of_ble_eq_true rfl) rfl rfl dX3_init_9 ?_
  refine y_aload_n g 0 dX3_init_12 rfl rfl ?_
  refine y_iconst (v := 0) g dX3_init_13 (by decide) ?_
  refine y_putN (fs2 := [.ref (rh (JG J) 77), .int 0, .int 0, .int 0, .int 0, .int 0, .int 0, .int 0]) g hI fy_RX3_17 (Nat.le_of_ble_eq_true rfl) (Nat.le_of_ble_eq_true rfl) rfl (Nat.le_of_ble_eq_true rfl) rfl rfl dX3_init_14 ?_
  refine y_aload_n g 0 dX3_init_17 rfl rfl ?_
  refine y_iconst (v := 0) g dX3_init_18 (by decide) ?_
  refine y_putN (fs2 := [.ref (rh (JG J) 77), .int 0, .int 0, .int 0, .int 0, .int 0, .int 0, .int 0]) g hI fy_RX3_21 (Nat.le_of_ble_eq_true rfl) (Nat.le_of_ble_eq_true rfl) rfl (Nat.le_of_ble_eq_true rfl) rfl rfl dX3_init_19 ?_
  refine y_aload_n g 0 dX3_init_22 rfl rfl ?_
  refine y_iconst (v := 0) g dX3_init_23 (by decide) ?_
  refine y_putN (fs2 := [.ref (rh (JG J) 77), .int 0, .int 0, .int 0, .int 0, .int 0, .int 0, .int 0]) g hI fy_RX3_25 (Nat.le_of_ble_eq_true rfl) (Nat.le_of_ble_eq_true rfl) rfl (Nat.le_of_ble_eq_true rfl) rfl rfl dX3_init_24 ?_
  refine y_aload_n g 0 dX3_init_27 rfl rfl ?_
  refine y_iconst (v := 0) g dX3_init_28 (by decide) ?_
  refine y_putN (fs2 := [.ref (rh (JG J) 77), .int 0, .int 0, .int 0, .int 0, .int 0, .int 0, .int 0]) g hI fy_RX3_28 (Nat.le_of_ble_eq_true rfl) (Nat.le_of_ble_eq_true rfl) rfl (Nat.le_of_ble_eq_true rfl) rfl rfl dX3_init_29 ?_
  refine y_aload_n g 0 dX3_init_32 rfl rfl ?_
  refine y_iconst (v := 0) g dX3_init_33 (by decide) ?_
  refine y_putN (fs2 := [.ref (rh (JG J) 77), .int 0, .int 0, .int 0, .int 0, .int 0, .int 0, .int 0]) g hI fy_RX3_31 (Nat.le_of_ble_eq_true rfl) (Nat.le_of_ble_eq_true rfl) rfl (Nat.le_of_ble_eq_true rfl) rfl rfl dX3_init_34 ?_
  refine y_aload_n g 0 dX3_init_37 rfl rfl ?_
  refine y_iconst (v := 0) g dX3_init_38 (by decide) ?_
  refine y_putN (fs2 := [.ref (rh (JG J) 77), .int 0, .int 0, .int 0, .int 0, .int 0, .int 0, .int 0]) g hI fy_RX3_34 (Nat.le_of_ble_eq_true rfl) (Nat.le_of_ble_eq_true rfl) rfl (Nat.le_of_ble_eq_true rfl) rfl rfl dX3_init_39 ?_
  refine y_aload_n g 0 dX3_init_42 rfl rfl ?_
  refine y_iconst (v := 0) g dX3_init_43 (by decide) ?_
  refine y_putN (fs2 := [.ref (rh (JG J) 77), .int 0, .int 0, .int 0, .int 0, .int 0, .int 0, .int 0]) g hI fy_RX3_37 (Nat.le_of_ble_eq_true rfl) (Nat.le_of_ble_eq_true rfl) rfl (Nat.le_of_ble_eq_true rfl) rfl rfl dX3_init_44 ?_
  refine y_cv (C2 := cat (JG J) C 76 78) (fun g hg => by
      by_cases hlt : g < 76
      · refine Or.inl ?_
        simp only [upC, cat]
        repeat rw [if_neg (by omega)]
      · obtain ⟨k, rfl⟩ : ∃ k, g = 76 + k := ⟨g - 76, by omega⟩
        have hk : k < 2 := by omega
        clear hlt hg
        exact (match k, hk with | 0, _ => Or.inl rfl | 1, _ => Or.inl rfl | k + 2, hk => absurd hk (by omega))) ?_
  exact y_vret g hr rfl (Nat.le_of_ble_eq_true rfl) dX3_init_47
set_option maxRecDepth 100000 in
set_option maxHeartbeats 8000000 in
theorem kc_78 (l : Launch) (G : GT) (hlin : Lin G) {C : Cm} (hC : C 78 = .inr (7, [.null, .int 0, .int 0])) : OkC l G yX7_init cX7_init 1 1 30 1 60 78 79 C 80 (cat G C 78 80) := by
  refine OkC.ofY (by decide) rfl (Nat.le_of_ble_eq_true rfl) hlin (fun J g hI hr hG hl hR hRc hn => ?_)
  subst hG
  refine y_cv (C2 := upC C 78 (.inr (7, [.null, .int 0, .int 0]))) (fun g _ => Or.inl <| by
    unfold upC
    by_cases h : g = 78
    · rw [h, if_pos rfl, hC]
    · rw [if_neg h]) ?_
  refine y_aload_n g 0 dX7_init_0 rfl rfl ?_
  refine y_objI g hR lo_RX7_3 ok_oin ok_oco (Nat.le_of_ble_eq_true rfl) (Nat.le_of_ble_eq_true rfl) dX7_init_1 ?_
  refine y_aload_n g 0 dX7_init_4 rfl rfl ?_
  refine y_bipush (v := 60) g dX7_init_5 (by decide) ?_
  refine y_new_long (N := 60) g rfl (Nat.le_of_ble_eq_true rfl) hRc okA_long (by decide) (by decide) (Nat.le_of_ble_eq_true rfl) (Nat.le_of_ble_eq_true rfl) (Nat.le_of_ble_eq_true rfl) dX7_init_7 ?_
  refine y_swN (by decide) ?_
  refine y_putN (fs2 := [.ref (rh (JG J) 79), .int 0, .int 0]) g hI fy_RX7_9 (Nat.le_of_ble_eq_true rfl) (Nat.le_of_ble_eq_true rfl) rfl (Nat.le_of_ble_eq_true rfl) rfl rfl dX7_init_9 ?_
  refine y_aload_n g 0 dX7_init_12 rfl rfl ?_
  refine y_iconst (v := 0) g dX7_init_13 (by decide) ?_
  refine y_putN (fs2 := [.ref (rh (JG J) 79), .int 0, .int 0]) g hI fy_RX7_15 (Nat.le_of_ble_eq_true rfl) (Nat.le_of_ble_eq_true rfl) rfl (Nat.le_of_ble_eq_true rfl) rfl rfl dX7_init_14 ?_
  refine y_aload_n g 0 dX7_init_17 rfl rfl ?_
  refine y_iconst (v := -1) g dX7_init_18 (by decide) ?_
  refine y_putN (fs2 := [.ref (rh (JG J) 79), .int 0, .int (-1)]) g hI fy_RX7_19 (Nat.le_of_ble_eq_true rfl) (Nat.le_of_ble_eq_true rfl) rfl (Nat.le_of_ble_eq_true rfl) rfl rfl dX7_init_19 ?_
  refine y_cv (C2 := cat (JG J) C 78 80) (fun g hg => by
      by_cases hlt : g < 78
      · refine Or.inl ?_
        simp only [upC, cat]
        repeat rw [if_neg (by omega)]
      · obtain ⟨k, rfl⟩ : ∃ k, g = 78 + k := ⟨g - 78, by omega⟩
        have hk : k < 2 := by omega
        clear hlt hg
        exact (match k, hk with | 0, _ => Or.inl rfl | 1, _ => Or.inl rfl | k + 2, hk => absurd hk (by omega))) ?_
  exact y_vret g hr rfl (Nat.le_of_ble_eq_true rfl) dX7_init_22
set_option maxRecDepth 100000 in
set_option maxHeartbeats 8000000 in
theorem kc_80 (l : Launch) (G : GT) (hlin : Lin G) {C : Cm} (hC : C 80 = .inr (7, [.null, .int 0, .int 0])) : OkC l G yX7_init cX7_init 1 1 30 1 60 80 81 C 82 (cat G C 80 82) := by
  refine OkC.ofY (by decide) rfl (Nat.le_of_ble_eq_true rfl) hlin (fun J g hI hr hG hl hR hRc hn => ?_)
  subst hG
  refine y_cv (C2 := upC C 80 (.inr (7, [.null, .int 0, .int 0]))) (fun g _ => Or.inl <| by
    unfold upC
    by_cases h : g = 80
    · rw [h, if_pos rfl, hC]
    · rw [if_neg h]) ?_
  refine y_aload_n g 0 dX7_init_0 rfl rfl ?_
  refine y_objI g hR lo_RX7_3 ok_oin ok_oco (Nat.le_of_ble_eq_true rfl) (Nat.le_of_ble_eq_true rfl) dX7_init_1 ?_
  refine y_aload_n g 0 dX7_init_4 rfl rfl ?_
  refine y_bipush (v := 60) g dX7_init_5 (by decide) ?_
  refine y_new_long (N := 60) g rfl (Nat.le_of_ble_eq_true rfl) hRc okA_long (by decide) (by decide) (Nat.le_of_ble_eq_true rfl) (Nat.le_of_ble_eq_true rfl) (Nat.le_of_ble_eq_true rfl) dX7_init_7 ?_
  refine y_swN (by decide) ?_
  refine y_putN (fs2 := [.ref (rh (JG J) 81), .int 0, .int 0]) g hI fy_RX7_9 (Nat.le_of_ble_eq_true rfl) (Nat.le_of_ble_eq_true rfl) rfl (Nat.le_of_ble_eq_true rfl) rfl rfl dX7_init_9 ?_
  refine y_aload_n g 0 dX7_init_12 rfl rfl ?_
  refine y_iconst (v := 0) g dX7_init_13 (by decide) ?_
  refine y_putN (fs2 := [.ref (rh (JG J) 81), .int 0, .int 0]) g hI fy_RX7_15 (Nat.le_of_ble_eq_true rfl) (Nat.le_of_ble_eq_true rfl) rfl (Nat.le_of_ble_eq_true rfl) rfl rfl dX7_init_14 ?_
  refine y_aload_n g 0 dX7_init_17 rfl rfl ?_
  refine y_iconst (v := -1) g dX7_init_18 (by decide) ?_
  refine y_putN (fs2 := [.ref (rh (JG J) 81), .int 0, .int (-1)]) g hI fy_RX7_19 (Nat.le_of_ble_eq_true rfl) (Nat.le_of_ble_eq_true rfl) rfl (Nat.le_of_ble_eq_true rfl) rfl rfl dX7_init_19 ?_
  refine y_cv (C2 := cat (JG J) C 80 82) (fun g hg => by
      by_cases hlt : g < 80
      · refine Or.inl ?_
        simp only [upC, cat]
        repeat rw [if_neg (by omega)]
      · obtain ⟨k, rfl⟩ : ∃ k, g = 80 + k := ⟨g - 80, by omega⟩
        have hk : k < 2 := by omega
        clear hlt hg
        exact (match k, hk with | 0, _ => Or.inl rfl | 1, _ => Or.inl rfl | k + 2, hk => absurd hk (by omega))) ?_
  exact y_vret g hr rfl (Nat.le_of_ble_eq_true rfl) dX7_init_22
set_option maxRecDepth 100000 in
set_option maxHeartbeats 8000000 in
theorem kc_82 (l : Launch) (G : GT) (hlin : Lin G) {C : Cm} (hC : C 82 = .inr (7, [.null, .int 0, .int 0])) : OkC l G yX7_init cX7_init 1 1 30 1 60 82 83 C 84 (cat G C 82 84) := by
  refine OkC.ofY (by decide) rfl (Nat.le_of_ble_eq_true rfl) hlin (fun J g hI hr hG hl hR hRc hn => ?_)
  subst hG
  refine y_cv (C2 := upC C 82 (.inr (7, [.null, .int 0, .int 0]))) (fun g _ => Or.inl <| by
    unfold upC
    by_cases h : g = 82
    · rw [h, if_pos rfl, hC]
    · rw [if_neg h]) ?_
  refine y_aload_n g 0 dX7_init_0 rfl rfl ?_
  refine y_objI g hR lo_RX7_3 ok_oin ok_oco (Nat.le_of_ble_eq_true rfl) (Nat.le_of_ble_eq_true rfl) dX7_init_1 ?_
  refine y_aload_n g 0 dX7_init_4 rfl rfl ?_
  refine y_bipush (v := 60) g dX7_init_5 (by decide) ?_
  refine y_new_long (N := 60) g rfl (Nat.le_of_ble_eq_true rfl) hRc okA_long (by decide) (by decide) (Nat.le_of_ble_eq_true rfl) (Nat.le_of_ble_eq_true rfl) (Nat.le_of_ble_eq_true rfl) dX7_init_7 ?_
  refine y_swN (by decide) ?_
  refine y_putN (fs2 := [.ref (rh (JG J) 83), .int 0, .int 0]) g hI fy_RX7_9 (Nat.le_of_ble_eq_true rfl) (Nat.le_of_ble_eq_true rfl) rfl (Nat.le_of_ble_eq_true rfl) rfl rfl dX7_init_9 ?_
  refine y_aload_n g 0 dX7_init_12 rfl rfl ?_
  refine y_iconst (v := 0) g dX7_init_13 (by decide) ?_
  refine y_putN (fs2 := [.ref (rh (JG J) 83), .int 0, .int 0]) g hI fy_RX7_15 (Nat.le_of_ble_eq_true rfl) (Nat.le_of_ble_eq_true rfl) rfl (Nat.le_of_ble_eq_true rfl) rfl rfl dX7_init_14 ?_
  refine y_aload_n g 0 dX7_init_17 rfl rfl ?_
  refine y_iconst (v := -1) g dX7_init_18 (by decide) ?_
  refine y_putN (fs2 := [.ref (rh (JG J) 83), .int 0, .int (-1)]) g hI fy_RX7_19 (Nat.le_of_ble_eq_true rfl) (Nat.le_of_ble_eq_true rfl) rfl (Nat.le_of_ble_eq_true rfl) rfl rfl dX7_init_19 ?_
  refine y_cv (C2 := cat (JG J) C 82 84) (fun g hg => by
      by_cases hlt : g < 82
      · refine Or.inl ?_
        simp only [upC, cat]
        repeat rw [if_neg (by omega)]
      · obtain ⟨k, rfl⟩ : ∃ k, g = 82 + k := ⟨g - 82, by omega⟩
        have hk : k < 2 := by omega
        clear hlt hg
        exact (match k, hk with | 0, _ => Or.inl rfl | 1, _ => Or.inl rfl | k + 2, hk => absurd hk (by omega))) ?_
  exact y_vret g hr rfl (Nat.le_of_ble_eq_true rfl) dX7_init_22
set_option maxRecDepth 100000 in
set_option maxHeartbeats 8000000 in
theorem kc_84 (l : Launch) (G : GT) (hlin : Lin G) {C : Cm} (hC : C 84 = .inr (7, [.null, .int 0, .int 0])) : OkC l G yX7_init cX7_init 1 1 30 1 60 84 85 C 86 (cat G C 84 86) := by
  refine OkC.ofY (by decide) rfl (Nat.le_of_ble_eq_true rfl) hlin (fun J g hI hr hG hl hR hRc hn => ?_)
  subst hG
  refine y_cv (C2 := upC C 84 (.inr (7, [.null, .int 0, .int 0]))) (fun g _ => Or.inl <| by
    unfold upC
    by_cases h : g = 84
    · rw [h, if_pos rfl, hC]
    · rw [if_neg h]) ?_
  refine y_aload_n g 0 dX7_init_0 rfl rfl ?_
  refine y_objI g hR lo_RX7_3 ok_oin ok_oco (Nat.le_of_ble_eq_true rfl) (Nat.le_of_ble_eq_true rfl) dX7_init_1 ?_
  refine y_aload_n g 0 dX7_init_4 rfl rfl ?_
  refine y_bipush (v := 60) g dX7_init_5 (by decide) ?_
  refine y_new_long (N := 60) g rfl (Nat.le_of_ble_eq_true rfl) hRc okA_long (by decide) (by decide) (Nat.le_of_ble_eq_true rfl) (Nat.le_of_ble_eq_true rfl) (Nat.le_of_ble_eq_true rfl) dX7_init_7 ?_
  refine y_swN (by decide) ?_
  refine y_putN (fs2 := [.ref (rh (JG J) 85), .int 0, .int 0]) g hI fy_RX7_9 (Nat.le_of_ble_eq_true rfl) (Nat.le_of_ble_eq_true rfl) rfl (Nat.le_of_ble_eq_true rfl) rfl rfl dX7_init_9 ?_
  refine y_aload_n g 0 dX7_init_12 rfl rfl ?_
  refine y_iconst (v := 0) g dX7_init_13 (by decide) ?_
  refine y_putN (fs2 := [.ref (rh (JG J) 85), .int 0, .int 0]) g hI fy_RX7_15 (Nat.le_of_ble_eq_true rfl) (Nat.le_of_ble_eq_true rfl) rfl (Nat.le_of_ble_eq_true rfl) rfl rfl dX7_init_14 ?_
  refine y_aload_n g 0 dX7_init_17 rfl rfl ?_
  refine y_iconst (v := -1) g dX7_init_18 (by decide) ?_
  refine y_putN (fs2 := [.ref (rh (JG J) 85), .int 0, .int (-1)]) g hI fy_RX7_19 (Nat.le_of_ble_eq_true rfl) (Nat.le_of_ble_eq_true rfl) rfl (Nat.le_of_ble_eq_true rfl) rfl rfl dX7_init_19 ?_
  refine y_cv (C2 := cat (JG J) C 84 86) (fun g hg => by
      by_cases hlt : g < 84
      · refine Or.inl ?_
        simp only [upC, cat]
        repeat rw [if_neg (by omega)]
      · obtain ⟨k, rfl⟩ : ∃ k, g = 84 + k := ⟨g - 84, by omega⟩
        have hk : k < 2 := by omega
        clear hlt hg
        exact (match k, hk with | 0, _ => Or.inl rfl | 1, _ => Or.inl rfl | k + 2, hk => absurd hk (by omega))) ?_
  exact y_vret g hr rfl (Nat.le_of_ble_eq_true rfl) dX7_init_22
set_option maxRecDepth 100000 in
set_option maxHeartbeats 8000000 in
theorem kc_54 (l : Launch) (G : GT) (hlin : Lin G) {C : Cm} (hC : C 54 = .inr (5, [.null, .null, .int 0, .int 0])) : OkC l G yX5_init cX5_init 1 1 30 2 181 54 55 C 57 (cat G C 54 57) := by
  refine OkC.ofY (by decide) rfl (Nat.le_of_ble_eq_true rfl) hlin (fun J g hI hr hG hl hR hRc hn => ?_)
  subst hG
  refine y_cv (C2 := upC C 54 (.inr (5, [.null, .null, .int 0, .int 0]))) (fun g _ => Or.inl <| by
    unfold upC
    by_cases h : g = 54
    · rw [h, if_pos rfl, hC]
    · rw [if_neg h]) ?_
  refine y_aload_n g 0 dX5_init_0 rfl rfl ?_
  refine y_objI g hR lo_RX5_3 ok_oin ok_oco (Nat.le_of_ble_eq_true rfl) (Nat.le_of_ble_eq_true rfl) dX5_init_1 ?_
  refine y_aload_n g 0 dX5_init_4 rfl rfl ?_
  refine y_sipush (v := 169) g dX5_init_5 (by decide) ?_
  refine y_new_int (N := 169) g rfl (Nat.le_of_ble_eq_true rfl) hRc okA_int (by decide) (by decide) (Nat.le_of_ble_eq_true rfl) (Nat.le_of_ble_eq_true rfl) (Nat.le_of_ble_eq_true rfl) dX5_init_8 ?_
  refine y_swN (by decide) ?_
  refine y_putN (fs2 := [.ref (rh (JG J) 55), .null, .int 0, .int 0]) g hI fy_RX5_11 (Nat.le_of_ble_eq_true rfl) (Nat.le_of_ble_eq_true rfl) rfl (Nat.le_of_ble_eq_true rfl) rfl rfl dX5_init_10 ?_
  refine y_aload_n g 0 dX5_init_13 rfl rfl ?_
  refine y_bipush (v := 12) g dX5_init_14 (by decide) ?_
  refine y_new_int (N := 12) g rfl (Nat.le_of_ble_eq_true rfl) hRc okA_int (by decide) (by decide) (Nat.le_of_ble_eq_true rfl) (Nat.le_of_ble_eq_true rfl) (Nat.le_of_ble_eq_true rfl) dX5_init_16 ?_
  refine y_swN (by decide) ?_
  refine y_putN (fs2 := [.ref (rh (JG J) 55), .ref (rh (JG J) 56), .int 0, .int 0]) g hI fy_RX5_15 (Nat.le_of_ble_eq_true rfl) (Nat.le_of_ble_eq_true rfl) rfl (Nat.le_of_ble_eq_true rfl) rfl rfl dX5_init_18 ?_
  refine y_aload_n g 0 dX5_init_21 rfl rfl ?_
  refine y_iconst (v := -1) g dX5_init_22 (by decide) ?_
  refine y_putN (fs2 := [.ref (rh (JG J) 55), .ref (rh (JG J) 56), .int (-1), .int 0]) g hI fy_RX5_18 (Nat.le_of_ble_eq_true rfl) (Nat.le_of_ble_eq_true rfl) rfl (Nat.le_of_ble_eq_true rfl) rfl rfl dX5_init_23 ?_
  refine y_aload_n g 0 dX5_init_26 rfl rfl ?_
  refine y_iconst (v := 0) g dX5_init_27 (by decide) ?_
  refine y_putN (fs2 := [.ref (rh (JG J) 55), .ref (rh (JG J) 56), .int (-1), .int 0]) g hI fy_RX5_22 (Nat.le_of_ble_eq_true rfl) (Nat.le_of_ble_eq_true rfl) rfl (Nat.le_of_ble_eq_true rfl) rfl rfl dX5_init_28 ?_
  refine y_cv (C2 := cat (JG J) C 54 57) (fun g hg => by
      by_cases hlt : g < 54
      · refine Or.inl ?_
        simp only [upC, cat]
        repeat rw [if_neg (by omega)]
      · obtain ⟨k, rfl⟩ : ∃ k, g = 54 + k := ⟨g - 54, by omega⟩
        have hk : k < 3 := by omega
        clear hlt hg
        exact (match k, hk with | 0, _ => Or.inl rfl | 1, _ => Or.inl rfl | 2, _ => Or.inl rfl | k + 3, hk => absurd hk (by omega))) ?_
  exact y_vret g hr rfl (Nat.le_of_ble_eq_true rfl) dX5_init_31
set_option maxRecDepth 100000 in
set_option maxHeartbeats 8000000 in
theorem kc_58 (l : Launch) (G : GT) (hlin : Lin G) {C : Cm} (hC : C 58 = .inr (5, [.null, .null, .int 0, .int 0])) : OkC l G yX5_init cX5_init 1 1 30 2 181 58 59 C 61 (cat G C 58 61) := by
  refine OkC.ofY (by decide) rfl (Nat.le_of_ble_eq_true rfl) hlin (fun J g hI hr hG hl hR hRc hn => ?_)
  subst hG
  refine y_cv (C2 := upC C 58 (.inr (5, [.null, .null, .int 0, .int 0]))) (fun g _ => Or.inl <| by
    unfold upC
    by_cases h : g = 58
    · rw [h, if_pos rfl, hC]
    · rw [if_neg h]) ?_
  refine y_aload_n g 0 dX5_init_0 rfl rfl ?_
  refine y_objI g hR lo_RX5_3 ok_oin ok_oco (Nat.le_of_ble_eq_true rfl) (Nat.le_of_ble_eq_true rfl) dX5_init_1 ?_
  refine y_aload_n g 0 dX5_init_4 rfl rfl ?_
  refine y_sipush (v := 169) g dX5_init_5 (by decide) ?_
  refine y_new_int (N := 169) g rfl (Nat.le_of_ble_eq_true rfl) hRc okA_int (by decide) (by decide) (Nat.le_of_ble_eq_true rfl) (Nat.le_of_ble_eq_true rfl) (Nat.le_of_ble_eq_true rfl) dX5_init_8 ?_
  refine y_swN (by decide) ?_
  refine y_putN (fs2 := [.ref (rh (JG J) 59), .null, .int 0, .int 0]) g hI fy_RX5_11 (Nat.le_of_ble_eq_true rfl) (Nat.le_of_ble_eq_true rfl) rfl (Nat.le_of_ble_eq_true rfl) rfl rfl dX5_init_10 ?_
  refine y_aload_n g 0 dX5_init_13 rfl rfl ?_
  refine y_bipush (v := 12) g dX5_init_14 (by decide) ?_
  refine y_new_int (N := 12) g rfl (Nat.le_of_ble_eq_true rfl) hRc okA_int (by decide) (by decide) (Nat.le_of_ble_eq_true rfl) (Nat.le_of_ble_eq_true rfl) (Nat.le_of_ble_eq_true rfl) dX5_init_16 ?_
  refine y_swN (by decide) ?_
  refine y_putN (fs2 := [.ref (rh (JG J) 59), .ref (rh (JG J) 60), .int 0, .int 0]) g hI fy_RX5_15 (Nat.le_of_ble_eq_true rfl) (Nat.le_of_ble_eq_true rfl) rfl (Nat.le_of_ble_eq_true rfl) rfl rfl dX5_init_18 ?_
  refine y_aload_n g 0 dX5_init_21 rfl rfl ?_
  refine y_iconst (v := -1) g dX5_init_22 (by decide) ?_
  refine y_putN (fs2 := [.ref (rh (JG J) 59), .ref (rh (JG J) 60), .int (-1), .int 0]) g hI fy_RX5_18 (Nat.le_of_ble_eq_true rfl) (Nat.le_of_ble_eq_true rfl) rfl (Nat.le_of_ble_eq_true rfl) rfl rfl dX5_init_23 ?_
  refine y_aload_n g 0 dX5_init_26 rfl rfl ?_
  refine y_iconst (v := 0) g dX5_init_27 (by decide) ?_
  refine y_putN (fs2 := [.ref (rh (JG J) 59), .ref (rh (JG J) 60), .int (-1), .int 0]) g hI fy_RX5_22 (Nat.le_of_ble_eq_true rfl) (Nat.le_of_ble_eq_true rfl) rfl (Nat.le_of_ble_eq_true rfl) rfl rfl dX5_init_28 ?_
  refine y_cv (C2 := cat (JG J) C 58 61) (fun g hg => by
      by_cases hlt : g < 58
      · refine Or.inl ?_
        simp only [upC, cat]
        repeat rw [if_neg (by omega)]
      · obtain ⟨k, rfl⟩ : ∃ k, g = 58 + k := ⟨g - 58, by omega⟩
        have hk : k < 3 := by omega
        clear hlt hg
        exact (match k, hk with | 0, _ => Or.inl rfl | 1, _ => Or.inl rfl | 2, _ => Or.inl rfl | k + 3, hk => absurd hk (by omega))) ?_
  exact y_vret g hr rfl (Nat.le_of_ble_eq_true rfl) dX5_init_31
set_option maxRecDepth 100000 in
set_option maxHeartbeats 8000000 in
theorem kc_71 (l : Launch) (G : GT) (hlin : Lin G) {C : Cm} (hC : C 71 = .inr (4, [.null, .int 0, .null])) : OkC l G yX4_init cX4_init 1 1 30 2 140 71 72 C 74 (cat G C 71 74) := by
  refine OkC.ofY (by decide) rfl (Nat.le_of_ble_eq_true rfl) hlin (fun J g hI hr hG hl hR hRc hn => ?_)
  subst hG
  refine y_cv (C2 := upC C 71 (.inr (4, [.null, .int 0, .null]))) (fun g _ => Or.inl <| by
    unfold upC
    by_cases h : g = 71
    · rw [h, if_pos rfl, hC]
    · rw [if_neg h]) ?_
  refine y_aload_n g 0 dX4_init_0 rfl rfl ?_
  refine y_objI g hR lo_RX4_3 ok_oin ok_oco (Nat.le_of_ble_eq_true rfl) (Nat.le_of_ble_eq_true rfl) dX4_init_1 ?_
  refine y_aload_n g 0 dX4_init_4 rfl rfl ?_
  refine y_bipush (v := 60) g dX4_init_5 (by decide) ?_
  refine y_new_int (N := 60) g rfl (Nat.le_of_ble_eq_true rfl) hRc okA_int (by decide) (by decide) (Nat.le_of_ble_eq_true rfl) (Nat.le_of_ble_eq_true rfl) (Nat.le_of_ble_eq_true rfl) dX4_init_7 ?_
  refine y_swN (by decide) ?_
  refine y_putN (fs2 := [.ref (rh (JG J) 72), .int 0, .null]) g hI fy_RX4_9 (Nat.le_of_ble_eq_true rfl) (Nat.le_of_ble_eq_true rfl) rfl (Nat.le_of_ble_eq_true rfl) rfl rfl dX4_init_9 ?_
  refine y_aload_n g 0 dX4_init_12 rfl rfl ?_
  refine y_iconst (v := 0) g dX4_init_13 (by decide) ?_
  refine y_putN (fs2 := [.ref (rh (JG J) 72), .int 0, .null]) g hI fy_RX4_15 (Nat.le_of_ble_eq_true rfl) (Nat.le_of_ble_eq_true rfl) rfl (Nat.le_of_ble_eq_true rfl) rfl rfl dX4_init_14 ?_
  refine y_aload_n g 0 dX4_init_17 rfl rfl ?_
  refine y_bipush (v := 80) g dX4_init_18 (by decide) ?_
  refine y_new_int (N := 80) g rfl (Nat.le_of_ble_eq_true rfl) hRc okA_int (by decide) (by decide) (Nat.le_of_ble_eq_true rfl) (Nat.le_of_ble_eq_true rfl) (Nat.le_of_ble_eq_true rfl) dX4_init_20 ?_
  refine y_swN (by decide) ?_
  refine y_putN (fs2 := [.ref (rh (JG J) 72), .int 0, .ref (rh (JG J) 73)]) g hI fy_RX4_19 (Nat.le_of_ble_eq_true rfl) (Nat.le_of_ble_eq_true rfl) rfl (Nat.le_of_ble_eq_true rfl) rfl rfl dX4_init_22 ?_
  refine y_cv (C2 := cat (JG J) C 71 74) (fun g hg => by
      by_cases hlt : g < 71
      · refine Or.inl ?_
        simp only [upC, cat]
        repeat rw [if_neg (by omega)]
      · obtain ⟨k, rfl⟩ : ∃ k, g = 71 + k := ⟨g - 71, by omega⟩
        have hk : k < 3 := by omega
        clear hlt hg
        exact (match k, hk with | 0, _ => Or.inl rfl | 1, _ => Or.inl rfl | 2, _ => Or.inl rfl | k + 3, hk => absurd hk (by omega))) ?_
  exact y_vret g hr rfl (Nat.le_of_ble_eq_true rfl) dX4_init_25
set_option maxRecDepth 100000 in
set_option maxHeartbeats 8000000 in
theorem kc_2 (l : Launch) (G : GT) (hlin : Lin G) {C : Cm} (hC : C 2 = .inr (6, [.null, .int 0, .null, .null, .null, .null, .int 0, .int 0, .int 0, .int 0, .int 0])) : OkC l G yX6_init cX6_init 1 1 30 5 4504 2 3 C 8 (cat G C 2 8) := by
  refine OkC.ofY (by decide) rfl (Nat.le_of_ble_eq_true rfl) hlin (fun J g hI hr hG hl hR hRc hn => ?_)
  subst hG
  refine y_cv (C2 := upC C 2 (.inr (6, [.null, .int 0, .null, .null, .null, .null, .int 0, .int 0, .int 0, .int 0, .int 0]))) (fun g _ => Or.inl <| by
    unfold upC
    by_cases h : g = 2
    · rw [h, if_pos rfl, hC]
    · rw [if_neg h]) ?_
  refine y_aload_n g 0 dX6_init_0 rfl rfl ?_
  refine y_objI g hR lo_RX6_3 ok_oin ok_oco (Nat.le_of_ble_eq_true rfl) (Nat.le_of_ble_eq_true rfl) dX6_init_1 ?_
  refine y_aload_n g 0 dX6_init_4 rfl rfl ?_
  refine y_sipush (v := 900) g dX6_init_5 (by decide) ?_
  refine y_new_byte (N := 900) g rfl (Nat.le_of_ble_eq_true rfl) hRc okA_byte (by decide) (by decide) (Nat.le_of_ble_eq_true rfl) (Nat.le_of_ble_eq_true rfl) (Nat.le_of_ble_eq_true rfl) dX6_init_8 ?_
  refine y_swN (by decide) ?_
  refine y_putN (fs2 := [.ref (rh (JG J) 3), .int 0, .null, .null, .null, .null, .int 0, .int 0, .int 0, .int 0, .int 0]) g hI fy_RX6_9 (Nat.le_of_ble_eq_true rfl) (Nat.le_of_ble_eq_true rfl) rfl (Nat.le_of_ble_eq_true rfl) rfl rfl dX6_init_10 ?_
  refine y_aload_n g 0 dX6_init_13 rfl rfl ?_
  refine y_iconst (v := 0) g dX6_init_14 (by decide) ?_
  refine y_putN (fs2 := [.ref (rh (JG J) 3), .int 0, .null, .null, .null, .null, .int 0, .int 0, .int 0, .int 0, .int 0]) g hI fy_RX6_15 (Nat.le_of_ble_eq_true rfl) (Nat.le_of_ble_eq_true rfl) rfl (Nat.le_of_ble_eq_true rfl) rfl rfl dX6_init_15 ?_
  refine y_aload_n g 0 dX6_init_18 rfl rfl ?_
  refine y_sipush (v := 901) g dX6_init_19 (by decide) ?_
  refine y_new_int (N := 901) g rfl (Nat.le_of_ble_eq_true rfl) hRc okA_int (by decide) (by decide) (Nat.le_of_ble_eq_true rfl) (Nat.le_of_ble_eq_true rfl) (Nat.le_of_ble_eq_true rfl) dX6_init_22 ?_
  refine y_swN (by decide) ?_
  refine y_putN (fs2 := [.ref (rh (JG J) 3), .int 0, .ref (rh (JG J) 4), .null, .null, .null, .int 0, .int 0, .int 0, .int 0, .int 0]) g hI fy_RX6_19 (Nat.le_of_ble_eq_true rfl) (Nat.le_of_ble_eq_true rfl) rfl (Nat.le_of_ble_eq_true rfl) rfl rfl dX6_init_24 ?_
  refine y_aload_n g 0 dX6_init_27 rfl rfl ?_
  refine y_sipush (v := 901) g dX6_init_28 (by decide) ?_
  refine y_new_int (N := 901) g rfl (Nat.le_of_ble_eq_true rfl) hRc okA_int (by decide) (by decide) (Nat.le_of_ble_eq_true rfl) (Nat.le_of_ble_eq_true rfl) (Nat.le_of_ble_eq_true rfl) dX6_init_31 ?_
  refine y_swN (by decide) ?_
  refine y_putN (fs2 := [.ref (rh (JG J) 3), .int 0, .ref (rh (JG J) 4), .ref (rh (JG J) 5), .null, .null, .int 0, .int 0, .int 0, .int 0, .int 0]) g hI fy_RX6_23 (Nat.le_of_ble_eq_true rfl) (Nat.le_of_ble_eq_true rfl) rfl (Nat.le_of_ble_eq_true rfl) rfl rfl dX6_init_33 ?_
  refine y_aload_n g 0 dX6_init_36 rfl rfl ?_
  refine y_sipush (v := 901) g dX6_init_37 (by decide) ?_
  refine y_new_int (N := 901) g rfl (Nat.le_of_ble_eq_true rfl) hRc okA_int (by decide) (by decide) (Nat.le_of_ble_eq_true rfl) (Nat.le_of_ble_eq_true rfl) (Nat.le_of_ble_eq_true rfl) dX6_init_40 ?_
  refine y_swN (by decide) ?_
  refine y_putN (fs2 := [.ref (rh (JG J) 3), .int 0, .ref (rh (JG J) 4), .ref (rh (JG J) 5), .ref (rh (JG J) 6), .null, .int 0, .int 0, .int 0, .int 0, .int 0]) g hI fy_RX6_26 (Nat.le_of_ble_eq_true rfl) (Nat.le_of_ble_eq_true rfl) rfl (Nat.le_of_ble_eq_true rfl) rfl rfl dX6_init_42 ?_
  refine y_aload_n g 0 dX6_init_45 rfl rfl ?_
  refine y_sipush (v := 901) g dX6_init_46 (by decide) ?_
  refine y_new_long (N := 901) g rfl (Nat.le_of_ble_eq_true rfl) hRc okA_long (by decide) (by decide) (Nat.le_of_ble_eq_true rfl) (Nat.le_of_ble_eq_true rfl) (Nat.le_of_ble_eq_true rfl) dX6_init_49 ?_
  refine y_swN (by decide) ?_
  refine y_putN (fs2 := [.ref (rh (JG J) 3), .int 0, .ref (rh (JG J) 4), .ref (rh (JG J) 5), .ref (rh (JG J) 6), .ref (rh (JG J) 7), .int 0, .int 0, .int 0, .int 0, .int 0]) g hI fy_RX6_29 (Nat.le_of_ble_eq_true rfl) (Nat.le_of_ble_eq_true rfl) rfl (Nat.le_of_ble_eq_true rfl) rfl rfl dX6_init_51 ?_
  refine y_aload_n g 0 dX6_init_54 rfl rfl ?_
  refine y_iconst (v := 0) g dX6_init_55 (by decide) ?_
  refine y_putN (fs2 := [.ref (rh (JG J) 3), .int 0, .ref (rh (JG J) 4), .ref (rh (JG J) 5), .ref (rh (JG J) 6), .ref (rh (JG J) 7), .int 0, .int 0, .int 0, .int 0, .int 0]) g hI fy_RX6_33 (Nat.le_of_ble_eq_true rfl) (Nat.le_of_ble_eq_true rfl) rfl (Nat.le_of_ble_eq_true rfl) rfl rfl dX6_init_56 ?_
  refine y_aload_n g 0 dX6_init_59 rfl rfl ?_
  refine y_iconst (v := 0) g dX6_init_60 (by decide) ?_
  refine y_putN (fs2 := [.ref (rh (JG J) 3), .int 0, .ref (rh (JG J) 4), .ref (rh (JG J) 5), .ref (rh (JG J) 6), .ref (rh (JG J) 7), .int 0, .int 0, .int 0, .int 0, .int 0]) g hI fy_RX6_36 (Nat.le_of_ble_eq_true rfl) (Nat.le_of_ble_eq_true rfl) rfl (Nat.le_of_ble_eq_true rfl) rfl rfl dX6_init_61 ?_
  refine y_aload_n g 0 dX6_init_64 rfl rfl ?_
  refine y_iconst (v := 0) g dX6_init_65 (by decide) ?_
  refine y_putN (fs2 := [.ref (rh (JG J) 3), .int 0, .ref (rh (JG J) 4), .ref (rh (JG J) 5), .ref (rh (JG J) 6), .ref (rh (JG J) 7), .int 0, .int 0, .int 0, .int 0, .int 0]) g hI fy_RX6_39 (Nat.le_of_ble_eq_true rfl) (Nat.le_of_ble_eq_true rfl) rfl (Nat.le_of_ble_eq_true rfl) rfl rfl dX6_init_66 ?_
  refine y_aload_n g 0 dX6_init_69 rfl rfl ?_
  refine y_iconst (v := 0) g dX6_init_70 (by decide) ?_
  refine y_putN (fs2 := [.ref (rh (JG J) 3), .int 0, .ref (rh (JG J) 4), .ref (rh (JG J) 5), .ref (rh (JG J) 6), .ref (rh (JG J) 7), .int 0, .int 0, .int 0, .int 0, .int 0]) g hI fy_RX6_43 (Nat.le_of_ble_eq_true rfl) (Nat.le_of_ble_eq_true rfl) rfl (Nat.le_of_ble_eq_true rfl) rfl rfl dX6_init_71 ?_
  refine y_aload_n g 0 dX6_init_74 rfl rfl ?_
  refine y_iconst (v := -1) g dX6_init_75 (by decide) ?_
  refine y_putN (fs2 := [.ref (rh (JG J) 3), .int 0, .ref (rh (JG J) 4), .ref (rh (JG J) 5), .ref (rh (JG J) 6), .ref (rh (JG J) 7), .int 0, .int 0, .int 0, .int 0, .int (-1)]) g hI fy_RX6_46 (Nat.le_of_ble_eq_true rfl) (Nat.le_of_ble_eq_true rfl) rfl (Nat.le_of_ble_eq_true rfl) rfl rfl dX6_init_76 ?_
  refine y_cv (C2 := cat (JG J) C 2 8) (fun g hg => by
      by_cases hlt : g < 2
      · refine Or.inl ?_
        simp only [upC, cat]
        repeat rw [if_neg (by omega)]
      · obtain ⟨k, rfl⟩ : ∃ k, g = 2 + k := ⟨g - 2, by omega⟩
        have hk : k < 6 := by omega
        clear hlt hg
        exact (match k, hk with | 0, _ => Or.inl rfl | 1, _ => Or.inl rfl | 2, _ => Or.inl rfl | 3, _ => Or.inl rfl | 4, _ => Or.inl rfl | 5, _ => Or.inl rfl | k + 6, hk => absurd hk (by omega))) ?_
  exact y_vret g hr rfl (Nat.le_of_ble_eq_true rfl) dX6_init_79
set_option maxRecDepth 100000 in
set_option maxHeartbeats 8000000 in
theorem kc_40 (l : Launch) (G : GT) (hlin : Lin G) {C : Cm} (hC : C 40 = .inr (8, [.int 0, .int 0, .int 0, .null, .null, .null, .null, .null])) : OkC l G yX8_init cX8_init 1 1 30 5 300 40 41 C 46 (cat G C 40 46) := by
  refine OkC.ofY (by decide) rfl (Nat.le_of_ble_eq_true rfl) hlin (fun J g hI hr hG hl hR hRc hn => ?_)
  subst hG
  refine y_cv (C2 := upC C 40 (.inr (8, [.int 0, .int 0, .int 0, .null, .null, .null, .null, .null]))) (fun g _ => Or.inl <| by
    unfold upC
    by_cases h : g = 40
    · rw [h, if_pos rfl, hC]
    · rw [if_neg h]) ?_
  refine y_aload_n g 0 dX8_init_0 rfl rfl ?_
  refine y_objI g hR lo_RX8_5 ok_oin ok_oco (Nat.le_of_ble_eq_true rfl) (Nat.le_of_ble_eq_true rfl) dX8_init_1 ?_
  refine y_aload_n g 0 dX8_init_4 rfl rfl ?_
  refine y_iconst (v := 0) g dX8_init_5 (by decide) ?_
  refine y_putN (fs2 := [.int 0, .int 0, .int 0, .null, .null, .null, .null, .null]) g hI fy_RX8_11 (Nat.le_of_ble_eq_true rfl) (Nat.le_of_ble_eq_true rfl) rfl (Nat.le_of_ble_eq_true rfl) rfl rfl dX8_init_6 ?_
  refine y_aload_n g 0 dX8_init_9 rfl rfl ?_
  refine y_iconst (v := 0) g dX8_init_10 (by decide) ?_
  refine y_putN (fs2 := [.int 0, .int 0, .int 0, .null, .null, .null, .null, .null]) g hI fy_RX8_15 (Nat.le_of_ble_eq_true rfl) (Nat.le_of_ble_eq_true rfl) rfl (Nat.le_of_ble_eq_true rfl) rfl rfl dX8_init_11 ?_
  refine y_aload_n g 0 dX8_init_14 rfl rfl ?_
  refine y_iconst (v := 0) g dX8_init_15 (by decide) ?_
  refine y_putN (fs2 := [.int 0, .int 0, .int 0, .null, .null, .null, .null, .null]) g hI fy_RX8_19 (Nat.le_of_ble_eq_true rfl) (Nat.le_of_ble_eq_true rfl) rfl (Nat.le_of_ble_eq_true rfl) rfl rfl dX8_init_16 ?_
  refine y_aload_n g 0 dX8_init_19 rfl rfl ?_
  refine y_bipush (v := 60) g dX8_init_20 (by decide) ?_
  refine y_new_int (N := 60) g rfl (Nat.le_of_ble_eq_true rfl) hRc okA_int (by decide) (by decide) (Nat.le_of_ble_eq_true rfl) (Nat.le_of_ble_eq_true rfl) (Nat.le_of_ble_eq_true rfl) dX8_init_22 ?_
  refine y_swN (by decide) ?_
  refine y_putN (fs2 := [.int 0, .int 0, .int 0, .ref (rh (JG J) 41), .null, .null, .null, .null]) g hI fy_RX8_22 (Nat.le_of_ble_eq_true rfl) (Nat.le_of_ble_eq_true rfl) rfl (Nat.le_of_ble_eq_true rfl) rfl rfl dX8_init_24 ?_
  refine y_aload_n g 0 dX8_init_27 rfl rfl ?_
  refine y_bipush (v := 60) g dX8_init_28 (by decide) ?_
  refine y_new_int (N := 60) g rfl (Nat.le_of_ble_eq_true rfl) hRc okA_int (by decide) (by decide) (Nat.le_of_ble_eq_true rfl) (Nat.le_of_ble_eq_true rfl) (Nat.le_of_ble_eq_true rfl) dX8_init_30 ?_
  refine y_swN (by decide) ?_
  refine y_putN (fs2 := [.int 0, .int 0, .int 0, .ref (rh (JG J) 41), .ref (rh (JG J) 42), .null, .null, .null]) g hI fy_RX8_26 (Nat.le_of_ble_eq_true rfl) (Nat.le_of_ble_eq_true rfl) rfl (Nat.le_of_ble_eq_true rfl) rfl rfl dX8_init_32 ?_
  refine y_aload_n g 0 dX8_init_35 rfl rfl ?_
  refine y_bipush (v := 60) g dX8_init_36 (by decide) ?_
  refine y_new_int (N := 60) g rfl (Nat.le_of_ble_eq_true rfl) hRc okA_int (by decide) (by decide) (Nat.le_of_ble_eq_true rfl) (Nat.le_of_ble_eq_true rfl) (Nat.le_of_ble_eq_true rfl) dX8_init_38 ?_
  refine y_swN (by decide) ?_
  refine y_putN (fs2 := [.int 0, .int 0, .int 0, .ref (rh (JG J) 41), .ref (rh (JG J) 42), .ref (rh (JG J) 43), .null, .null]) g hI fy_RX8_29 (Nat.le_of_ble_eq_true rfl) (Nat.le_of_ble_eq_true rfl) rfl (Nat.le_of_ble_eq_true rfl) rfl rfl dX8_init_40 ?_
  refine y_aload_n g 0 dX8_init_43 rfl rfl ?_
  refine y_bipush (v := 60) g dX8_init_44 (by decide) ?_
  refine y_new_int (N := 60) g rfl (Nat.le_of_ble_eq_true rfl) hRc okA_int (by decide) (by decide) (Nat.le_of_ble_eq_true rfl) (Nat.le_of_ble_eq_true rfl) (Nat.le_of_ble_eq_true rfl) dX8_init_46 ?_
  refine y_swN (by decide) ?_
  refine y_putN (fs2 := [.int 0, .int 0, .int 0, .ref (rh (JG J) 41), .ref (rh (JG J) 42), .ref (rh (JG J) 43), .ref (rh (JG J) 44), .null]) g hI fy_RX8_32 (Nat.le_of_ble_eq_true rfl) (Nat.le_of_ble_eq_true rfl) rfl (Nat.le_of_ble_eq_true rfl) rfl rfl dX8_init_48 ?_
  refine y_aload_n g 0 dX8_init_51 rfl rfl ?_
  refine y_bipush (v := 60) g dX8_init_52 (by decide) ?_
  refine y_new_int (N := 60) g rfl (Nat.le_of_ble_eq_true rfl) hRc okA_int (by decide) (by decide) (Nat.le_of_ble_eq_true rfl) (Nat.le_of_ble_eq_true rfl) (Nat.le_of_ble_eq_true rfl) dX8_init_54 ?_
  refine y_swN (by decide) ?_
  refine y_putN (fs2 := [.int 0, .int 0, .int 0, .ref (rh (JG J) 41), .ref (rh (JG J) 42), .ref (rh (JG J) 43), .ref (rh (JG J) 44), .ref (rh (JG J) 45)]) g hI fy_RX8_35 (Nat.le_of_ble_eq_true rfl) (Nat.le_of_ble_eq_true rfl) rfl (Nat.le_of_ble_eq_true rfl) rfl rfl dX8_init_56 ?_
  refine y_cv (C2 := cat (JG J) C 40 46) (fun g hg => by
      by_cases hlt : g < 40
      · refine Or.inl ?_
        simp only [upC, cat]
        repeat rw [if_neg (by omega)]
      · obtain ⟨k, rfl⟩ : ∃ k, g = 40 + k := ⟨g - 40, by omega⟩
        have hk : k < 6 := by omega
        clear hlt hg
        exact (match k, hk with | 0, _ => Or.inl rfl | 1, _ => Or.inl rfl | 2, _ => Or.inl rfl | 3, _ => Or.inl rfl | 4, _ => Or.inl rfl | 5, _ => Or.inl rfl | k + 6, hk => absurd hk (by omega))) ?_
  exact y_vret g hr rfl (Nat.le_of_ble_eq_true rfl) dX8_init_59
set_option maxRecDepth 100000 in
set_option maxHeartbeats 8000000 in
theorem kc_46 (l : Launch) (G : GT) (hlin : Lin G) {C : Cm} (hC : C 46 = .inr (8, [.int 0, .int 0, .int 0, .null, .null, .null, .null, .null])) : OkC l G yX8_init cX8_init 1 1 30 5 300 46 47 C 52 (cat G C 46 52) := by
  refine OkC.ofY (by decide) rfl (Nat.le_of_ble_eq_true rfl) hlin (fun J g hI hr hG hl hR hRc hn => ?_)
  subst hG
  refine y_cv (C2 := upC C 46 (.inr (8, [.int 0, .int 0, .int 0, .null, .null, .null, .null, .null]))) (fun g _ => Or.inl <| by
    unfold upC
    by_cases h : g = 46
    · rw [h, if_pos rfl, hC]
    · rw [if_neg h]) ?_
  refine y_aload_n g 0 dX8_init_0 rfl rfl ?_
  refine y_objI g hR lo_RX8_5 ok_oin ok_oco (Nat.le_of_ble_eq_true rfl) (Nat.le_of_ble_eq_true rfl) dX8_init_1 ?_
  refine y_aload_n g 0 dX8_init_4 rfl rfl ?_
  refine y_iconst (v := 0) g dX8_init_5 (by decide) ?_
  refine y_putN (fs2 := [.int 0, .int 0, .int 0, .null, .null, .null, .null, .null]) g hI fy_RX8_11 (Nat.le_of_ble_eq_true rfl) (Nat.le_of_ble_eq_true rfl) rfl (Nat.le_of_ble_eq_true rfl) rfl rfl dX8_init_6 ?_
  refine y_aload_n g 0 dX8_init_9 rfl rfl ?_
  refine y_iconst (v := 0) g dX8_init_10 (by decide) ?_
  refine y_putN (fs2 := [.int 0, .int 0, .int 0, .null, .null, .null, .null, .null]) g hI fy_RX8_15 (Nat.le_of_ble_eq_true rfl) (Nat.le_of_ble_eq_true rfl) rfl (Nat.le_of_ble_eq_true rfl) rfl rfl dX8_init_11 ?_
  refine y_aload_n g 0 dX8_init_14 rfl rfl ?_
  refine y_iconst (v := 0) g dX8_init_15 (by decide) ?_
  refine y_putN (fs2 := [.int 0, .int 0, .int 0, .null, .null, .null, .null, .null]) g hI fy_RX8_19 (Nat.le_of_ble_eq_true rfl) (Nat.le_of_ble_eq_true rfl) rfl (Nat.le_of_ble_eq_true rfl) rfl rfl dX8_init_16 ?_
  refine y_aload_n g 0 dX8_init_19 rfl rfl ?_
  refine y_bipush (v := 60) g dX8_init_20 (by decide) ?_
  refine y_new_int (N := 60) g rfl (Nat.le_of_ble_eq_true rfl) hRc okA_int (by decide) (by decide) (Nat.le_of_ble_eq_true rfl) (Nat.le_of_ble_eq_true rfl) (Nat.le_of_ble_eq_true rfl) dX8_init_22 ?_
  refine y_swN (by decide) ?_
  refine y_putN (fs2 := [.int 0, .int 0, .int 0, .ref (rh (JG J) 47), .null, .null, .null, .null]) g hI fy_RX8_22 (Nat.le_of_ble_eq_true rfl) (Nat.le_of_ble_eq_true rfl) rfl (Nat.le_of_ble_eq_true rfl) rfl rfl dX8_init_24 ?_
  refine y_aload_n g 0 dX8_init_27 rfl rfl ?_
  refine y_bipush (v := 60) g dX8_init_28 (by decide) ?_
  refine y_new_int (N := 60) g rfl (Nat.le_of_ble_eq_true rfl) hRc okA_int (by decide) (by decide) (Nat.le_of_ble_eq_true rfl) (Nat.le_of_ble_eq_true rfl) (Nat.le_of_ble_eq_true rfl) dX8_init_30 ?_
  refine y_swN (by decide) ?_
  refine y_putN (fs2 := [.int 0, .int 0, .int 0, .ref (rh (JG J) 47), .ref (rh (JG J) 48), .null, .null, .null]) g hI fy_RX8_26 (Nat.le_of_ble_eq_true rfl) (Nat.le_of_ble_eq_true rfl) rfl (Nat.le_of_ble_eq_true rfl) rfl rfl dX8_init_32 ?_
  refine y_aload_n g 0 dX8_init_35 rfl rfl ?_
  refine y_bipush (v := 60) g dX8_init_36 (by decide) ?_
  refine y_new_int (N := 60) g rfl (Nat.le_of_ble_eq_true rfl) hRc okA_int (by decide) (by decide) (Nat.le_of_ble_eq_true rfl) (Nat.le_of_ble_eq_true rfl) (Nat.le_of_ble_eq_true rfl) dX8_init_38 ?_
  refine y_swN (by decide) ?_
  refine y_putN (fs2 := [.int 0, .int 0, .int 0, .ref (rh (JG J) 47), .ref (rh (JG J) 48), .ref (rh (JG J) 49), .null, .null]) g hI fy_RX8_29 (Nat.le_of_ble_eq_true rfl) (Nat.le_of_ble_eq_true rfl) rfl (Nat.le_of_ble_eq_true rfl) rfl rfl dX8_init_40 ?_
  refine y_aload_n g 0 dX8_init_43 rfl rfl ?_
  refine y_bipush (v := 60) g dX8_init_44 (by decide) ?_
  refine y_new_int (N := 60) g rfl (Nat.le_of_ble_eq_true rfl) hRc okA_int (by decide) (by decide) (Nat.le_of_ble_eq_true rfl) (Nat.le_of_ble_eq_true rfl) (Nat.le_of_ble_eq_true rfl) dX8_init_46 ?_
  refine y_swN (by decide) ?_
  refine y_putN (fs2 := [.int 0, .int 0, .int 0, .ref (rh (JG J) 47), .ref (rh (JG J) 48), .ref (rh (JG J) 49), .ref (rh (JG J) 50), .null]) g hI fy_RX8_32 (Nat.le_of_ble_eq_true rfl) (Nat.le_of_ble_eq_true rfl) rfl (Nat.le_of_ble_eq_true rfl) rfl rfl dX8_init_48 ?_
  refine y_aload_n g 0 dX8_init_51 rfl rfl ?_
  refine y_bipush (v := 60) g dX8_init_52 (by decide) ?_
  refine y_new_int (N := 60) g rfl (Nat.le_of_ble_eq_true rfl) hRc okA_int (by decide) (by decide) (Nat.le_of_ble_eq_true rfl) (Nat.le_of_ble_eq_true rfl) (Nat.le_of_ble_eq_true rfl) dX8_init_54 ?_
  refine y_swN (by decide) ?_
  refine y_putN (fs2 := [.int 0, .int 0, .int 0, .ref (rh (JG J) 47), .ref (rh (JG J) 48), .ref (rh (JG J) 49), .ref (rh (JG J) 50), .ref (rh (JG J) 51)]) g hI fy_RX8_35 (Nat.le_of_ble_eq_true rfl) (Nat.le_of_ble_eq_true rfl) rfl (Nat.le_of_ble_eq_true rfl) rfl rfl dX8_init_56 ?_
  refine y_cv (C2 := cat (JG J) C 46 52) (fun g hg => by
      by_cases hlt : g < 46
      · refine Or.inl ?_
        simp only [upC, cat]
        repeat rw [if_neg (by omega)]
      · obtain ⟨k, rfl⟩ : ∃ k, g = 46 + k := ⟨g - 46, by omega⟩
        have hk : k < 6 := by omega
        clear hlt hg
        exact (match k, hk with | 0, _ => Or.inl rfl | 1, _ => Or.inl rfl | 2, _ => Or.inl rfl | 3, _ => Or.inl rfl | 4, _ => Or.inl rfl | 5, _ => Or.inl rfl | k + 6, hk => absurd hk (by omega))) ?_
  exact y_vret g hr rfl (Nat.le_of_ble_eq_true rfl) dX8_init_59
set_option maxRecDepth 100000 in
set_option maxHeartbeats 8000000 in
theorem kc_100 (l : Launch) (G : GT) (hlin : Lin G) {C : Cm} (hC : C 100 = .inr (8, [.int 0, .int 0, .int 0, .null, .null, .null, .null, .null])) : OkC l G yX8_init cX8_init 1 1 30 5 300 100 101 C 106 (cat G C 100 106) := by
  refine OkC.ofY (by decide) rfl (Nat.le_of_ble_eq_true rfl) hlin (fun J g hI hr hG hl hR hRc hn => ?_)
  subst hG
  refine y_cv (C2 := upC C 100 (.inr (8, [.int 0, .int 0, .int 0, .null, .null, .null, .null, .null]))) (fun g _ => Or.inl <| by
    unfold upC
    by_cases h : g = 100
    · rw [h, if_pos rfl, hC]
    · rw [if_neg h]) ?_
  refine y_aload_n g 0 dX8_init_0 rfl rfl ?_
  refine y_objI g hR lo_RX8_5 ok_oin ok_oco (Nat.le_of_ble_eq_true rfl) (Nat.le_of_ble_eq_true rfl) dX8_init_1 ?_
  refine y_aload_n g 0 dX8_init_4 rfl rfl ?_
  refine y_iconst (v := 0) g dX8_init_5 (by decide) ?_
  refine y_putN (fs2 := [.int 0, .int 0, .int 0, .null, .null, .null, .null, .null]) g hI fy_RX8_11 (Nat.le_of_ble_eq_true rfl) (Nat.le_of_ble_eq_true rfl) rfl (Nat.le_of_ble_eq_true rfl) rfl rfl dX8_init_6 ?_
  refine y_aload_n g 0 dX8_init_9 rfl rfl ?_
  refine y_iconst (v := 0) g dX8_init_10 (by decide) ?_
  refine y_putN (fs2 := [.int 0, .int 0, .int 0, .null, .null, .null, .null, .null]) g hI fy_RX8_15 (Nat.le_of_ble_eq_true rfl) (Nat.le_of_ble_eq_true rfl) rfl (Nat.le_of_ble_eq_true rfl) rfl rfl dX8_init_11 ?_
  refine y_aload_n g 0 dX8_init_14 rfl rfl ?_
  refine y_iconst (v := 0) g dX8_init_15 (by decide) ?_
  refine y_putN (fs2 := [.int 0, .int 0, .int 0, .null, .null, .null, .null, .null]) g hI fy_RX8_19 (Nat.le_of_ble_eq_true rfl) (Nat.le_of_ble_eq_true rfl) rfl (Nat.le_of_ble_eq_true rfl) rfl rfl dX8_init_16 ?_
  refine y_aload_n g 0 dX8_init_19 rfl rfl ?_
  refine y_bipush (v := 60) g dX8_init_20 (by decide) ?_
  refine y_new_int (N := 60) g rfl (Nat.le_of_ble_eq_true rfl) hRc okA_int (by decide) (by decide) (Nat.le_of_ble_eq_true rfl) (Nat.le_of_ble_eq_true rfl) (Nat.le_of_ble_eq_true rfl) dX8_init_22 ?_
  refine y_swN (by decide) ?_
  refine y_putN (fs2 := [.int 0, .int 0, .int 0, .ref (rh (JG J) 101), .null, .null, .null, .null]) g hI fy_RX8_22 (Nat.le_of_ble_eq_true rfl) (Nat.le_of_ble_eq_true rfl) rfl (Nat.le_of_ble_eq_true rfl) rfl rfl dX8_init_24 ?_
  refine y_aload_n g 0 dX8_init_27 rfl rfl ?_
  refine y_bipush (v := 60) g dX8_init_28 (by decide) ?_
  refine y_new_int (N := 60) g rfl (Nat.le_of_ble_eq_true rfl) hRc okA_int (by decide) (by decide) (Nat.le_of_ble_eq_true rfl) (Nat.le_of_ble_eq_true rfl) (Nat.le_of_ble_eq_true rfl) dX8_init_30 ?_
  refine y_swN (by decide) ?_
  refine y_putN (fs2 := [.int 0, .int 0, .int 0, .ref (rh (JG J) 101), .ref (rh (JG J) 102), .null, .null, .null]) g hI fy_RX8_26 (Nat.le_of_ble_eq_true rfl) (Nat.le_of_ble_eq_true rfl) rfl (Nat.le_of_ble_eq_true rfl) rfl rfl dX8_init_32 ?_
  refine y_aload_n g 0 dX8_init_35 rfl rfl ?_
  refine y_bipush (v := 60) g dX8_init_36 (by decide) ?_
  refine y_new_int (N := 60) g rfl (Nat.le_of_ble_eq_true rfl) hRc okA_int (by decide) (by decide) (Nat.le_of_ble_eq_true rfl) (Nat.le_of_ble_eq_true rfl) (Nat.le_of_ble_eq_true rfl) dX8_init_38 ?_
  refine y_swN (by decide) ?_
  refine y_putN (fs2 := [.int 0, .int 0, .int 0, .ref (rh (JG J) 101), .ref (rh (JG J) 102), .ref (rh (JG J) 103), .null, .null]) g hI fy_RX8_29 (Nat.le_of_ble_eq_true rfl) (Nat.le_of_ble_eq_true rfl) rfl (Nat.le_of_ble_eq_true rfl) rfl rfl dX8_init_40 ?_
  refine y_aload_n g 0 dX8_init_43 rfl rfl ?_
  refine y_bipush (v := 60) g dX8_init_44 (by decide) ?_
  refine y_new_int (N := 60) g rfl (Nat.le_of_ble_eq_true rfl) hRc okA_int (by decide) (by decide) (Nat.le_of_ble_eq_true rfl) (Nat.le_of_ble_eq_true rfl) (Nat.le_of_ble_eq_true rfl) dX8_init_46 ?_
  refine y_swN (by decide) ?_
  refine y_putN (fs2 := [.int 0, .int 0, .int 0, .ref (rh (JG J) 101), .ref (rh (JG J) 102), .ref (rh (JG J) 103), .ref (rh (JG J) 104), .null]) g hI fy_RX8_32 (Nat.le_of_ble_eq_true rfl) (Nat.le_of_ble_eq_true rfl) rfl (Nat.le_of_ble_eq_true rfl) rfl rfl dX8_init_48 ?_
  refine y_aload_n g 0 dX8_init_51 rfl rfl ?_
  refine y_bipush (v := 60) g dX8_init_52 (by decide) ?_
  refine y_new_int (N := 60) g rfl (Nat.le_of_ble_eq_true rfl) hRc okA_int (by decide) (by decide) (Nat.le_of_ble_eq_true rfl) (Nat.le_of_ble_eq_true rfl) (Nat.le_of_ble_eq_true rfl) dX8_init_54 ?_
  refine y_swN (by decide) ?_
  refine y_putN (fs2 := [.int 0, .int 0, .int 0, .ref (rh (JG J) 101), .ref (rh (JG J) 102), .ref (rh (JG J) 103), .ref (rh (JG J) 104), .ref (rh (JG J) 105)]) g hI fy_RX8_35 (Nat.le_of_ble_eq_true rfl) (Nat.le_of_ble_eq_true rfl) rfl (Nat.le_of_ble_eq_true rfl) rfl rfl dX8_init_56 ?_
  refine y_cv (C2 := cat (JG J) C 100 106) (fun g hg => by
      by_cases hlt : g < 100
      · refine Or.inl ?_
        simp only [upC, cat]
        repeat rw [if_neg (by omega)]
      · obtain ⟨k, rfl⟩ : ∃ k, g = 100 + k := ⟨g - 100, by omega⟩
        have hk : k < 6 := by omega
        clear hlt hg
        exact (match k, hk with | 0, _ => Or.inl rfl | 1, _ => Or.inl rfl | 2, _ => Or.inl rfl | 3, _ => Or.inl rfl | 4, _ => Or.inl rfl | 5, _ => Or.inl rfl | k + 6, hk => absurd hk (by omega))) ?_
  exact y_vret g hr rfl (Nat.le_of_ble_eq_true rfl) dX8_init_59
set_option maxRecDepth 100000 in
set_option maxHeartbeats 8000000 in
theorem kc_120 (l : Launch) (G : GT) (hlin : Lin G) {C : Cm} (hC : C 120 = .inr (8, [.int 0, .int 0, .int 0, .null, .null, .null, .null, .null])) : OkC l G yX8_init cX8_init 1 1 30 5 300 120 121 C 126 (cat G C 120 126) := by
  refine OkC.ofY (by decide) rfl (Nat.le_of_ble_eq_true rfl) hlin (fun J g hI hr hG hl hR hRc hn => ?_)
  subst hG
  refine y_cv (C2 := upC C 120 (.inr (8, [.int 0, .int 0, .int 0, .null, .null, .null, .null, .null]))) (fun g _ => Or.inl <| by
    unfold upC
    by_cases h : g = 120
    · rw [h, if_pos rfl, hC]
    · rw [if_neg h]) ?_
  refine y_aload_n g 0 dX8_init_0 rfl rfl ?_
  refine y_objI g hR lo_RX8_5 ok_oin ok_oco (Nat.le_of_ble_eq_true rfl) (Nat.le_of_ble_eq_true rfl) dX8_init_1 ?_
  refine y_aload_n g 0 dX8_init_4 rfl rfl ?_
  refine y_iconst (v := 0) g dX8_init_5 (by decide) ?_
  refine y_putN (fs2 := [.int 0, .int 0, .int 0, .null, .null, .null, .null, .null]) g hI fy_RX8_11 (Nat.le_of_ble_eq_true rfl) (Nat.le_of_ble_eq_true rfl) rfl (Nat.le_of_ble_eq_true rfl) rfl rfl dX8_init_6 ?_
  refine y_aload_n g 0 dX8_init_9 rfl rfl ?_
  refine y_iconst (v := 0) g dX8_init_10 (by decide) ?_
  refine y_putN (fs2 := [.int 0, .int 0, .int 0, .null, .null, .null, .null, .null]) g hI fy_RX8_15 (Nat.le_of_ble_eq_true rfl) (Nat.le_of_ble_eq_true rfl) rfl (Nat.le_of_ble_eq_true rfl) rfl rfl dX8_init_11 ?_
  refine y_aload_n g 0 dX8_init_14 rfl rfl ?_
  refine y_iconst (v := 0) g dX8_init_15 (by decide) ?_
  refine y_putN (fs2 := [.int 0, .int 0, .int 0, .null, .null, .null, .null, .null]) g hI fy_RX8_19 (Nat.le_of_ble_eq_true rfl) (Nat.le_of_ble_eq_true rfl) rfl (Nat.le_of_ble_eq_true rfl) rfl rfl dX8_init_16 ?_
  refine y_aload_n g 0 dX8_init_19 rfl rfl ?_
  refine y_bipush (v := 60) g dX8_init_20 (by decide) ?_
  refine y_new_int (N := 60) g rfl (Nat.le_of_ble_eq_true rfl) hRc okA_int (by decide) (by decide) (Nat.le_of_ble_eq_true rfl) (Nat.le_of_ble_eq_true rfl) (Nat.le_of_ble_eq_true rfl) dX8_init_22 ?_
  refine y_swN (by decide) ?_
  refine y_putN (fs2 := [.int 0, .int 0, .int 0, .ref (rh (JG J) 121), .null, .null, .null, .null]) g hI fy_RX8_22 (Nat.le_of_ble_eq_true rfl) (Nat.le_of_ble_eq_true rfl) rfl (Nat.le_of_ble_eq_true rfl) rfl rfl dX8_init_24 ?_
  refine y_aload_n g 0 dX8_init_27 rfl rfl ?_
  refine y_bipush (v := 60) g dX8_init_28 (by decide) ?_
  refine y_new_int (N := 60) g rfl (Nat.le_of_ble_eq_true rfl) hRc okA_int (by decide) (by decide) (Nat.le_of_ble_eq_true rfl) (Nat.le_of_ble_eq_true rfl) (Nat.le_of_ble_eq_true rfl) dX8_init_30 ?_
  refine y_swN (by decide) ?_
  refine y_putN (fs2 := [.int 0, .int 0, .int 0, .ref (rh (JG J) 121), .ref (rh (JG J) 122), .null, .null, .null]) g hI fy_RX8_26 (Nat.le_of_ble_eq_true rfl) (Nat.le_of_ble_eq_true rfl) rfl (Nat.le_of_ble_eq_true rfl) rfl rfl dX8_init_32 ?_
  refine y_aload_n g 0 dX8_init_35 rfl rfl ?_
  refine y_bipush (v := 60) g dX8_init_36 (by decide) ?_
  refine y_new_int (N := 60) g rfl (Nat.le_of_ble_eq_true rfl) hRc okA_int (by decide) (by decide) (Nat.le_of_ble_eq_true rfl) (Nat.le_of_ble_eq_true rfl) (Nat.le_of_ble_eq_true rfl) dX8_init_38 ?_
  refine y_swN (by decide) ?_
  refine y_putN (fs2 := [.int 0, .int 0, .int 0, .ref (rh (JG J) 121), .ref (rh (JG J) 122), .ref (rh (JG J) 123), .null, .null]) g hI fy_RX8_29 (Nat.le_of_ble_eq_true rfl) (Nat.le_of_ble_eq_true rfl) rfl (Nat.le_of_ble_eq_true rfl) rfl rfl dX8_init_40 ?_
  refine y_aload_n g 0 dX8_init_43 rfl rfl ?_
  refine y_bipush (v := 60) g dX8_init_44 (by decide) ?_
  refine y_new_int (N := 60) g rfl (Nat.le_of_ble_eq_true rfl) hRc okA_int (by decide) (by decide) (Nat.le_of_ble_eq_true rfl) (Nat.le_of_ble_eq_true rfl) (Nat.le_of_ble_eq_true rfl) dX8_init_46 ?_
  refine y_swN (by decide) ?_
  refine y_putN (fs2 := [.int 0, .int 0, .int 0, .ref (rh (JG J) 121), .ref (rh (JG J) 122), .ref (rh (JG J) 123), .ref (rh (JG J) 124), .null]) g hI fy_RX8_32 (Nat.le_of_ble_eq_true rfl) (Nat.le_of_ble_eq_true rfl) rfl (Nat.le_of_ble_eq_true rfl) rfl rfl dX8_init_48 ?_
  refine y_aload_n g 0 dX8_init_51 rfl rfl ?_
  refine y_bipush (v := 60) g dX8_init_52 (by decide) ?_
  refine y_new_int (N := 60) g rfl (Nat.le_of_ble_eq_true rfl) hRc okA_int (by decide) (by decide) (Nat.le_of_ble_eq_true rfl) (Nat.le_of_ble_eq_true rfl) (Nat.le_of_ble_eq_true rfl) dX8_init_54 ?_
  refine y_swN (by decide) ?_
  refine y_putN (fs2 := [.int 0, .int 0, .int 0, .ref (rh (JG J) 121), .ref (rh (JG J) 122), .ref (rh (JG J) 123), .ref (rh (JG J) 124), .ref (rh (JG J) 125)]) g hI fy_RX8_35 (Nat.le_of_ble_eq_true rfl) (Nat.le_of_ble_eq_true rfl) rfl (Nat.le_of_ble_eq_true rfl) rfl rfl dX8_init_56 ?_
  refine y_cv (C2 := cat (JG J) C 120 126) (fun g hg => by
      by_cases hlt : g < 120
      · refine Or.inl ?_
        simp only [upC, cat]
        repeat rw [if_neg (by omega)]
      · obtain ⟨k, rfl⟩ : ∃ k, g = 120 + k := ⟨g - 120, by omega⟩
        have hk : k < 6 := by omega
        clear hlt hg
        exact (match k, hk with | 0, _ => Or.inl rfl | 1, _ => Or.inl rfl | 2, _ => Or.inl rfl | 3, _ => Or.inl rfl | 4, _ => Or.inl rfl | 5, _ => Or.inl rfl | k + 6, hk => absurd hk (by omega))) ?_
  exact y_vret g hr rfl (Nat.le_of_ble_eq_true rfl) dX8_init_59
set_option maxRecDepth 100000 in
set_option maxHeartbeats 8000000 in
theorem kc_140 (l : Launch) (G : GT) (hlin : Lin G) {C : Cm} (hC : C 140 = .inr (8, [.int 0, .int 0, .int 0, .null, .null, .null, .null, .null])) : OkC l G yX8_init cX8_init 1 1 30 5 300 140 141 C 146 (cat G C 140 146) := by
  refine OkC.ofY (by decide) rfl (Nat.le_of_ble_eq_true rfl) hlin (fun J g hI hr hG hl hR hRc hn => ?_)
  subst hG
  refine y_cv (C2 := upC C 140 (.inr (8, [.int 0, .int 0, .int 0, .null, .null, .null, .null, .null]))) (fun g _ => Or.inl <| by
    unfold upC
    by_cases h : g = 140
    · rw [h, if_pos rfl, hC]
    · rw [if_neg h]) ?_
  refine y_aload_n g 0 dX8_init_0 rfl rfl ?_
  refine y_objI g hR lo_RX8_5 ok_oin ok_oco (Nat.le_of_ble_eq_true rfl) (Nat.le_of_ble_eq_true rfl) dX8_init_1 ?_
  refine y_aload_n g 0 dX8_init_4 rfl rfl ?_
  refine y_iconst (v := 0) g dX8_init_5 (by decide) ?_
  refine y_putN (fs2 := [.int 0, .int 0, .int 0, .null, .null, .null, .null, .null]) g hI fy_RX8_11 (Nat.le_of_ble_eq_true rfl) (Nat.le_of_ble_eq_true rfl) rfl (Nat.le_of_ble_eq_true rfl) rfl rfl dX8_init_6 ?_
  refine y_aload_n g 0 dX8_init_9 rfl rfl ?_
  refine y_iconst (v := 0) g dX8_init_10 (by decide) ?_
  refine y_putN (fs2 := [.int 0, .int 0, .int 0, .null, .null, .null, .null, .null]) g hI fy_RX8_15 (Nat.le_of_ble_eq_true rfl) (Nat.le_of_ble_eq_true rfl) rfl (Nat.le_of_ble_eq_true rfl) rfl rfl dX8_init_11 ?_
  refine y_aload_n g 0 dX8_init_14 rfl rfl ?_
  refine y_iconst (v := 0) g dX8_init_15 (by decide) ?_
  refine y_putN (fs2 := [.int 0, .int 0, .int 0, .null, .null, .null, .null, .null]) g hI fy_RX8_19 (Nat.le_of_ble_eq_true rfl) (Nat.le_of_ble_eq_true rfl) rfl (Nat.le_of_ble_eq_true rfl) rfl rfl dX8_init_16 ?_
  refine y_aload_n g 0 dX8_init_19 rfl rfl ?_
  refine y_bipush (v := 60) g dX8_init_20 (by decide) ?_
  refine y_new_int (N := 60) g rfl (Nat.le_of_ble_eq_true rfl) hRc okA_int (by decide) (by decide) (Nat.le_of_ble_eq_true rfl) (Nat.le_of_ble_eq_true rfl) (Nat.le_of_ble_eq_true rfl) dX8_init_22 ?_
  refine y_swN (by decide) ?_
  refine y_putN (fs2 := [.int 0, .int 0, .int 0, .ref (rh (JG J) 141), .null, .null, .null, .null]) g hI fy_RX8_22 (Nat.le_of_ble_eq_true rfl) (Nat.le_of_ble_eq_true rfl) rfl (Nat.le_of_ble_eq_true rfl) rfl rfl dX8_init_24 ?_
  refine y_aload_n g 0 dX8_init_27 rfl rfl ?_
  refine y_bipush (v := 60) g dX8_init_28 (by decide) ?_
  refine y_new_int (N := 60) g rfl (Nat.le_of_ble_eq_true rfl) hRc okA_int (by decide) (by decide) (Nat.le_of_ble_eq_true rfl) (Nat.le_of_ble_eq_true rfl) (Nat.le_of_ble_eq_true rfl) dX8_init_30 ?_
  refine y_swN (by decide) ?_
  refine y_putN (fs2 := [.int 0, .int 0, .int 0, .ref (rh (JG J) 141), .ref (rh (JG J) 142), .null, .null, .null]) g hI fy_RX8_26 (Nat.le_of_ble_eq_true rfl) (Nat.le_of_ble_eq_true rfl) rfl (Nat.le_of_ble_eq_true rfl) rfl rfl dX8_init_32 ?_
  refine y_aload_n g 0 dX8_init_35 rfl rfl ?_
  refine y_bipush (v := 60) g dX8_init_36 (by decide) ?_
  refine y_new_int (N := 60) g rfl (Nat.le_of_ble_eq_true rfl) hRc okA_int (by decide) (by decide) (Nat.le_of_ble_eq_true rfl) (Nat.le_of_ble_eq_true rfl) (Nat.le_of_ble_eq_true rfl) dX8_init_38 ?_
  refine y_swN (by decide) ?_
  refine y_putN (fs2 := [.int 0, .int 0, .int 0, .ref (rh (JG J) 141), .ref (rh (JG J) 142), .ref (rh (JG J) 143), .null, .null]) g hI fy_RX8_29 (Nat.le_of_ble_eq_true rfl) (Nat.le_of_ble_eq_true rfl) rfl (Nat.le_of_ble_eq_true rfl) rfl rfl dX8_init_40 ?_
  refine y_aload_n g 0 dX8_init_43 rfl rfl ?_
  refine y_bipush (v := 60) g dX8_init_44 (by decide) ?_
  refine y_new_int (N := 60) g rfl (Nat.le_of_ble_eq_true rfl) hRc okA_int (by decide) (by decide) (Nat.le_of_ble_eq_true rfl) (Nat.le_of_ble_eq_true rfl) (Nat.le_of_ble_eq_true rfl) dX8_init_46 ?_
  refine y_swN (by decide) ?_
  refine y_putN (fs2 := [.int 0, .int 0, .int 0, .ref (rh (JG J) 141), .ref (rh (JG J) 142), .ref (rh (JG J) 143), .ref (rh (JG J) 144), .null]) g hI fy_RX8_32 (Nat.le_of_ble_eq_true rfl) (Nat.le_of_ble_eq_true rfl) rfl (Nat.le_of_ble_eq_true rfl) rfl rfl dX8_init_48 ?_
  refine y_aload_n g 0 dX8_init_51 rfl rfl ?_
  refine y_bipush (v := 60) g dX8_init_52 (by decide) ?_
  refine y_new_int (N := 60) g rfl (Nat.le_of_ble_eq_true rfl) hRc okA_int (by decide) (by decide) (Nat.le_of_ble_eq_true rfl) (Nat.le_of_ble_eq_true rfl) (Nat.le_of_ble_eq_true rfl) dX8_init_54 ?_
  refine y_swN (by decide) ?_
  refine y_putN (fs2 := [.int 0, .int 0, .int 0, .ref (rh (JG J) 141), .ref (rh (JG J) 142), .ref (rh (JG J) 143), .ref (rh (JG J) 144), .ref (rh (JG J) 145)]) g hI fy_RX8_35 (Nat.le_of_ble_eq_true rfl) (Nat.le_of_ble_eq_true rfl) rfl (Nat.le_of_ble_eq_true rfl) rfl rfl dX8_init_56 ?_
  refine y_cv (C2 := cat (JG J) C 140 146) (fun g hg => by
      by_cases hlt : g < 140
      · refine Or.inl ?_
        simp only [upC, cat]
        repeat rw [if_neg (by omega)]
      · obtain ⟨k, rfl⟩ : ∃ k, g = 140 + k := ⟨g - 140, by omega⟩
        have hk : k < 6 := by omega
        clear hlt hg
        exact (match k, hk with | 0, _ => Or.inl rfl | 1, _ => Or.inl rfl | 2, _ => Or.inl rfl | 3, _ => Or.inl rfl | 4, _ => Or.inl rfl | 5, _ => Or.inl rfl | k + 6, hk => absurd hk (by omega))) ?_
  exact y_vret g hr rfl (Nat.le_of_ble_eq_true rfl) dX8_init_59
set_option maxRecDepth 100000 in
set_option maxHeartbeats 8000000 in
theorem kc_12 (l : Launch) (G : GT) (hlin : Lin G) {C : Cm} (hC : C 12 = .inr (2, [.int 0, .null, .null, .null, .int 0, .null, .null, .null, .null, .null, .null, .int 0, .null, .int 0, .null, .null, .null])) : OkC l G yX2_init cX2_init 1 1 30 13 284 12 13 C 26 (cat G C 12 26) := by
  refine OkC.ofY (by decide) rfl (Nat.le_of_ble_eq_true rfl) hlin (fun J g hI hr hG hl hR hRc hn => ?_)
  subst hG
  refine y_cv (C2 := upC C 12 (.inr (2, [.int 0, .null, .null, .null, .int 0, .null, .null, .null, .null, .null, .null, .int 0, .null, .int 0, .null, .null, .null]))) (fun g _ => Or.inl <| by
    unfold upC
    by_cases h : g = 12
    · rw [h, if_pos rfl, hC]
    · rw [if_neg h]) ?_
  refine y_aload_n g 0 dX2_init_0 rfl rfl ?_
  refine y_objI g hR lo_RX2_3 ok_oin ok_oco (Nat.le_of_ble_eq_true rfl) (Nat.le_of_ble_eq_true rfl) dX2_init_1 ?_
  refine y_aload_n g 0 dX2_init_4 rfl rfl ?_
  refine y_iconst (v := 0) g dX2_init_5 (by decide) ?_
  refine y_putN (fs2 := [.int 0, .null, .null, .null, .int 0, .null, .null, .null, .null, .null, .null, .int 0, .null, .int 0, .null, .null, .null]) g hI fy_RX2_9 (Nat.le_of_ble_eq_true rfl) (Nat.le_of_ble_eq_true rfl) rfl (Nat.le_of_ble_eq_true rfl) rfl rfl dX2_init_6 ?_
  refine y_aload_n g 0 dX2_init_9 rfl rfl ?_
  refine y_bipush (v := 8) g dX2_init_10 (by decide) ?_
  refine y_new_long (N := 8) g rfl (Nat.le_of_ble_eq_true rfl) hRc okA_long (by decide) (by decide) (Nat.le_of_ble_eq_true rfl) (Nat.le_of_ble_eq_true rfl) (Nat.le_of_ble_eq_true rfl) dX2_init_12 ?_
  refine y_swN (by decide) ?_
  refine y_putN (fs2 := [.int 0, .ref (rh (JG J) 13), .null, .null, .int 0, .null, .null, .null, .null, .null, .null, .int 0, .null, .int 0, .null, .null, .null]) g hI fy_RX2_15 (Nat.le_of_ble_eq_true rfl) (Nat.le_of_ble_eq_true rfl) rfl (Nat.le_of_ble_eq_true rfl) rfl rfl dX2_init_14 ?_
  refine y_aload_n g 0 dX2_init_17 rfl rfl ?_
  refine y_bipush (v := 8) g dX2_init_18 (by decide) ?_
  refine y_new_int (N := 8) g rfl (Nat.le_of_ble_eq_true rfl) hRc okA_int (by decide) (by decide) (Nat.le_of_ble_eq_true rfl) (Nat.le_of_ble_eq_true rfl) (Nat.le_of_ble_eq_true rfl) dX2_init_20 ?_
  refine y_swN (by decide) ?_
  refine y_putN (fs2 := [.int 0, .ref (rh (JG J) 13), .ref (rh (JG J) 14), .null, .int 0, .null, .null, .null, .null, .null, .null, .int 0, .null, .int 0, .null, .null, .null]) g hI fy_RX2_19 (Nat.le_of_ble_eq_true rfl) (Nat.le_of_ble_eq_true rfl) rfl (Nat.le_of_ble_eq_true rfl) rfl rfl dX2_init_22 ?_
  refine y_aload_n g 0 dX2_init_25 rfl rfl ?_
  refine y_bipush (v := 64) g dX2_init_26 (by decide) ?_
  refine y_new_int (N := 64) g rfl (Nat.le_of_ble_eq_true rfl) hRc okA_int (by decide) (by decide) (Nat.le_of_ble_eq_true rfl) (Nat.le_of_ble_eq_true rfl) (Nat.le_of_ble_eq_true rfl) dX2_init_28 ?_
  refine y_swN (by decide) ?_
  refine y_putN (fs2 := [.int 0, .ref (rh (JG J) 13), .ref (rh (JG J) 14), .ref (rh (JG J) 15), .int 0, .null, .null, .null, .null, .null, .null, .int 0, .null, .int 0, .null, .null, .null]) g hI fy_RX2_23 (Nat.le_of_ble_eq_true rfl) (Nat.le_of_ble_eq_true rfl) rfl (Nat.le_of_ble_eq_true rfl) rfl rfl dX2_init_30 ?_
  refine y_aload_n g 0 dX2_init_33 rfl rfl ?_
  refine y_iconst (v := 0) g dX2_init_34 (by decide) ?_
  refine y_putN (fs2 := [.int 0, .ref (rh (JG J) 13), .ref (rh (JG J) 14), .ref (rh (JG J) 15), .int 0, .null, .null, .null, .null, .null, .null, .int 0, .null, .int 0, .null, .null, .null]) g hI fy_RX2_26 (Nat.le_of_ble_eq_true rfl) (Nat.le_of_ble_eq_true rfl) rfl (Nat.le_of_ble_eq_true rfl) rfl rfl dX2_init_35 ?_
  refine y_aload_n g 0 dX2_init_38 rfl rfl ?_
  refine y_bipush (v := 6) g dX2_init_39 (by decide) ?_
  refine y_new_long (N := 6) g rfl (Nat.le_of_ble_eq_true rfl) hRc okA_long (by decide) (by decide) (Nat.le_of_ble_eq_true rfl) (Nat.le_of_ble_eq_true rfl) (Nat.le_of_ble_eq_true rfl) dX2_init_41 ?_
  refine y_swN (by decide) ?_
  refine y_putN (fs2 := [.int 0, .ref (rh (JG J) 13), .ref (rh (JG J) 14), .ref (rh (JG J) 15), .int 0, .ref (rh (JG J) 16), .null, .null, .null, .null, .null, .int 0, .null, .int 0, .null, .null, .null]) g hI fy_RX2_29 (Nat.le_of_ble_eq_true rfl) (Nat.le_of_ble_eq_true rfl) rfl (Nat.le_of_ble_eq_true rfl) rfl rfl dX2_init_43 ?_
  refine y_aload_n g 0 dX2_init_46 rfl rfl ?_
  refine y_bipush (v := 6) g dX2_init_47 (by decide) ?_
  refine y_new_int (N := 6) g rfl (Nat.le_of_ble_eq_true rfl) hRc okA_int (by decide) (by decide) (Nat.le_of_ble_eq_true rfl) (Nat.le_of_ble_eq_true rfl) (Nat.le_of_ble_eq_true rfl) dX2_init_49 ?_
  refine y_swN (by decide) ?_
  refine y_putN (fs2 := [.int 0, .ref (rh (JG J) 13), .ref (rh (JG J) 14), .ref (rh (JG J) 15), .int 0, .ref (rh (JG J) 16), .ref (rh (JG J) 17), .null, .null, .null, .null, .int 0, .null, .int 0, .null, .null, .null]) g hI fy_RX2_32 (Nat.le_of_ble_eq_true rfl) (Nat.le_of_ble_eq_true rfl) rfl (Nat.le_of_ble_eq_true rfl) rfl rfl dX2_init_51 ?_
  refine y_aload_n g 0 dX2_init_54 rfl rfl ?_
  refine y_bipush (v := 6) g dX2_init_55 (by decide) ?_
  refine y_new_int (N := 6) g rfl (Nat.le_of_ble_eq_true rfl) hRc okA_int (by decide) (by decide) (Nat.le_of_ble_eq_true rfl) (Nat.le_of_ble_eq_true rfl) (Nat.le_of_ble_eq_true rfl) dX2_init_57 ?_
  refine y_swN (by decide) ?_
  refine y_putN (fs2 := [.int 0, .ref (rh (JG J) 13), .ref (rh (JG J) 14), .ref (rh (JG J) 15), .int 0, .ref (rh (JG J) 16), .ref (rh (JG J) 17), .ref (rh (JG J) 18), .null, .null, .null, .int 0, .null, .int 0, .null, .null, .null]) g hI fy_RX2_35 (Nat.le_of_ble_eq_true rfl) (Nat.le_of_ble_eq_true rfl) rfl (Nat.le_of_ble_eq_true rfl) rfl rfl dX2_init_59 ?_
  refine y_aload_n g 0 dX2_init_62 rfl rfl ?_
  refine y_bipush (v := 6) g dX2_init_63 (by decide) ?_
  refine y_new_int (N := 6) g rfl (Nat.le_of_ble_eq_true rfl) hRc okA_int (by decide) (by decide) (Nat.le_of_ble_eq_true rfl) (Nat.le_of_ble_eq_true rfl) (Nat.le_of_ble_eq_true rfl) dX2_init_65 ?_
  refine y_swN (by decide) ?_
  refine y_putN (fs2 := [.int 0, .ref (rh (JG J) 13), .ref (rh (JG J) 14), .ref (rh (JG J) 15), .int 0, .ref (rh (JG J) 16), .ref (rh (JG J) 17), .ref (rh (JG J) 18), .ref (rh (JG J) 19), .null, .null, .int 0, .null, .int 0, .null, .null, .null]) g hI fy_RX2_38 (Nat.le_of_ble_eq_true rfl) (Nat.le_of_ble_eq_true rfl) rfl (Nat.le_of_ble_eq_true rfl) rfl rfl dX2_init_67 ?_
  refine y_aload_n g 0 dX2_init_70 rfl rfl ?_
  refine y_bipush (v := 72) g dX2_init_71 (by decide) ?_
  refine y_new_int (N := 72) g rfl (Nat.le_of_ble_eq_true rfl) hRc okA_int (by decide) (by decide) (Nat.le_of_ble_eq_true rfl) (Nat.le_of_ble_eq_true rfl) (Nat.le_of_ble_eq_true rfl) dX2_init_73 ?_
  refine y_swN (by decide) ?_
  refine y_putN (fs2 := [.int 0, .ref (rh (JG J) 13), .ref (rh (JG J) 14), .ref (rh (JG J) 15), .int 0, .ref (rh (JG J) 16), .ref (rh (JG J) 17), .ref (rh (JG J) 18), .ref (rh (JG J) 19), .ref (rh (JG J) 20), .null, .int 0, .null, .int 0, .null, .null, .null]) g hI fy_RX2_41 (Nat.le_of_ble_eq_true rfl) (Nat.le_of_ble_eq_true rfl) rfl (Nat.le_of_ble_eq_true rfl) rfl rfl dX2_init_75 ?_
  refine y_aload_n g 0 dX2_init_78 rfl rfl ?_
  refine y_bipush (v := 72) g dX2_init_79 (by decide) ?_
  refine y_new_int (N := 72) g rfl (Nat.le_of_ble_eq_true rfl) hRc okA_int (by decide) (by decide) (Nat.le_of_ble_eq_true rfl) (Nat.le_of_ble_eq_true rfl) (Nat.le_of_ble_eq_true rfl) dX2_init_81 ?_
  refine y_swN (by decide) ?_
  refine y_putN (fs2 := [.int 0, .ref (rh (JG J) 13), .ref (rh (JG J) 14), .ref (rh (JG J) 15), .int 0, .ref (rh (JG J) 16), .ref (rh (JG J) 17), .ref (rh (JG J) 18), .ref (rh (JG J) 19), .ref (rh (JG J) 20), .ref (rh (JG J) 21), .int 0, .null, .int 0, .null, .null, .null]) g hI fy_RX2_44 (Nat.le_of_ble_eq_true rfl) (Nat.le_of_ble_eq_true rfl) rfl (Nat.le_of_ble_eq_true rfl) rfl rfl dX2_init_83 ?_
  refine y_aload_n g 0 dX2_init_86 rfl rfl ?_
  refine y_iconst (v := 0) g dX2_init_87 (by decide) ?_
  refine y_putN (fs2 := [.int 0, .ref (rh (JG J) 13), .ref (rh (JG J) 14), .ref (rh (JG J) 15), .int 0, .ref (rh (JG J) 16), .ref (rh (JG J) 17), .ref (rh (JG J) 18), .ref (rh (JG J) 19), .ref (rh (JG J) 20), .ref (rh (JG J) 21), .int 0, .null, .int 0, .null, .null, .null]) g hI fy_RX2_47 (Nat.le_of_ble_eq_true rfl) (Nat.le_of_ble_eq_true rfl) rfl (Nat.le_of_ble_eq_true rfl) rfl rfl dX2_init_88 ?_
  refine y_aload_n g 0 dX2_init_91 rfl rfl ?_
  refine y_bipush (v := 24) g dX2_init_92 (by decide) ?_
  refine y_new_int (N := 24) g rfl (Nat.le_of_ble_eq_true rfl) hRc okA_int (by decide) (by decide) (Nat.le_of_ble_eq_true rfl) (Nat.le_of_ble_eq_true rfl) (Nat.le_of_ble_eq_true rfl) dX2_init_94 ?_
  refine y_swN (by decide) ?_
  refine y_putN (fs2 := [.int 0, .ref (rh (JG J) 13), .ref (rh (JG J) 14), .ref (rh (JG J) 15), .int 0, .ref (rh (JG J) 16), .ref (rh (JG J) 17), .ref (rh (JG J) 18), .ref (rh (JG J) 19), .ref (rh (JG J) 20), .ref (rh (JG J) 21), .int 0, .ref (rh (JG J) 22), .int 0, .null, .null, .null]) g hI fy_RX2_50 (Nat.le_of_ble_eq_true rfl) (Nat.le_of_ble_eq_true rfl) rfl (Nat.le_of_ble_eq_true rfl) rfl rfl dX2_init_96 ?_
  refine y_aload_n g 0 dX2_init_99 rfl rfl ?_
  refine y_iconst (v := 0) g dX2_init_100 (by decide) ?_
  refine y_putN (fs2 := [.int 0, .ref (rh (JG J) 13), .ref (rh (JG J) 14), .ref (rh (JG J) 15), .int 0, .ref (rh (JG J) 16), .ref (rh (JG J) 17), .ref (rh (JG J) 18), .ref (rh (JG J) 19), .ref (rh (JG J) 20), .ref (rh (JG J) 21), .int 0, .ref (rh (JG J) 22), .int 0, .null, .null, .null]) g hI fy_RX2_53 (Nat.le_of_ble_eq_true rfl) (Nat.le_of_ble_eq_true rfl) rfl (Nat.le_of_ble_eq_true rfl) rfl rfl dX2_init_101 ?_
  refine y_aload_n g 0 dX2_init_104 rfl rfl ?_
  refine y_iconst (v := 2) g dX2_init_105 (by decide) ?_
  refine y_new_long (N := 2) g rfl (Nat.le_of_ble_eq_true rfl) hRc okA_long (by decide) (by decide) (Nat.le_of_ble_eq_true rfl) (Nat.le_of_ble_eq_true rfl) (Nat.le_of_ble_eq_true rfl) dX2_init_106 ?_
  refine y_swN (by decide) ?_
  refine y_putN (fs2 := [.int 0, .ref (rh (JG J) 13), .ref (rh (JG J) 14), .ref (rh (JG J) 15), .int 0, .ref (rh (JG J) 16), .ref (rh (JG J) 17), .ref (rh (JG J) 18), .ref (rh (JG J) 19), .ref (rh (JG J) 20), .ref (rh (JG J) 21), .int 0, .ref (rh (JG J) 22), .int 0, .ref (rh (JG J) 23), .null, .null]) g hI fy_RX2_56 (Nat.le_of_ble_eq_true rfl) (Nat.le_of_ble_eq_true rfl) rfl (Nat.le_of_ble_eq_true rfl) rfl rfl dX2_init_108 ?_
  refine y_aload_n g 0 dX2_init_111 rfl rfl ?_
  refine y_bipush (v := 8) g dX2_init_112 (by decide) ?_
  refine y_new_int (N := 8) g rfl (Nat.le_of_ble_eq_true rfl) hRc okA_int (by decide) (by decide) (Nat.le_of_ble_eq_true rfl) (Nat.le_of_ble_eq_true rfl) (Nat.le_of_ble_eq_true rfl) dX2_init_114 ?_
  refine y_swN (by decide) ?_
  refine y_putN (fs2 := [.int 0, .ref (rh (JG J) 13), .ref (rh (JG J) 14), .ref (rh (JG J) 15), .int 0, .ref (rh (JG J) 16), .ref (rh (JG J) 17), .ref (rh (JG J) 18), .ref (rh (JG J) 19), .ref (rh (JG J) 20), .ref (rh (JG J) 21), .int 0, .ref (rh (JG J) 22), .int 0, .ref (rh (JG J) 23), .ref (rh (JG J) 24), .null]) g hI fy_RX2_59 (Nat.le_of_ble_eq_true rfl) (Nat.le_of_ble_eq_true rfl) rfl (Nat.le_of_ble_eq_true rfl) rfl rfl dX2_init_116 ?_
  refine y_aload_n g 0 dX2_init_119 rfl rfl ?_
  refine y_iconst (v := 2) g dX2_init_120 (by decide) ?_
  refine y_new_int (N := 2) g rfl (Nat.le_of_ble_eq_true rfl) hRc okA_int (by decide) (by decide) (Nat.le_of_ble_eq_true rfl) (Nat.le_of_ble_eq_true rfl) (Nat.le_of_ble_eq_true rfl) dX2_init_121 ?_
  refine y_swN (by decide) ?_
  refine y_putN (fs2 := [.int 0, .ref (rh (JG J) 13), .ref (rh (JG J) 14), .ref (rh (JG J) 15), .int 0, .ref (rh (JG J) 16), .ref (rh (JG J) 17), .ref (rh (JG J) 18), .ref (rh (JG J) 19), .ref (rh (JG J) 20), .ref (rh (JG J) 21), .int 0, .ref (rh (JG J) 22), .int 0, .ref (rh (JG J) 23), .ref (rh (JG J) 24), .ref (rh (JG J) 25)]) g hI fy_RX2_62 (Nat.le_of_ble_eq_true rfl) (Nat.le_of_ble_eq_true rfl) rfl (Nat.le_of_ble_eq_true rfl) rfl rfl dX2_init_123 ?_
  refine y_cv (C2 := cat (JG J) C 12 26) (fun g hg => by
      by_cases hlt : g < 12
      · refine Or.inl ?_
        simp only [upC, cat]
        repeat rw [if_neg (by omega)]
      · obtain ⟨k, rfl⟩ : ∃ k, g = 12 + k := ⟨g - 12, by omega⟩
        have hk : k < 14 := by omega
        clear hlt hg
        exact (match k, hk with | 0, _ => Or.inl rfl | 1, _ => Or.inl rfl | 2, _ => Or.inl rfl | 3, _ => Or.inl rfl | 4, _ => Or.inl rfl | 5, _ => Or.inl rfl | 6, _ => Or.inl rfl | 7, _ => Or.inl rfl | 8, _ => Or.inl rfl | 9, _ => Or.inl rfl | 10, _ => Or.inl rfl | 11, _ => Or.inl rfl | 12, _ => Or.inl rfl | 13, _ => Or.inl rfl | k + 14, hk => absurd hk (by omega))) ?_
  exact y_vret g hr rfl (Nat.le_of_ble_eq_true rfl) dX2_init_126
set_option maxRecDepth 100000 in
set_option maxHeartbeats 8000000 in
theorem kc_26 (l : Launch) (G : GT) (hlin : Lin G) {C : Cm} (hC : C 26 = .inr (2, [.int 0, .null, .null, .null, .int 0, .null, .null, .null, .null, .null, .null, .int 0, .null, .int 0, .null, .null, .null])) : OkC l G yX2_init cX2_init 1 1 30 13 284 26 27 C 40 (cat G C 26 40) := by
  refine OkC.ofY (by decide) rfl (Nat.le_of_ble_eq_true rfl) hlin (fun J g hI hr hG hl hR hRc hn => ?_)
  subst hG
  refine y_cv (C2 := upC C 26 (.inr (2, [.int 0, .null, .null, .null, .int 0, .null, .null, .null, .null, .null, .null, .int 0, .null, .int 0, .null, .null, .null]))) (fun g _ => Or.inl <| by
    unfold upC
    by_cases h : g = 26
    · rw [h, if_pos rfl, hC]
    · rw [if_neg h]) ?_
  refine y_aload_n g 0 dX2_init_0 rfl rfl ?_
  refine y_objI g hR lo_RX2_3 ok_oin ok_oco (Nat.le_of_ble_eq_true rfl) (Nat.le_of_ble_eq_true rfl) dX2_init_1 ?_
  refine y_aload_n g 0 dX2_init_4 rfl rfl ?_
  refine y_iconst (v := 0) g dX2_init_5 (by decide) ?_
  refine y_putN (fs2 := [.int 0, .null, .null, .null, .int 0, .null, .null, .null, .null, .null, .null, .int 0, .null, .int 0, .null, .null, .null]) g hI fy_RX2_9 (Nat.le_of_ble_eq_true rfl) (Nat.le_of_ble_eq_true rfl) rfl (Nat.le_of_ble_eq_true rfl) rfl rfl dX2_init_6 ?_
  refine y_aload_n g 0 dX2_init_9 rfl rfl ?_
  refine y_bipush (v := 8) g dX2_init_10 (by decide) ?_
  refine y_new_long (N := 8) g rfl (Nat.le_of_ble_eq_true rfl) hRc okA_long (by decide) (by decide) (Nat.le_of_ble_eq_true rfl) (Nat.le_of_ble_eq_true rfl) (Nat.le_of_ble_eq_true rfl) dX2_init_12 ?_
  refine y_swN (by decide) ?_
  refine y_putN (fs2 := [.int 0, .ref (rh (JG J) 27), .null, .null, .int 0, .null, .null, .null, .null, .null, .null, .int 0, .null, .int 0, .null, .null, .null]) g hI fy_RX2_15 (Nat.le_of_ble_eq_true rfl) (Nat.le_of_ble_eq_true rfl) rfl (Nat.le_of_ble_eq_true rfl) rfl rfl dX2_init_14 ?_
  refine y_aload_n g 0 dX2_init_17 rfl rfl ?_
  refine y_bipush (v := 8) g dX2_init_18 (by decide) ?_
  refine y_new_int (N := 8) g rfl (Nat.le_of_ble_eq_true rfl) hRc okA_int (by decide) (by decide) (Nat.le_of_ble_eq_true rfl) (Nat.le_of_ble_eq_true rfl) (Nat.le_of_ble_eq_true rfl) dX2_init_20 ?_
  refine y_swN (by decide) ?_
  refine y_putN (fs2 := [.int 0, .ref (rh (JG J) 27), .ref (rh (JG J) 28), .null, .int 0, .null, .null, .null, .null, .null, .null, .int 0, .null, .int 0, .null, .null, .null]) g hI fy_RX2_19 (Nat.le_of_ble_eq_true rfl) (Nat.le_of_ble_eq_true rfl) rfl (Nat.le_of_ble_eq_true rfl) rfl rfl dX2_init_22 ?_
  refine y_aload_n g 0 dX2_init_25 rfl rfl ?_
  refine y_bipush (v := 64) g dX2_init_26 (by decide) ?_
  refine y_new_int (N := 64) g rfl (Nat.le_of_ble_eq_true rfl) hRc okA_int (by decide) (by decide) (Nat.le_of_ble_eq_true rfl) (Nat.le_of_ble_eq_true rfl) (Nat.le_of_ble_eq_true rfl) dX2_init_28 ?_
  refine y_swN (by decide) ?_
  refine y_putN (fs2 := [.int 0, .ref (rh (JG J) 27), .ref (rh (JG J) 28), .ref (rh (JG J) 29), .int 0, .null, .null, .null, .null, .null, .null, .int 0, .null, .int 0, .null, .null, .null]) g hI fy_RX2_23 (Nat.le_of_ble_eq_true rfl) (Nat.le_of_ble_eq_true rfl) rfl (Nat.le_of_ble_eq_true rfl) rfl rfl dX2_init_30 ?_
  refine y_aload_n g 0 dX2_init_33 rfl rfl ?_
  refine y_iconst (v := 0) g dX2_init_34 (by decide) ?_
  refine y_putN (fs2 := [.int 0, .ref (rh (JG J) 27), .ref (rh (JG J) 28), .ref (rh (JG J) 29), .int 0, .null, .null, .null, .null, .null, .null, .int 0, .null, .int 0, .null, .null, .null]) g hI fy_RX2_26 (Nat.le_of_ble_eq_true rfl) (Nat.le_of_ble_eq_true rfl) rfl (Nat.le_of_ble_eq_true rfl) rfl rfl dX2_init_35 ?_
  refine y_aload_n g 0 dX2_init_38 rfl rfl ?_
  refine y_bipush (v := 6) g dX2_init_39 (by decide) ?_
  refine y_new_long (N := 6) g rfl (Nat.le_of_ble_eq_true rfl) hRc okA_long (by decide) (by decide) (Nat.le_of_ble_eq_true rfl) (Nat.le_of_ble_eq_true rfl) (Nat.le_of_ble_eq_true rfl) dX2_init_41 ?_
  refine y_swN (by decide) ?_
  refine y_putN (fs2 := [.int 0, .ref (rh (JG J) 27), .ref (rh (JG J) 28), .ref (rh (JG J) 29), .int 0, .ref (rh (JG J) 30), .null, .null, .null, .null, .null, .int 0, .null, .int 0, .null, .null, .null]) g hI fy_RX2_29 (Nat.le_of_ble_eq_true rfl) (Nat.le_of_ble_eq_true rfl) rfl (Nat.le_of_ble_eq_true rfl) rfl rfl dX2_init_43 ?_
  refine y_aload_n g 0 dX2_init_46 rfl rfl ?_
  refine y_bipush (v := 6) g dX2_init_47 (by decide) ?_
  refine y_new_int (N := 6) g rfl (Nat.le_of_ble_eq_true rfl) hRc okA_int (by decide) (by decide) (Nat.le_of_ble_eq_true rfl) (Nat.le_of_ble_eq_true rfl) (Nat.le_of_ble_eq_true rfl) dX2_init_49 ?_
  refine y_swN (by decide) ?_
  refine y_putN (fs2 := [.int 0, .ref (rh (JG J) 27), .ref (rh (JG J) 28), .ref (rh (JG J) 29), .int 0, .ref (rh (JG J) 30), .ref (rh (JG J) 31), .null, .null, .null, .null, .int 0, .null, .int 0, .null, .null, .null]) g hI fy_RX2_32 (Nat.le_of_ble_eq_true rfl) (Nat.le_of_ble_eq_true rfl) rfl (Nat.le_of_ble_eq_true rfl) rfl rfl dX2_init_51 ?_
  refine y_aload_n g 0 dX2_init_54 rfl rfl ?_
  refine y_bipush (v := 6) g dX2_init_55 (by decide) ?_
  refine y_new_int (N := 6) g rfl (Nat.le_of_ble_eq_true rfl) hRc okA_int (by decide) (by decide) (Nat.le_of_ble_eq_true rfl) (Nat.le_of_ble_eq_true rfl) (Nat.le_of_ble_eq_true rfl) dX2_init_57 ?_
  refine y_swN (by decide) ?_
  refine y_putN (fs2 := [.int 0, .ref (rh (JG J) 27), .ref (rh (JG J) 28), .ref (rh (JG J) 29), .int 0, .ref (rh (JG J) 30), .ref (rh (JG J) 31), .ref (rh (JG J) 32), .null, .null, .null, .int 0, .null, .int 0, .null, .null, .null]) g hI fy_RX2_35 (Nat.le_of_ble_eq_true rfl) (Nat.le_of_ble_eq_true rfl) rfl (Nat.le_of_ble_eq_true rfl) rfl rfl dX2_init_59 ?_
  refine y_aload_n g 0 dX2_init_62 rfl rfl ?_
  refine y_bipush (v := 6) g dX2_init_63 (by decide) ?_
  refine y_new_int (N := 6) g rfl (Nat.le_of_ble_eq_true rfl) hRc okA_int (by decide) (by decide) (Nat.le_of_ble_eq_true rfl) (Nat.le_of_ble_eq_true rfl) (Nat.le_of_ble_eq_true rfl) dX2_init_65 ?_
  refine y_swN (by decide) ?_
  refine y_putN (fs2 := [.int 0, .ref (rh (JG J) 27), .ref (rh (JG J) 28), .ref (rh (JG J) 29), .int 0, .ref (rh (JG J) 30), .ref (rh (JG J) 31), .ref (rh (JG J) 32), .ref (rh (JG J) 33), .null, .null, .int 0, .null, .int 0, .null, .null, .null]) g hI fy_RX2_38 (Nat.le_of_ble_eq_true rfl) (Nat.le_of_ble_eq_true rfl) rfl (Nat.le_of_ble_eq_true rfl) rfl rfl dX2_init_67 ?_
  refine y_aload_n g 0 dX2_init_70 rfl rfl ?_
  refine y_bipush (v := 72) g dX2_init_71 (by decide) ?_
  refine y_new_int (N := 72) g rfl (Nat.le_of_ble_eq_true rfl) hRc okA_int (by decide) (by decide) (Nat.le_of_ble_eq_true rfl) (Nat.le_of_ble_eq_true rfl) (Nat.le_of_ble_eq_true rfl) dX2_init_73 ?_
  refine y_swN (by decide) ?_
  refine y_putN (fs2 := [.int 0, .ref (rh (JG J) 27), .ref (rh (JG J) 28), .ref (rh (JG J) 29), .int 0, .ref (rh (JG J) 30), .ref (rh (JG J) 31), .ref (rh (JG J) 32), .ref (rh (JG J) 33), .ref (rh (JG J) 34), .null, .int 0, .null, .int 0, .null, .null, .null]) g hI fy_RX2_41 (Nat.le_of_ble_eq_true rfl) (Nat.le_of_ble_eq_true rfl) rfl (Nat.le_of_ble_eq_true rfl) rfl rfl dX2_init_75 ?_
  refine y_aload_n g 0 dX2_init_78 rfl rfl ?_
  refine y_bipush (v := 72) g dX2_init_79 (by decide) ?_
  refine y_new_int (N := 72) g rfl (Nat.le_of_ble_eq_true rfl) hRc okA_int (by decide) (by decide) (Nat.le_of_ble_eq_true rfl) (Nat.le_of_ble_eq_true rfl) (Nat.le_of_ble_eq_true rfl) dX2_init_81 ?_
  refine y_swN (by decide) ?_
  refine y_putN (fs2 := [.int 0, .ref (rh (JG J) 27), .ref (rh (JG J) 28), .ref (rh (JG J) 29), .int 0, .ref (rh (JG J) 30), .ref (rh (JG J) 31), .ref (rh (JG J) 32), .ref (rh (JG J) 33), .ref (rh (JG J) 34), .ref (rh (JG J) 35), .int 0, .null, .int 0, .null, .null, .null]) g hI fy_RX2_44 (Nat.le_of_ble_eq_true rfl) (Nat.le_of_ble_eq_true rfl) rfl (Nat.le_of_ble_eq_true rfl) rfl rfl dX2_init_83 ?_
  refine y_aload_n g 0 dX2_init_86 rfl rfl ?_
  refine y_iconst (v := 0) g dX2_init_87 (by decide) ?_
  refine y_putN (fs2 := [.int 0, .ref (rh (JG J) 27), .ref (rh (JG J) 28), .ref (rh (JG J) 29), .int 0, .ref (rh (JG J) 30), .ref (rh (JG J) 31), .ref (rh (JG J) 32), .ref (rh (JG J) 33), .ref (rh (JG J) 34), .ref (rh (JG J) 35), .int 0, .null, .int 0, .null, .null, .null]) g hI fy_RX2_47 (Nat.le_of_ble_eq_true rfl) (Nat.le_of_ble_eq_true rfl) rfl (Nat.le_of_ble_eq_true rfl) rfl rfl dX2_init_88 ?_
  refine y_aload_n g 0 dX2_init_91 rfl rfl ?_
  refine y_bipush (v := 24) g dX2_init_92 (by decide) ?_
  refine y_new_int (N := 24) g rfl (Nat.le_of_ble_eq_true rfl) hRc okA_int (by decide) (by decide) (Nat.le_of_ble_eq_true rfl) (Nat.le_of_ble_eq_true rfl) (Nat.le_of_ble_eq_true rfl) dX2_init_94 ?_
  refine y_swN (by decide) ?_
  refine y_putN (fs2 := [.int 0, .ref (rh (JG J) 27), .ref (rh (JG J) 28), .ref (rh (JG J) 29), .int 0, .ref (rh (JG J) 30), .ref (rh (JG J) 31), .ref (rh (JG J) 32), .ref (rh (JG J) 33), .ref (rh (JG J) 34), .ref (rh (JG J) 35), .int 0, .ref (rh (JG J) 36), .int 0, .null, .null, .null]) g hI fy_RX2_50 (Nat.le_of_ble_eq_true rfl) (Nat.le_of_ble_eq_true rfl) rfl (Nat.le_of_ble_eq_true rfl) rfl rfl dX2_init_96 ?_
  refine y_aload_n g 0 dX2_init_99 rfl rfl ?_
  refine y_iconst (v := 0) g dX2_init_100 (by decide) ?_
  refine y_putN (fs2 := [.int 0, .ref (rh (JG J) 27), .ref (rh (JG J) 28), .ref (rh (JG J) 29), .int 0, .ref (rh (JG J) 30), .ref (rh (JG J) 31), .ref (rh (JG J) 32), .ref (rh (JG J) 33), .ref (rh (JG J) 34), .ref (rh (JG J) 35), .int 0, .ref (rh (JG J) 36), .int 0, .null, .null, .null]) g hI fy_RX2_53 (Nat.le_of_ble_eq_true rfl) (Nat.le_of_ble_eq_true rfl) rfl (Nat.le_of_ble_eq_true rfl) rfl rfl dX2_init_101 ?_
  refine y_aload_n g 0 dX2_init_104 rfl rfl ?_
  refine y_iconst (v := 2) g dX2_init_105 (by decide) ?_
  refine y_new_long (N := 2) g rfl (Nat.le_of_ble_eq_true rfl) hRc okA_long (by decide) (by decide) (Nat.le_of_ble_eq_true rfl) (Nat.le_of_ble_eq_true rfl) (Nat.le_of_ble_eq_true rfl) dX2_init_106 ?_
  refine y_swN (by decide) ?_
  refine y_putN (fs2 := [.int 0, .ref (rh (JG J) 27), .ref (rh (JG J) 28), .ref (rh (JG J) 29), .int 0, .ref (rh (JG J) 30), .ref (rh (JG J) 31), .ref (rh (JG J) 32), .ref (rh (JG J) 33), .ref (rh (JG J) 34), .ref (rh (JG J) 35), .int 0, .ref (rh (JG J) 36), .int 0, .ref (rh (JG J) 37), .null, .null]) g hI fy_RX2_56 (Nat.le_of_ble_eq_true rfl) (Nat.le_of_ble_eq_true rfl) rfl (Nat.le_of_ble_eq_true rfl) rfl rfl dX2_init_108 ?_
  refine y_aload_n g 0 dX2_init_111 rfl rfl ?_
  refine y_bipush (v := 8) g dX2_init_112 (by decide) ?_
  refine y_new_int (N := 8) g rfl (Nat.le_of_ble_eq_true rfl) hRc okA_int (by decide) (by decide) (Nat.le_of_ble_eq_true rfl) (Nat.le_of_ble_eq_true rfl) (Nat.le_of_ble_eq_true rfl) dX2_init_114 ?_
  refine y_swN (by decide) ?_
  refine y_putN (fs2 := [.int 0, .ref (rh (JG J) 27), .ref (rh (JG J) 28), .ref (rh (JG J) 29), .int 0, .ref (rh (JG J) 30), .ref (rh (JG J) 31), .ref (rh (JG J) 32), .ref (rh (JG J) 33), .ref (rh (JG J) 34), .ref (rh (JG J) 35), .int 0, .ref (rh (JG J) 36), .int 0, .ref (rh (JG J) 37), .ref (rh (JG J) 38), .null]) g hI fy_RX2_59 (Nat.le_of_ble_eq_true rfl) (Nat.le_of_ble_eq_true rfl) rfl (Nat.le_of_ble_eq_true rfl) rfl rfl dX2_init_116 ?_
  refine y_aload_n g 0 dX2_init_119 rfl rfl ?_
  refine y_iconst (v := 2) g dX2_init_120 (by decide) ?_
  refine y_new_int (N := 2) g rfl (Nat.le_of_ble_eq_true rfl) hRc okA_int (by decide) (by decide) (Nat.le_of_ble_eq_true rfl) (Nat.le_of_ble_eq_true rfl) (Nat.le_of_ble_eq_true rfl) dX2_init_121 ?_
  refine y_swN (by decide) ?_
  refine y_putN (fs2 := [.int 0, .ref (rh (JG J) 27), .ref (rh (JG J) 28), .ref (rh (JG J) 29), .int 0, .ref (rh (JG J) 30), .ref (rh (JG J) 31), .ref (rh (JG J) 32), .ref (rh (JG J) 33), .ref (rh (JG J) 34), .ref (rh (JG J) 35), .int 0, .ref (rh (JG J) 36), .int 0, .ref (rh (JG J) 37), .ref (rh (JG J) 38), .ref (rh (JG J) 39)]) g hI fy_RX2_62 (Nat.le_of_ble_eq_true rfl) (Nat.le_of_ble_eq_true rfl) rfl (Nat.le_of_ble_eq_true rfl) rfl rfl dX2_init_123 ?_
  refine y_cv (C2 := cat (JG J) C 26 40) (fun g hg => by
      by_cases hlt : g < 26
      · refine Or.inl ?_
        simp only [upC, cat]
        repeat rw [if_neg (by omega)]
      · obtain ⟨k, rfl⟩ : ∃ k, g = 26 + k := ⟨g - 26, by omega⟩
        have hk : k < 14 := by omega
        clear hlt hg
        exact (match k, hk with | 0, _ => Or.inl rfl | 1, _ => Or.inl rfl | 2, _ => Or.inl rfl | 3, _ => Or.inl rfl | 4, _ => Or.inl rfl | 5, _ => Or.inl rfl | 6, _ => Or.inl rfl | 7, _ => Or.inl rfl | 8, _ => Or.inl rfl | 9, _ => Or.inl rfl | 10, _ => Or.inl rfl | 11, _ => Or.inl rfl | 12, _ => Or.inl rfl | 13, _ => Or.inl rfl | k + 14, hk => absurd hk (by omega))) ?_
  exact y_vret g hr rfl (Nat.le_of_ble_eq_true rfl) dX2_init_126
set_option maxRecDepth 100000 in
set_option maxHeartbeats 8000000 in
theorem kc_57 (l : Launch) (G : GT) (hlin : Lin G) {C : Cm} (hC : C 57 = .inr (0, [.null, .int 0, .int 0, .null, .null, .null, .int 0, .int 0, .null, .null, .null, .null, .null, .int 0, .int 0, .null, .null])) : OkC l G yX0_init cX0_init 1 2 50 13 1001 57 58 C 71 (cat G C 57 71) := by
  refine OkC.ofY (by decide) rfl (Nat.le_of_ble_eq_true rfl) hlin (fun J g hI hr hG hl hR hRc hn => ?_)
  subst hG
  refine y_cv (C2 := upC C 57 (.inr (0, [.null, .int 0, .int 0, .null, .null, .null, .int 0, .int 0, .null, .null, .null, .null, .null, .int 0, .int 0, .null, .null]))) (fun g _ => Or.inl <| by
    unfold upC
    by_cases h : g = 57
    · rw [h, if_pos rfl, hC]
    · rw [if_neg h]) ?_
  refine y_aload_n g 0 dX0_init_0 rfl rfl ?_
  refine y_objI g hR lo_RX0_3 ok_oin ok_oco (Nat.le_of_ble_eq_true rfl) (Nat.le_of_ble_eq_true rfl) dX0_init_1 ?_
  refine y_aload_n g 0 dX0_init_4 rfl rfl ?_
  refine y_new (fs := [.null, .null, .int 0, .int 0]) g cls5 rfl (Nat.le_of_ble_eq_true rfl) hRc cl_RX0_9 ins_5 ini_5 bl_5 (Nat.le_of_ble_eq_true rfl) (Nat.le_of_ble_eq_true rfl) dX0_init_5 ?_
  refine y_swN (by decide) ?_
  refine y_dup g dX0_init_8 rfl ?_
  refine y_callI g mvI_5 rfl imI_5 lki_RX0_11 (kc_58 _ _ hlin rfl) rfl (Nat.le_of_ble_eq_true rfl) hR hRc ⟨(Nat.le_of_ble_eq_true rfl), (Nat.le_of_ble_eq_true rfl)⟩ (Nat.le_of_ble_eq_true rfl) (Nat.le_of_ble_eq_true rfl) (Nat.le_of_ble_eq_true rfl) dX0_init_9 ?_
  refine y_catN (Nat.le_of_ble_eq_true rfl) ?_
  refine y_putN (fs2 := [.ref (rh (JG J) 58), .int 0, .int 0, .null, .null, .null, .int 0, .int 0, .null, .null, .null, .null, .null, .int 0, .int 0, .null, .null]) g hI fy_RX0_12 (Nat.le_of_ble_eq_true rfl) (Nat.le_of_ble_eq_true rfl) rfl (Nat.le_of_ble_eq_true rfl) rfl rfl dX0_init_12 ?_
  refine y_aload_n g 0 dX0_init_15 rfl rfl ?_
  refine y_iconst (v := 1) g dX0_init_16 (by decide) ?_
  refine y_putN (fs2 := [.ref (rh (JG J) 58), .int 1, .int 0, .null, .null, .null, .int 0, .int 0, .null, .null, .null, .null, .null, .int 0, .int 0, .null, .null]) g hI fy_RX0_18 (Nat.le_of_ble_eq_true rfl) (Nat.le_of_ble_eq_true rfl) rfl (Nat.le_of_ble_eq_true rfl) rfl rfl dX0_init_17 ?_
  refine y_aload_n g 0 dX0_init_20 rfl rfl ?_
  refine y_iconst (v := 0) g dX0_init_21 (by decide) ?_
  refine y_putN (fs2 := [.ref (rh (JG J) 58), .int 1, .int 0, .null, .null, .null, .int 0, .int 0, .null, .null, .null, .null, .null, .int 0, .int 0, .null, .null]) g hI fy_RX0_22 (Nat.le_of_ble_eq_true rfl) (Nat.le_of_ble_eq_true rfl) rfl (Nat.le_of_ble_eq_true rfl) rfl rfl dX0_init_22 ?_
  refine y_aload_n g 0 dX0_init_25 rfl rfl ?_
  refine y_bipush (v := 6) g dX0_init_26 (by decide) ?_
  refine y_new_int (N := 6) g rfl (Nat.le_of_ble_eq_true rfl) hRc okA_int (by decide) (by decide) (Nat.le_of_ble_eq_true rfl) (Nat.le_of_ble_eq_true rfl) (Nat.le_of_ble_eq_true rfl) dX0_init_28 ?_
  refine y_swN (by decide) ?_
  refine y_putN (fs2 := [.ref (rh (JG J) 58), .int 1, .int 0, .ref (rh (JG J) 61), .null, .null, .int 0, .int 0, .null, .null, .null, .null, .null, .int 0, .int 0, .null, .null]) g hI fy_RX0_26 (Nat.le_of_ble_eq_true rfl) (Nat.le_of_ble_eq_true rfl) rfl (Nat.le_of_ble_eq_true rfl) rfl rfl dX0_init_30 ?_
  refine y_aload_n g 0 dX0_init_33 rfl rfl ?_
  refine y_bipush (v := 6) g dX0_init_34 (by decide) ?_
  refine y_new_int (N := 6) g rfl (Nat.le_of_ble_eq_true rfl) hRc okA_int (by decide) (by decide) (Nat.le_of_ble_eq_true rfl) (Nat.le_of_ble_eq_true rfl) (Nat.le_of_ble_eq_true rfl) dX0_init_36 ?_
  refine y_swN (by decide) ?_
  refine y_putN (fs2 := [.ref (rh (JG J) 58), .int 1, .int 0, .ref (rh (JG J) 61), .ref (rh (JG J) 62), .null, .int 0, .int 0, .null, .null, .null, .null, .null, .int 0, .int 0, .null, .null]) g hI fy_RX0_30 (Nat.le_of_ble_eq_true rfl) (Nat.le_of_ble_eq_true rfl) rfl (Nat.le_of_ble_eq_true rfl) rfl rfl dX0_init_38 ?_
  refine y_aload_n g 0 dX0_init_41 rfl rfl ?_
  refine y_bipush (v := 6) g dX0_init_42 (by decide) ?_
  refine y_new_int (N := 6) g rfl (Nat.le_of_ble_eq_true rfl) hRc okA_int (by decide) (by decide) (Nat.le_of_ble_eq_true rfl) (Nat.le_of_ble_eq_true rfl) (Nat.le_of_ble_eq_true rfl) dX0_init_44 ?_
  refine y_swN (by decide) ?_
  refine y_putN (fs2 := [.ref (rh (JG J) 58), .int 1, .int 0, .ref (rh (JG J) 61), .ref (rh (JG J) 62), .ref (rh (JG J) 63), .int 0, .int 0, .null, .null, .null, .null, .null, .int 0, .int 0, .null, .null]) g hI fy_RX0_33 (Nat.le_of_ble_eq_true rfl) (Nat.le_of_ble_eq_true rfl) rfl (Nat.le_of_ble_eq_true rfl) rfl rfl dX0_init_46 ?_
  refine y_aload_n g 0 dX0_init_49 rfl rfl ?_
  refine y_iconst (v := 0) g dX0_init_50 (by decide) ?_
  refine y_putN (fs2 := [.ref (rh (JG J) 58), .int 1, .int 0, .ref (rh (JG J) 61), .ref (rh (JG J) 62), .ref (rh (JG J) 63), .int 0, .int 0, .null, .null, .null, .null, .null, .int 0, .int 0, .null, .null]) g hI fy_RX0_36 (Nat.le_of_ble_eq_true rfl) (Nat.le_of_ble_eq_true rfl) rfl (Nat.le_of_ble_eq_true rfl) rfl rfl dX0_init_51 ?_
  refine y_aload_n g 0 dX0_init_54 rfl rfl ?_
  refine y_iconst (v := 0) g dX0_init_55 (by decide) ?_
  refine y_putN (fs2 := [.ref (rh (JG J) 58), .int 1, .int 0, .ref (rh (JG J) 61), .ref (rh (JG J) 62), .ref (rh (JG J) 63), .int 0, .int 0, .null, .null, .null, .null, .null, .int 0, .int 0, .null, .null]) g hI fy_RX0_39 (Nat.le_of_ble_eq_true rfl) (Nat.le_of_ble_eq_true rfl) rfl (Nat.le_of_ble_eq_true rfl) rfl rfl dX0_init_56 ?_
  refine y_aload_n g 0 dX0_init_59 rfl rfl ?_
  refine y_bipush (v := 6) g dX0_init_60 (by decide) ?_
  refine y_new_int (N := 6) g rfl (Nat.le_of_ble_eq_true rfl) hRc okA_int (by decide) (by decide) (Nat.le_of_ble_eq_true rfl) (Nat.le_of_ble_eq_true rfl) (Nat.le_of_ble_eq_true rfl) dX0_init_62 ?_
  refine y_swN (by decide) ?_
  refine y_putN (fs2 := [.ref (rh (JG J) 58), .int 1, .int 0, .ref (rh (JG J) 61), .ref (rh (JG J) 62), .ref (rh (JG J) 63), .int 0, .int 0, .ref (rh (JG J) 64), .null, .null, .null, .null, .int 0, .int 0, .null, .null]) g hI fy_RX0_42 (Nat.le_of_ble_eq_true rfl) (Nat.le_of_ble_eq_true rfl) rfl (Nat.le_of_ble_eq_true rfl) rfl rfl dX0_init_64 ?_
  refine y_aload_n g 0 dX0_init_67 rfl rfl ?_
  refine y_bipush (v := 72) g dX0_init_68 (by decide) ?_
  refine y_new_int (N := 72) g rfl (Nat.le_of_ble_eq_true rfl) hRc okA_int (by decide) (by decide) (Nat.le_of_ble_eq_true rfl) (Nat.le_of_ble_eq_true rfl) (Nat.le_of_ble_eq_true rfl) dX0_init_70 ?_
  refine y_swN (by decide) ?_
  refine y_putN (fs2 := [.ref (rh (JG J) 58), .int 1, .int 0, .ref (rh (JG J) 61), .ref (rh (JG J) 62), .ref (rh (JG J) 63), .int 0, .int 0, .ref (rh (JG J) 64), .ref (rh (JG J) 65), .null, .null, .null, .int 0, .int 0, .null, .null]) g hI fy_RX0_45 (Nat.le_of_ble_eq_true rfl) (Nat.le_of_ble_eq_true rfl) rfl (Nat.le_of_ble_eq_true rfl) rfl rfl dX0_init_72 ?_
  refine y_aload_n g 0 dX0_init_75 rfl rfl ?_
  refine y_bipush (v := 72) g dX0_init_76 (by decide) ?_
  refine y_new_int (N := 72) g rfl (Nat.le_of_ble_eq_true rfl) hRc okA_int (by decide) (by decide) (Nat.le_of_ble_eq_true rfl) (Nat.le_of_ble_eq_true rfl) (Nat.le_of_ble_eq_true rfl) dX0_init_78 ?_
  refine y_swN (by decide) ?_
  refine y_putN (fs2 := [.ref (rh (JG J) 58), .int 1, .int 0, .ref (rh (JG J) 61), .ref (rh (JG J) 62), .ref (rh (JG J) 63), .int 0, .int 0, .ref (rh (JG J) 64), .ref (rh (JG J) 65), .ref (rh (JG J) 66), .null, .null, .int 0, .int 0, .null, .null]) g hI fy_RX0_48 (Nat.le_of_ble_eq_true rfl) (Nat.le_of_ble_eq_true rfl) rfl (Nat.le_of_ble_eq_true rfl) rfl rfl dX0_init_80 ?_
  refine y_aload_n g 0 dX0_init_83 rfl rfl ?_
  refine y_bipush (v := 72) g dX0_init_84 (by decide) ?_
  refine y_new_int (N := 72) g rfl (Nat.le_of_ble_eq_true rfl) hRc okA_int (by decide) (by decide) (Nat.le_of_ble_eq_true rfl) (Nat.le_of_ble_eq_true rfl) (Nat.le_of_ble_eq_true rfl) dX0_init_86 ?_
  refine y_swN (by decide) ?_
  refine y_putN (fs2 := [.ref (rh (JG J) 58), .int 1, .int 0, .ref (rh (JG J) 61), .ref (rh (JG J) 62), .ref (rh (JG J) 63), .int 0, .int 0, .ref (rh (JG J) 64), .ref (rh (JG J) 65), .ref (rh (JG J) 66), .ref (rh (JG J) 67), .null, .int 0, .int 0, .null, .null]) g hI fy_RX0_51 (Nat.le_of_ble_eq_true rfl) (Nat.le_of_ble_eq_true rfl) rfl (Nat.le_of_ble_eq_true rfl) rfl rfl dX0_init_88 ?_
  refine y_aload_n g 0 dX0_init_91 rfl rfl ?_
  refine y_sipush (v := 432) g dX0_init_92 (by decide) ?_
  refine y_new_int (N := 432) g rfl (Nat.le_of_ble_eq_true rfl) hRc okA_int (by decide) (by decide) (Nat.le_of_ble_eq_true rfl) (Nat.le_of_ble_eq_true rfl) (Nat.le_of_ble_eq_true rfl) dX0_init_95 ?_
  refine y_swN (by decide) ?_
  refine y_putN (fs2 := [.ref (rh (JG J) 58), .int 1, .int 0, .ref (rh (JG J) 61), .ref (rh (JG J) 62), .ref (rh (JG J) 63), .int 0, .int 0, .ref (rh (JG J) 64), .ref (rh (JG J) 65), .ref (rh (JG J) 66), .ref (rh (JG J) 67), .ref (rh (JG J) 68), .int 0, .int 0, .null, .null]) g hI fy_RX0_54 (Nat.le_of_ble_eq_true rfl) (Nat.le_of_ble_eq_true rfl) rfl (Nat.le_of_ble_eq_true rfl) rfl rfl dX0_init_97 ?_
  refine y_aload_n g 0 dX0_init_100 rfl rfl ?_
  refine y_iconst (v := 1) g dX0_init_101 (by decide) ?_
  refine y_putN (fs2 := [.ref (rh (JG J) 58), .int 1, .int 0, .ref (rh (JG J) 61), .ref (rh (JG J) 62), .ref (rh (JG J) 63), .int 0, .int 0, .ref (rh (JG J) 64), .ref (rh (JG J) 65), .ref (rh (JG J) 66), .ref (rh (JG J) 67), .ref (rh (JG J) 68), .int 1, .int 0, .null, .null]) g hI fy_RX0_57 (Nat.le_of_ble_eq_true rfl) (Nat.le_of_ble_eq_true rfl) rfl (Nat.le_of_ble_eq_true rfl) rfl rfl dX0_init_102 ?_
  refine y_aload_n g 0 dX0_init_105 rfl rfl ?_
  refine y_iconst (v := 0) g dX0_init_106 (by decide) ?_
  refine y_putN (fs2 := [.ref (rh (JG J) 58), .int 1, .int 0, .ref (rh (JG J) 61), .ref (rh (JG J) 62), .ref (rh (JG J) 63), .int 0, .int 0, .ref (rh (JG J) 64), .ref (rh (JG J) 65), .ref (rh (JG J) 66), .ref (rh (JG J) 67), .ref (rh (JG J) 68), .int 1, .int 0, .null, .null]) g hI fy_RX0_60 (Nat.le_of_ble_eq_true rfl) (Nat.le_of_ble_eq_true rfl) rfl (Nat.le_of_ble_eq_true rfl) rfl rfl dX0_init_107 ?_
  refine y_aload_n g 0 dX0_init_110 rfl rfl ?_
  refine y_bipush (v := 72) g dX0_init_111 (by decide) ?_
  refine y_new_int (N := 72) g rfl (Nat.le_of_ble_eq_true rfl) hRc okA_int (by decide) (by decide) (Nat.le_of_ble_eq_true rfl) (Nat.le_of_ble_eq_true rfl) (Nat.le_of_ble_eq_true rfl) dX0_init_113 ?_
  refine y_swN (by decide) ?_
  refine y_putN (fs2 := [.ref (rh (JG J) 58), .int 1, .int 0, .ref (rh (JG J) 61), .ref (rh (JG J) 62), .ref (rh (JG J) 63), .int 0, .int 0, .ref (rh (JG J) 64), .ref (rh (JG J) 65), .ref (rh (JG J) 66), .ref (rh (JG J) 67), .ref (rh (JG J) 68), .int 1, .int 0, .ref (rh (JG J) 69), .null]) g hI fy_RX0_63 (Nat.le_of_ble_eq_true rfl) (Nat.le_of_ble_eq_true rfl) rfl (Nat.le_of_ble_eq_true rfl) rfl rfl dX0_init_115 ?_
  refine y_aload_n g 0 dX0_init_118 rfl rfl ?_
  refine y_bipush (v := 72) g dX0_init_119 (by decide) ?_
  refine y_new_boolean (N := 72) g rfl (Nat.le_of_ble_eq_true rfl) hRc okA_boolean (by decide) (by decide) (Nat.le_of_ble_eq_true rfl) (Nat.le_of_ble_eq_true rfl) (Nat.le_of_ble_eq_true rfl) dX0_init_121 ?_
  refine y_swN (by decide) ?_
  refine y_putN (fs2 := [.ref (rh (JG J) 58), .int 1, .int 0, .ref (rh (JG J) 61), .ref (rh (JG J) 62), .ref (rh (JG J) 63), .int 0, .int 0, .ref (rh (JG J) 64), .ref (rh (JG J) 65), .ref (rh (JG J) 66), .ref (rh (JG J) 67), .ref (rh (JG J) 68), .int 1, .int 0, .ref (rh (JG J) 69), .ref (rh (JG J) 70)]) g hI fy_RX0_66 (Nat.le_of_ble_eq_true rfl) (Nat.le_of_ble_eq_true rfl) rfl (Nat.le_of_ble_eq_true rfl) rfl rfl dX0_init_123 ?_
  refine y_cv (C2 := cat (JG J) C 57 71) (fun g hg => by
      by_cases hlt : g < 57
      · refine Or.inl ?_
        simp only [upC, cat]
        repeat rw [if_neg (by omega)]
      · obtain ⟨k, rfl⟩ : ∃ k, g = 57 + k := ⟨g - 57, by omega⟩
        have hk : k < 14 := by omega
        clear hlt hg
        exact (match k, hk with | 0, _ => Or.inl rfl | 1, _ => Or.inl rfl | 2, _ => Or.inl rfl | 3, _ => Or.inl rfl | 4, _ => Or.inl rfl | 5, _ => Or.inl rfl | 6, _ => Or.inl rfl | 7, _ => Or.inl rfl | 8, _ => Or.inl rfl | 9, _ => Or.inl rfl | 10, _ => Or.inl rfl | 11, _ => Or.inl rfl | 12, _ => Or.inl rfl | 13, _ => Or.inl rfl | k + 14, hk => absurd hk (by omega))) ?_
  exact y_vret g hr rfl (Nat.le_of_ble_eq_true rfl) dX0_init_126
set_option maxRecDepth 100000 in
set_option maxHeartbeats 8000000 in
theorem kc_86 (l : Launch) (G : GT) (hlin : Lin G) {C : Cm} (hC : C 86 = .inr (2, [.int 0, .null, .null, .null, .int 0, .null, .null, .null, .null, .null, .null, .int 0, .null, .int 0, .null, .null, .null])) : OkC l G yX2_init cX2_init 1 1 30 13 284 86 87 C 100 (cat G C 86 100) := by
  refine OkC.ofY (by decide) rfl (Nat.le_of_ble_eq_true rfl) hlin (fun J g hI hr hG hl hR hRc hn => ?_)
  subst hG
  refine y_cv (C2 := upC C 86 (.inr (2, [.int 0, .null, .null, .null, .int 0, .null, .null, .null, .null, .null, .null, .int 0, .null, .int 0, .null, .null, .null]))) (fun g _ => Or.inl <| by
    unfold upC
    by_cases h : g = 86
    · rw [h, if_pos rfl, hC]
    · rw [if_neg h]) ?_
  refine y_aload_n g 0 dX2_init_0 rfl rfl ?_
  refine y_objI g hR lo_RX2_3 ok_oin ok_oco (Nat.le_of_ble_eq_true rfl) (Nat.le_of_ble_eq_true rfl) dX2_init_1 ?_
  refine y_aload_n g 0 dX2_init_4 rfl rfl ?_
  refine y_iconst (v := 0) g dX2_init_5 (by decide) ?_
  refine y_putN (fs2 := [.int 0, .null, .null, .null, .int 0, .null, .null, .null, .null, .null, .null, .int 0, .null, .int 0, .null, .null, .null]) g hI fy_RX2_9 (Nat.le_of_ble_eq_true rfl) (Nat.le_of_ble_eq_true rfl) rfl (Nat.le_of_ble_eq_true rfl) rfl rfl dX2_init_6 ?_
  refine y_aload_n g 0 dX2_init_9 rfl rfl ?_
  refine y_bipush (v := 8) g dX2_init_10 (by decide) ?_
  refine y_new_long (N := 8) g rfl (Nat.le_of_ble_eq_true rfl) hRc okA_long (by decide) (by decide) (Nat.le_of_ble_eq_true rfl) (Nat.le_of_ble_eq_true rfl) (Nat.le_of_ble_eq_true rfl) dX2_init_12 ?_
  refine y_swN (by decide) ?_
  refine y_putN (fs2 := [.int 0, .ref (rh (JG J) 87), .null, .null, .int 0, .null, .null, .null, .null, .null, .null, .int 0, .null, .int 0, .null, .null, .null]) g hI fy_RX2_15 (Nat.le_of_ble_eq_true rfl) (Nat.le_of_ble_eq_true rfl) rfl (Nat.le_of_ble_eq_true rfl) rfl rfl dX2_init_14 ?_
  refine y_aload_n g 0 dX2_init_17 rfl rfl ?_
  refine y_bipush (v := 8) g dX2_init_18 (by decide) ?_
  refine y_new_int (N := 8) g rfl (Nat.le_of_ble_eq_true rfl) hRc okA_int (by decide) (by decide) (Nat.le_of_ble_eq_true rfl) (Nat.le_of_ble_eq_true rfl) (Nat.le_of_ble_eq_true rfl) dX2_init_20 ?_
  refine y_swN (by decide) ?_
  refine y_putN (fs2 := [.int 0, .ref (rh (JG J) 87), .ref (rh (JG J) 88), .null, .int 0, .null, .null, .null, .null, .null, .null, .int 0, .null, .int 0, .null, .null, .null]) g hI fy_RX2_19 (Nat.le_of_ble_eq_true rfl) (Nat.le_of_ble_eq_true rfl) rfl (Nat.le_of_ble_eq_true rfl) rfl rfl dX2_init_22 ?_
  refine y_aload_n g 0 dX2_init_25 rfl rfl ?_
  refine y_bipush (v := 64) g dX2_init_26 (by decide) ?_
  refine y_new_int (N := 64) g rfl (Nat.le_of_ble_eq_true rfl) hRc okA_int (by decide) (by decide) (Nat.le_of_ble_eq_true rfl) (Nat.le_of_ble_eq_true rfl) (Nat.le_of_ble_eq_true rfl) dX2_init_28 ?_
  refine y_swN (by decide) ?_
  refine y_putN (fs2 := [.int 0, .ref (rh (JG J) 87), .ref (rh (JG J) 88), .ref (rh (JG J) 89), .int 0, .null, .null, .null, .null, .null, .null, .int 0, .null, .int 0, .null, .null, .null]) g hI fy_RX2_23 (Nat.le_of_ble_eq_true rfl) (Nat.le_of_ble_eq_true rfl) rfl (Nat.le_of_ble_eq_true rfl) rfl rfl dX2_init_30 ?_
  refine y_aload_n g 0 dX2_init_33 rfl rfl ?_
  refine y_iconst (v := 0) g dX2_init_34 (by decide) ?_
  refine y_putN (fs2 := [.int 0, .ref (rh (JG J) 87), .ref (rh (JG J) 88), .ref (rh (JG J) 89), .int 0, .null, .null, .null, .null, .null, .null, .int 0, .null, .int 0, .null, .null, .null]) g hI fy_RX2_26 (Nat.le_of_ble_eq_true rfl) (Nat.le_of_ble_eq_true rfl) rfl (Nat.le_of_ble_eq_true rfl) rfl rfl dX2_init_35 ?_
  refine y_aload_n g 0 dX2_init_38 rfl rfl ?_
  refine y_bipush (v := 6) g dX2_init_39 (by decide) ?_
  refine y_new_long (N := 6) g rfl (Nat.le_of_ble_eq_true rfl) hRc okA_long (by decide) (by decide) (Nat.le_of_ble_eq_true rfl) (Nat.le_of_ble_eq_true rfl) (Nat.le_of_ble_eq_true rfl) dX2_init_41 ?_
  refine y_swN (by decide) ?_
  refine y_putN (fs2 := [.int 0, .ref (rh (JG J) 87), .ref (rh (JG J) 88), .ref (rh (JG J) 89), .int 0, .ref (rh (JG J) 90), .null, .null, .null, .null, .null, .int 0, .null, .int 0, .null, .null, .null]) g hI fy_RX2_29 (Nat.le_of_ble_eq_true rfl) (Nat.le_of_ble_eq_true rfl) rfl (Nat.le_of_ble_eq_true rfl) rfl rfl dX2_init_43 ?_
  refine y_aload_n g 0 dX2_init_46 rfl rfl ?_
  refine y_bipush (v := 6) g dX2_init_47 (by decide) ?_
  refine y_new_int (N := 6) g rfl (Nat.le_of_ble_eq_true rfl) hRc okA_int (by decide) (by decide) (Nat.le_of_ble_eq_true rfl) (Nat.le_of_ble_eq_true rfl) (Nat.le_of_ble_eq_true rfl) dX2_init_49 ?_
  refine y_swN (by decide) ?_
  refine y_putN (fs2 := [.int 0, .ref (rh (JG J) 87), .ref (rh (JG J) 88), .ref (rh (JG J) 89), .int 0, .ref (rh (JG J) 90), .ref (rh (JG J) 91), .null, .null, .null, .null, .int 0, .null, .int 0, .null, .null, .null]) g hI fy_RX2_32 (Nat.le_of_ble_eq_true rfl) (Nat.le_of_ble_eq_true rfl) rfl (Nat.le_of_ble_eq_true rfl) rfl rfl dX2_init_51 ?_
  refine y_aload_n g 0 dX2_init_54 rfl rfl ?_
  refine y_bipush (v := 6) g dX2_init_55 (by decide) ?_
  refine y_new_int (N := 6) g rfl (Nat.le_of_ble_eq_true rfl) hRc okA_int (by decide) (by decide) (Nat.le_of_ble_eq_true rfl) (Nat.le_of_ble_eq_true rfl) (Nat.le_of_ble_eq_true rfl) dX2_init_57 ?_
  refine y_swN (by decide) ?_
  refine y_putN (fs2 := [.int 0, .ref (rh (JG J) 87), .ref (rh (JG J) 88), .ref (rh (JG J) 89), .int 0, .ref (rh (JG J) 90), .ref (rh (JG J) 91), .ref (rh (JG J) 92), .null, .null, .null, .int 0, .null, .int 0, .null, .null, .null]) g hI fy_RX2_35 (Nat.le_of_ble_eq_true rfl) (Nat.le_of_ble_eq_true rfl) rfl (Nat.le_of_ble_eq_true rfl) rfl rfl dX2_init_59 ?_
  refine y_aload_n g 0 dX2_init_62 rfl rfl ?_
  refine y_bipush (v := 6) g dX2_init_63 (by decide) ?_
  refine y_new_int (N := 6) g rfl (Nat.le_of_ble_eq_true rfl) hRc okA_int (by decide) (by decide) (Nat.le_of_ble_eq_true rfl) (Nat.le_of_ble_eq_true rfl) (Nat.le_of_ble_eq_true rfl) dX2_init_65 ?_
  refine y_swN (by decide) ?_
  refine y_putN (fs2 := [.int 0, .ref (rh (JG J) 87), .ref (rh (JG J) 88), .ref (rh (JG J) 89), .int 0, .ref (rh (JG J) 90), .ref (rh (JG J) 91), .ref (rh (JG J) 92), .ref (rh (JG J) 93), .null, .null, .int 0, .null, .int 0, .null, .null, .null]) g hI fy_RX2_38 (Nat.le_of_ble_eq_true rfl) (Nat.le_of_ble_eq_true rfl) rfl (Nat.le_of_ble_eq_true rfl) rfl rfl dX2_init_67 ?_
  refine y_aload_n g 0 dX2_init_70 rfl rfl ?_
  refine y_bipush (v := 72) g dX2_init_71 (by decide) ?_
  refine y_new_int (N := 72) g rfl (Nat.le_of_ble_eq_true rfl) hRc okA_int (by decide) (by decide) (Nat.le_of_ble_eq_true rfl) (Nat.le_of_ble_eq_true rfl) (Nat.le_of_ble_eq_true rfl) dX2_init_73 ?_
  refine y_swN (by decide) ?_
  refine y_putN (fs2 := [.int 0, .ref (rh (JG J) 87), .ref (rh (JG J) 88), .ref (rh (JG J) 89), .int 0, .ref (rh (JG J) 90), .ref (rh (JG J) 91), .ref (rh (JG J) 92), .ref (rh (JG J) 93), .ref (rh (JG J) 94), .null, .int 0, .null, .int 0, .null, .null, .null]) g hI fy_RX2_41 (Nat.le_of_ble_eq_true rfl) (Nat.le_of_ble_eq_true rfl) rfl (Nat.le_of_ble_eq_true rfl) rfl rfl dX2_init_75 ?_
  refine y_aload_n g 0 dX2_init_78 rfl rfl ?_
  refine y_bipush (v := 72) g dX2_init_79 (by decide) ?_
  refine y_new_int (N := 72) g rfl (Nat.le_of_ble_eq_true rfl) hRc okA_int (by decide) (by decide) (Nat.le_of_ble_eq_true rfl) (Nat.le_of_ble_eq_true rfl) (Nat.le_of_ble_eq_true rfl) dX2_init_81 ?_
  refine y_swN (by decide) ?_
  refine y_putN (fs2 := [.int 0, .ref (rh (JG J) 87), .ref (rh (JG J) 88), .ref (rh (JG J) 89), .int 0, .ref (rh (JG J) 90), .ref (rh (JG J) 91), .ref (rh (JG J) 92), .ref (rh (JG J) 93), .ref (rh (JG J) 94), .ref (rh (JG J) 95), .int 0, .null, .int 0, .null, .null, .null]) g hI fy_RX2_44 (Nat.le_of_ble_eq_true rfl) (Nat.le_of_ble_eq_true rfl) rfl (Nat.le_of_ble_eq_true rfl) rfl rfl dX2_init_83 ?_
  refine y_aload_n g 0 dX2_init_86 rfl rfl ?_
  refine y_iconst (v := 0) g dX2_init_87 (by decide) ?_
  refine y_putN (fs2 := [.int 0, .ref (rh (JG J) 87), .ref (rh (JG J) 88), .ref (rh (JG J) 89), .int 0, .ref (rh (JG J) 90), .ref (rh (JG J) 91), .ref (rh (JG J) 92), .ref (rh (JG J) 93), .ref (rh (JG J) 94), .ref (rh (JG J) 95), .int 0, .null, .int 0, .null, .null, .null]) g hI fy_RX2_47 (Nat.le_of_ble_eq_true rfl) (Nat.le_of_ble_eq_true rfl) rfl (Nat.le_of_ble_eq_true rfl) rfl rfl dX2_init_88 ?_
  refine y_aload_n g 0 dX2_init_91 rfl rfl ?_
  refine y_bipush (v := 24) g dX2_init_92 (by decide) ?_
  refine y_new_int (N := 24) g rfl (Nat.le_of_ble_eq_true rfl) hRc okA_int (by decide) (by decide) (Nat.le_of_ble_eq_true rfl) (Nat.le_of_ble_eq_true rfl) (Nat.le_of_ble_eq_true rfl) dX2_init_94 ?_
  refine y_swN (by decide) ?_
  refine y_putN (fs2 := [.int 0, .ref (rh (JG J) 87), .ref (rh (JG J) 88), .ref (rh (JG J) 89), .int 0, .ref (rh (JG J) 90), .ref (rh (JG J) 91), .ref (rh (JG J) 92), .ref (rh (JG J) 93), .ref (rh (JG J) 94), .ref (rh (JG J) 95), .int 0, .ref (rh (JG J) 96), .int 0, .null, .null, .null]) g hI fy_RX2_50 (Nat.le_of_ble_eq_true rfl) (Nat.le_of_ble_eq_true rfl) rfl (Nat.le_of_ble_eq_true rfl) rfl rfl dX2_init_96 ?_
  refine y_aload_n g 0 dX2_init_99 rfl rfl ?_
  refine y_iconst (v := 0) g dX2_init_100 (by decide) ?_
  refine y_putN (fs2 := [.int 0, .ref (rh (JG J) 87), .ref (rh (JG J) 88), .ref (rh (JG J) 89), .int 0, .ref (rh (JG J) 90), .ref (rh (JG J) 91), .ref (rh (JG J) 92), .ref (rh (JG J) 93), .ref (rh (JG J) 94), .ref (rh (JG J) 95), .int 0, .ref (rh (JG J) 96), .int 0, .null, .null, .null]) g hI fy_RX2_53 (Nat.le_of_ble_eq_true rfl) (Nat.le_of_ble_eq_true rfl) rfl (Nat.le_of_ble_eq_true rfl) rfl rfl dX2_init_101 ?_
  refine y_aload_n g 0 dX2_init_104 rfl rfl ?_
  refine y_iconst (v := 2) g dX2_init_105 (by decide) ?_
  refine y_new_long (N := 2) g rfl (Nat.le_of_ble_eq_true rfl) hRc okA_long (by decide) (by decide) (Nat.le_of_ble_eq_true rfl) (Nat.le_of_ble_eq_true rfl) (Nat.le_of_ble_eq_true rfl) dX2_init_106 ?_
  refine y_swN (by decide) ?_
  refine y_putN (fs2 := [.int 0, .ref (rh (JG J) 87), .ref (rh (JG J) 88), .ref (rh (JG J) 89), .int 0, .ref (rh (JG J) 90), .ref (rh (JG J) 91), .ref (rh (JG J) 92), .ref (rh (JG J) 93), .ref (rh (JG J) 94), .ref (rh (JG J) 95), .int 0, .ref (rh (JG J) 96), .int 0, .ref (rh (JG J) 97), .null, .null]) g hI fy_RX2_56 (Nat.le_of_ble_eq_true rfl) (Nat.le_of_ble_eq_true rfl) rfl (Nat.le_of_ble_eq_true rfl) rfl rfl dX2_init_108 ?_
  refine y_aload_n g 0 dX2_init_111 rfl rfl ?_
  refine y_bipush (v := 8) g dX2_init_112 (by decide) ?_
  refine y_new_int (N := 8) g rfl (Nat.le_of_ble_eq_true rfl) hRc okA_int (by decide) (by decide) (Nat.le_of_ble_eq_true rfl) (Nat.le_of_ble_eq_true rfl) (Nat.le_of_ble_eq_true rfl) dX2_init_114 ?_
  refine y_swN (by decide) ?_
  refine y_putN (fs2 := [.int 0, .ref (rh (JG J) 87), .ref (rh (JG J) 88), .ref (rh (JG J) 89), .int 0, .ref (rh (JG J) 90), .ref (rh (JG J) 91), .ref (rh (JG J) 92), .ref (rh (JG J) 93), .ref (rh (JG J) 94), .ref (rh (JG J) 95), .int 0, .ref (rh (JG J) 96), .int 0, .ref (rh (JG J) 97), .ref (rh (JG J) 98), .null]) g hI fy_RX2_59 (Nat.le_of_ble_eq_true rfl) (Nat.le_of_ble_eq_true rfl) rfl (Nat.le_of_ble_eq_true rfl) rfl rfl dX2_init_116 ?_
  refine y_aload_n g 0 dX2_init_119 rfl rfl ?_
  refine y_iconst (v := 2) g dX2_init_120 (by decide) ?_
  refine y_new_int (N := 2) g rfl (Nat.le_of_ble_eq_true rfl) hRc okA_int (by decide) (by decide) (Nat.le_of_ble_eq_true rfl) (Nat.le_of_ble_eq_true rfl) (Nat.le_of_ble_eq_true rfl) dX2_init_121 ?_
  refine y_swN (by decide) ?_
  refine y_putN (fs2 := [.int 0, .ref (rh (JG J) 87), .ref (rh (JG J) 88), .ref (rh (JG J) 89), .int 0, .ref (rh (JG J) 90), .ref (rh (JG J) 91), .ref (rh (JG J) 92), .ref (rh (JG J) 93), .ref (rh (JG J) 94), .ref (rh (JG J) 95), .int 0, .ref (rh (JG J) 96), .int 0, .ref (rh (JG J) 97), .ref (rh (JG J) 98), .ref (rh (JG J) 99)]) g hI fy_RX2_62 (Nat.le_of_ble_eq_true rfl) (Nat.le_of_ble_eq_true rfl) rfl (Nat.le_of_ble_eq_true rfl) rfl rfl dX2_init_123 ?_
  refine y_cv (C2 := cat (JG J) C 86 100) (fun g hg => by
      by_cases hlt : g < 86
      · refine Or.inl ?_
        simp only [upC, cat]
        repeat rw [if_neg (by omega)]
      · obtain ⟨k, rfl⟩ : ∃ k, g = 86 + k := ⟨g - 86, by omega⟩
        have hk : k < 14 := by omega
        clear hlt hg
        exact (match k, hk with | 0, _ => Or.inl rfl | 1, _ => Or.inl rfl | 2, _ => Or.inl rfl | 3, _ => Or.inl rfl | 4, _ => Or.inl rfl | 5, _ => Or.inl rfl | 6, _ => Or.inl rfl | 7, _ => Or.inl rfl | 8, _ => Or.inl rfl | 9, _ => Or.inl rfl | 10, _ => Or.inl rfl | 11, _ => Or.inl rfl | 12, _ => Or.inl rfl | 13, _ => Or.inl rfl | k + 14, hk => absurd hk (by omega))) ?_
  exact y_vret g hr rfl (Nat.le_of_ble_eq_true rfl) dX2_init_126
set_option maxRecDepth 100000 in
set_option maxHeartbeats 8000000 in
theorem kc_106 (l : Launch) (G : GT) (hlin : Lin G) {C : Cm} (hC : C 106 = .inr (2, [.int 0, .null, .null, .null, .int 0, .null, .null, .null, .null, .null, .null, .int 0, .null, .int 0, .null, .null, .null])) : OkC l G yX2_init cX2_init 1 1 30 13 284 106 107 C 120 (cat G C 106 120) := by
  refine OkC.ofY (by decide) rfl (Nat.le_of_ble_eq_true rfl) hlin (fun J g hI hr hG hl hR hRc hn => ?_)
  subst hG
  refine y_cv (C2 := upC C 106 (.inr (2, [.int 0, .null, .null, .null, .int 0, .null, .null, .null, .null, .null, .null, .int 0, .null, .int 0, .null, .null, .null]))) (fun g _ => Or.inl <| by
    unfold upC
    by_cases h : g = 106
    · rw [h, if_pos rfl, hC]
    · rw [if_neg h]) ?_
  refine y_aload_n g 0 dX2_init_0 rfl rfl ?_
  refine y_objI g hR lo_RX2_3 ok_oin ok_oco (Nat.le_of_ble_eq_true rfl) (Nat.le_of_ble_eq_true rfl) dX2_init_1 ?_
  refine y_aload_n g 0 dX2_init_4 rfl rfl ?_
  refine y_iconst (v := 0) g dX2_init_5 (by decide) ?_
  refine y_putN (fs2 := [.int 0, .null, .null, .null, .int 0, .null, .null, .null, .null, .null, .null, .int 0, .null, .int 0, .null, .null, .null]) g hI fy_RX2_9 (Nat.le_of_ble_eq_true rfl) (Nat.le_of_ble_eq_true rfl) rfl (Nat.le_of_ble_eq_true rfl) rfl rfl dX2_init_6 ?_
  refine y_aload_n g 0 dX2_init_9 rfl rfl ?_
  refine y_bipush (v := 8) g dX2_init_10 (by decide) ?_
  refine y_new_long (N := 8) g rfl (Nat.le_of_ble_eq_true rfl) hRc okA_long (by decide) (by decide) (Nat.le_of_ble_eq_true rfl) (Nat.le_of_ble_eq_true rfl) (Nat.le_of_ble_eq_true rfl) dX2_init_12 ?_
  refine y_swN (by decide) ?_
  refine y_putN (fs2 := [.int 0, .ref (rh (JG J) 107), .null, .null, .int 0, .null, .null, .null, .null, .null, .null, .int 0, .null, .int 0, .null, .null, .null]) g hI fy_RX2_15 (Nat.le_of_ble_eq_true rfl) (Nat.le_of_ble_eq_true rfl) rfl (Nat.le_of_ble_eq_true rfl) rfl rfl dX2_init_14 ?_
  refine y_aload_n g 0 dX2_init_17 rfl rfl ?_
  refine y_bipush (v := 8) g dX2_init_18 (by decide) ?_
  refine y_new_int (N := 8) g rfl (Nat.le_of_ble_eq_true rfl) hRc okA_int (by decide) (by decide) (Nat.le_of_ble_eq_true rfl) (Nat.le_of_ble_eq_true rfl) (Nat.le_of_ble_eq_true rfl) dX2_init_20 ?_
  refine y_swN (by decide) ?_
  refine y_putN (fs2 := [.int 0, .ref (rh (JG J) 107), .ref (rh (JG J) 108), .null, .int 0, .null, .null, .null, .null, .null, .null, .int 0, .null, .int 0, .null, .null, .null]) g hI fy_RX2_19 (Nat.le_of_ble_eq_true rfl) (Nat.le_of_ble_eq_true rfl) rfl (Nat.le_of_ble_eq_true rfl) rfl rfl dX2_init_22 ?_
  refine y_aload_n g 0 dX2_init_25 rfl rfl ?_
  refine y_bipush (v := 64) g dX2_init_26 (by decide) ?_
  refine y_new_int (N := 64) g rfl (Nat.le_of_ble_eq_true rfl) hRc okA_int (by decide) (by decide) (Nat.le_of_ble_eq_true rfl) (Nat.le_of_ble_eq_true rfl) (Nat.le_of_ble_eq_true rfl) dX2_init_28 ?_
  refine y_swN (by decide) ?_
  refine y_putN (fs2 := [.int 0, .ref (rh (JG J) 107), .ref (rh (JG J) 108), .ref (rh (JG J) 109), .int 0, .null, .null, .null, .null, .null, .null, .int 0, .null, .int 0, .null, .null, .null]) g hI fy_RX2_23 (Nat.le_of_ble_eq_true rfl) (Nat.le_of_ble_eq_true rfl) rfl (Nat.le_of_ble_eq_true rfl) rfl rfl dX2_init_30 ?_
  refine y_aload_n g 0 dX2_init_33 rfl rfl ?_
  refine y_iconst (v := 0) g dX2_init_34 (by decide) ?_
  refine y_putN (fs2 := [.int 0, .ref (rh (JG J) 107), .ref (rh (JG J) 108), .ref (rh (JG J) 109), .int 0, .null, .null, .null, .null, .null, .null, .int 0, .null, .int 0, .null, .null, .null]) g hI fy_RX2_26 (Nat.le_of_ble_eq_true rfl) (Nat.le_of_ble_eq_true rfl) rfl (Nat.le_of_ble_eq_true rfl) rfl rfl dX2_init_35 ?_
  refine y_aload_n g 0 dX2_init_38 rfl rfl ?_
  refine y_bipush (v := 6) g dX2_init_39 (by decide) ?_
  refine y_new_long (N := 6) g rfl (Nat.le_of_ble_eq_true rfl) hRc okA_long (by decide) (by decide) (Nat.le_of_ble_eq_true rfl) (Nat.le_of_ble_eq_true rfl) (Nat.le_of_ble_eq_true rfl) dX2_init_41 ?_
  refine y_swN (by decide) ?_
  refine y_putN (fs2 := [.int 0, .ref (rh (JG J) 107), .ref (rh (JG J) 108), .ref (rh (JG J) 109), .int 0, .ref (rh (JG J) 110), .null, .null, .null, .null, .null, .int 0, .null, .int 0, .null, .null, .null]) g hI fy_RX2_29 (Nat.le_of_ble_eq_true rfl) (Nat.le_of_ble_eq_true rfl) rfl (Nat.le_of_ble_eq_true rfl) rfl rfl dX2_init_43 ?_
  refine y_aload_n g 0 dX2_init_46 rfl rfl ?_
  refine y_bipush (v := 6) g dX2_init_47 (by decide) ?_
  refine y_new_int (N := 6) g rfl (Nat.le_of_ble_eq_true rfl) hRc okA_int (by decide) (by decide) (Nat.le_of_ble_eq_true rfl) (Nat.le_of_ble_eq_true rfl) (Nat.le_of_ble_eq_true rfl) dX2_init_49 ?_
  refine y_swN (by decide) ?_
  refine y_putN (fs2 := [.int 0, .ref (rh (JG J) 107), .ref (rh (JG J) 108), .ref (rh (JG J) 109), .int 0, .ref (rh (JG J) 110), .ref (rh (JG J) 111), .null, .null, .null, .null, .int 0, .null, .int 0, .null, .null, .null]) g hI fy_RX2_32 (Nat.le_of_ble_eq_true rfl) (Nat.le_of_ble_eq_true rfl) rfl (Nat.le_of_ble_eq_true rfl) rfl rfl dX2_init_51 ?_
  refine y_aload_n g 0 dX2_init_54 rfl rfl ?_
  refine y_bipush (v := 6) g dX2_init_55 (by decide) ?_
  refine y_new_int (N := 6) g rfl (Nat.le_of_ble_eq_true rfl) hRc okA_int (by decide) (by decide) (Nat.le_of_ble_eq_true rfl) (Nat.le_of_ble_eq_true rfl) (Nat.le_of_ble_eq_true rfl) dX2_init_57 ?_
  refine y_swN (by decide) ?_
  refine y_putN (fs2 := [.int 0, .ref (rh (JG J) 107), .ref (rh (JG J) 108), .ref (rh (JG J) 109), .int 0, .ref (rh (JG J) 110), .ref (rh (JG J) 111), .ref (rh (JG J) 112), .null, .null, .null, .int 0, .null, .int 0, .null, .null, .null]) g hI fy_RX2_35 (Nat.le_of_ble_eq_true rfl) (Nat.le_of_ble_eq_true rfl) rfl (Nat.le_of_ble_eq_true rfl) rfl rfl dX2_init_59 ?_
  refine y_aload_n g 0 dX2_init_62 rfl rfl ?_
  refine y_bipush (v := 6) g dX2_init_63 (by decide) ?_
  refine y_new_int (N := 6) g rfl (Nat.le_of_ble_eq_true rfl) hRc okA_int (by decide) (by decide) (Nat.le_of_ble_eq_true rfl) (Nat.le_of_ble_eq_true rfl) (Nat.le_of_ble_eq_true rfl) dX2_init_65 ?_
  refine y_swN (by decide) ?_
  refine y_putN (fs2 := [.int 0, .ref (rh (JG J) 107), .ref (rh (JG J) 108), .ref (rh (JG J) 109), .int 0, .ref (rh (JG J) 110), .ref (rh (JG J) 111), .ref (rh (JG J) 112), .ref (rh (JG J) 113), .null, .null, .int 0, .null, .int 0, .null, .null, .null]) g hI fy_RX2_38 (Nat.le_of_ble_eq_true rfl) (Nat.le_of_ble_eq_true rfl) rfl (Nat.le_of_ble_eq_true rfl) rfl rfl dX2_init_67 ?_
  refine y_aload_n g 0 dX2_init_70 rfl rfl ?_
  refine y_bipush (v := 72) g dX2_init_71 (by decide) ?_
  refine y_new_int (N := 72) g rfl (Nat.le_of_ble_eq_true rfl) hRc okA_int (by decide) (by decide) (Nat.le_of_ble_eq_true rfl) (Nat.le_of_ble_eq_true rfl) (Nat.le_of_ble_eq_true rfl) dX2_init_73 ?_
  refine y_swN (by decide) ?_
  refine y_putN (fs2 := [.int 0, .ref (rh (JG J) 107), .ref (rh (JG J) 108), .ref (rh (JG J) 109), .int 0, .ref (rh (JG J) 110), .ref (rh (JG J) 111), .ref (rh (JG J) 112), .ref (rh (JG J) 113), .ref (rh (JG J) 114), .null, .int 0, .null, .int 0, .null, .null, .null]) g hI fy_RX2_41 (Nat.le_of_ble_eq_true rfl) (Nat.le_of_ble_eq_true rfl) rfl (Nat.le_of_ble_eq_true rfl) rfl rfl dX2_init_75 ?_
  refine y_aload_n g 0 dX2_init_78 rfl rfl ?_
  refine y_bipush (v := 72) g dX2_init_79 (by decide) ?_
  refine y_new_int (N := 72) g rfl (Nat.le_of_ble_eq_true rfl) hRc okA_int (by decide) (by decide) (Nat.le_of_ble_eq_true rfl) (Nat.le_of_ble_eq_true rfl) (Nat.le_of_ble_eq_true rfl) dX2_init_81 ?_
  refine y_swN (by decide) ?_
  refine y_putN (fs2 := [.int 0, .ref (rh (JG J) 107), .ref (rh (JG J) 108), .ref (rh (JG J) 109), .int 0, .ref (rh (JG J) 110), .ref (rh (JG J) 111), .ref (rh (JG J) 112), .ref (rh (JG J) 113), .ref (rh (JG J) 114), .ref (rh (JG J) 115), .int 0, .null, .int 0, .null, .null, .null]) g hI fy_RX2_44 (Nat.le_of_ble_eq_true rfl) (Nat.le_of_ble_eq_true rfl) rfl (Nat.le_of_ble_eq_true rfl) rfl rfl dX2_init_83 ?_
  refine y_aload_n g 0 dX2_init_86 rfl rfl ?_
  refine y_iconst (v := 0) g dX2_init_87 (by decide) ?_
  refine y_putN (fs2 := [.int 0, .ref (rh (JG J) 107), .ref (rh (JG J) 108), .ref (rh (JG J) 109), .int 0, .ref (rh (JG J) 110), .ref (rh (JG J) 111), .ref (rh (JG J) 112), .ref (rh (JG J) 113), .ref (rh (JG J) 114), .ref (rh (JG J) 115), .int 0, .null, .int 0, .null, .null, .null]) g hI fy_RX2_47 (Nat.le_of_ble_eq_true rfl) (Nat.le_of_ble_eq_true rfl) rfl (Nat.le_of_ble_eq_true rfl) rfl rfl dX2_init_88 ?_
  refine y_aload_n g 0 dX2_init_91 rfl rfl ?_
  refine y_bipush (v := 24) g dX2_init_92 (by decide) ?_
  refine y_new_int (N := 24) g rfl (Nat.le_of_ble_eq_true rfl) hRc okA_int (by decide) (by decide) (Nat.le_of_ble_eq_true rfl) (Nat.le_of_ble_eq_true rfl) (Nat.le_of_ble_eq_true rfl) dX2_init_94 ?_
  refine y_swN (by decide) ?_
  refine y_putN (fs2 := [.int 0, .ref (rh (JG J) 107), .ref (rh (JG J) 108), .ref (rh (JG J) 109), .int 0, .ref (rh (JG J) 110), .ref (rh (JG J) 111), .ref (rh (JG J) 112), .ref (rh (JG J) 113), .ref (rh (JG J) 114), .ref (rh (JG J) 115), .int 0, .ref (rh (JG J) 116), .int 0, .null, .null, .null]) g hI fy_RX2_50 (Nat.le_of_ble_eq_true rfl) (Nat.le_of_ble_eq_true rfl) rfl (Nat.le_of_ble_eq_true rfl) rfl rfl dX2_init_96 ?_
  refine y_aload_n g 0 dX2_init_99 rfl rfl ?_
  refine y_iconst (v := 0) g dX2_init_100 (by decide) ?_
  refine y_putN (fs2 := [.int 0, .ref (rh (JG J) 107), .ref (rh (JG J) 108), .ref (rh (JG J) 109), .int 0, .ref (rh (JG J) 110), .ref (rh (JG J) 111), .ref (rh (JG J) 112), .ref (rh (JG J) 113), .ref (rh (JG J) 114), .ref (rh (JG J) 115), .int 0, .ref (rh (JG J) 116), .int 0, .null, .null, .null]) g hI fy_RX2_53 (Nat.le_of_ble_eq_true rfl) (Nat.le_of_ble_eq_true rfl) rfl (Nat.le_of_ble_eq_true rfl) rfl rfl dX2_init_101 ?_
  refine y_aload_n g 0 dX2_init_104 rfl rfl ?_
  refine y_iconst (v := 2) g dX2_init_105 (by decide) ?_
  refine y_new_long (N := 2) g rfl (Nat.le_of_ble_eq_true rfl) hRc okA_long (by decide) (by decide) (Nat.le_of_ble_eq_true rfl) (Nat.le_of_ble_eq_true rfl) (Nat.le_of_ble_eq_true rfl) dX2_init_106 ?_
  refine y_swN (by decide) ?_
  refine y_putN (fs2 := [.int 0, .ref (rh (JG J) 107), .ref (rh (JG J) 108), .ref (rh (JG J) 109), .int 0, .ref (rh (JG J) 110), .ref (rh (JG J) 111), .ref (rh (JG J) 112), .ref (rh (JG J) 113), .ref (rh (JG J) 114), .ref (rh (JG J) 115), .int 0, .ref (rh (JG J) 116), .int 0, .ref (rh (JG J) 117), .null, .null]) g hI fy_RX2_56 (Nat.le_of_ble_eq_true rfl) (Nat.le_of_ble_eq_true rfl) rfl (Nat.le_of_ble_eq_true rfl) rfl rfl dX2_init_108 ?_
  refine y_aload_n g 0 dX2_init_111 rfl rfl ?_
  refine y_bipush (v := 8) g dX2_init_112 (by decide) ?_
  refine y_new_int (N := 8) g rfl (Nat.le_of_ble_eq_true rfl) hRc okA_int (by decide) (by decide) (Nat.le_of_ble_eq_true rfl) (Nat.le_of_ble_eq_true rfl) (Nat.le_of_ble_eq_true rfl) dX2_init_114 ?_
  refine y_swN (by decide) ?_
  refine y_putN (fs2 := [.int 0, .ref (rh (JG J) 107), .ref (rh (JG J) 108), .ref (rh (JG J) 109), .int 0, .ref (rh (JG J) 110), .ref (rh (JG J) 111), .ref (rh (JG J) 112), .ref (rh (JG J) 113), .ref (rh (JG J) 114), .ref (rh (JG J) 115), .int 0, .ref (rh (JG J) 116), .int 0, .ref (rh (JG J) 117), .ref (rh (JG J) 118), .null]) g hI fy_RX2_59 (Nat.le_of_ble_eq_true rfl) (Nat.le_of_ble_eq_true rfl) rfl (Nat.le_of_ble_eq_true rfl) rfl rfl dX2_init_116 ?_
  refine y_aload_n g 0 dX2_init_119 rfl rfl ?_
  refine y_iconst (v := 2) g dX2_init_120 (by decide) ?_
  refine y_new_int (N := 2) g rfl (Nat.le_of_ble_eq_true rfl) hRc okA_int (by decide) (by decide) (Nat.le_of_ble_eq_true rfl) (Nat.le_of_ble_eq_true rfl) (Nat.le_of_ble_eq_true rfl) dX2_init_121 ?_
  refine y_swN (by decide) ?_
  refine y_putN (fs2 := [.int 0, .ref (rh (JG J) 107), .ref (rh (JG J) 108), .ref (rh (JG J) 109), .int 0, .ref (rh (JG J) 110), .ref (rh (JG J) 111), .ref (rh (JG J) 112), .ref (rh (JG J) 113), .ref (rh (JG J) 114), .ref (rh (JG J) 115), .int 0, .ref (rh (JG J) 116), .int 0, .ref (rh (JG J) 117), .ref (rh (JG J) 118), .ref (rh (JG J) 119)]) g hI fy_RX2_62 (Nat.le_of_ble_eq_true rfl) (Nat.le_of_ble_eq_true rfl) rfl (Nat.le_of_ble_eq_true rfl) rfl rfl dX2_init_123 ?_
  refine y_cv (C2 := cat (JG J) C 106 120) (fun g hg => by
      by_cases hlt : g < 106
      · refine Or.inl ?_
        simp only [upC, cat]
        repeat rw [if_neg (by omega)]
      · obtain ⟨k, rfl⟩ : ∃ k, g = 106 + k := ⟨g - 106, by omega⟩
        have hk : k < 14 := by omega
        clear hlt hg
        exact (match k, hk with | 0, _ => Or.inl rfl | 1, _ => Or.inl rfl | 2, _ => Or.inl rfl | 3, _ => Or.inl rfl | 4, _ => Or.inl rfl | 5, _ => Or.inl rfl | 6, _ => Or.inl rfl | 7, _ => Or.inl rfl | 8, _ => Or.inl rfl | 9, _ => Or.inl rfl | 10, _ => Or.inl rfl | 11, _ => Or.inl rfl | 12, _ => Or.inl rfl | 13, _ => Or.inl rfl | k + 14, hk => absurd hk (by omega))) ?_
  exact y_vret g hr rfl (Nat.le_of_ble_eq_true rfl) dX2_init_126
set_option maxRecDepth 100000 in
set_option maxHeartbeats 8000000 in
theorem kc_126 (l : Launch) (G : GT) (hlin : Lin G) {C : Cm} (hC : C 126 = .inr (2, [.int 0, .null, .null, .null, .int 0, .null, .null, .null, .null, .null, .null, .int 0, .null, .int 0, .null, .null, .null])) : OkC l G yX2_init cX2_init 1 1 30 13 284 126 127 C 140 (cat G C 126 140) := by
  refine OkC.ofY (by decide) rfl (Nat.le_of_ble_eq_true rfl) hlin (fun J g hI hr hG hl hR hRc hn => ?_)
  subst hG
  refine y_cv (C2 := upC C 126 (.inr (2, [.int 0, .null, .null, .null, .int 0, .null, .null, .null, .null, .null, .null, .int 0, .null, .int 0, .null, .null, .null]))) (fun g _ => Or.inl <| by
    unfold upC
    by_cases h : g = 126
    · rw [h, if_pos rfl, hC]
    · rw [if_neg h]) ?_
  refine y_aload_n g 0 dX2_init_0 rfl rfl ?_
  refine y_objI g hR lo_RX2_3 ok_oin ok_oco (Nat.le_of_ble_eq_true rfl) (Nat.le_of_ble_eq_true rfl) dX2_init_1 ?_
  refine y_aload_n g 0 dX2_init_4 rfl rfl ?_
  refine y_iconst (v := 0) g dX2_init_5 (by decide) ?_
  refine y_putN (fs2 := [.int 0, .null, .null, .null, .int 0, .null, .null, .null, .null, .null, .null, .int 0, .null, .int 0, .null, .null, .null]) g hI fy_RX2_9 (Nat.le_of_ble_eq_true rfl) (Nat.le_of_ble_eq_true rfl) rfl (Nat.le_of_ble_eq_true rfl) rfl rfl dX2_init_6 ?_
  refine y_aload_n g 0 dX2_init_9 rfl rfl ?_
  refine y_bipush (v := 8) g dX2_init_10 (by decide) ?_
  refine y_new_long (N := 8) g rfl (Nat.le_of_ble_eq_true rfl) hRc okA_long (by decide) (by decide) (Nat.le_of_ble_eq_true rfl) (Nat.le_of_ble_eq_true rfl) (Nat.le_of_ble_eq_true rfl) dX2_init_12 ?_
  refine y_swN (by decide) ?_
  refine y_putN (fs2 := [.int 0, .ref (rh (JG J) 127), .null, .null, .int 0, .null, .null, .null, .null, .null, .null, .int 0, .null, .int 0, .null, .null, .null]) g hI fy_RX2_15 (Nat.le_of_ble_eq_true rfl) (Nat.le_of_ble_eq_true rfl) rfl (Nat.le_of_ble_eq_true rfl) rfl rfl dX2_init_14 ?_
  refine y_aload_n g 0 dX2_init_17 rfl rfl ?_
  refine y_bipush (v := 8) g dX2_init_18 (by decide) ?_
  refine y_new_int (N := 8) g rfl (Nat.le_of_ble_eq_true rfl) hRc okA_int (by decide) (by decide) (Nat.le_of_ble_eq_true rfl) (Nat.le_of_ble_eq_true rfl) (Nat.le_of_ble_eq_true rfl) dX2_init_20 ?_
  refine y_swN (by decide) ?_
  refine y_putN (fs2 := [.int 0, .ref (rh (JG J) 127), .ref (rh (JG J) 128), .null, .int 0, .null, .null, .null, .null, .null, .null, .int 0, .null, .int 0, .null, .null, .null]) g hI fy_RX2_19 (Nat.le_of_ble_eq_true rfl) (Nat.le_of_ble_eq_true rfl) rfl (Nat.le_of_ble_eq_true rfl) rfl rfl dX2_init_22 ?_
  refine y_aload_n g 0 dX2_init_25 rfl rfl ?_
  refine y_bipush (v := 64) g dX2_init_26 (by decide) ?_
  refine y_new_int (N := 64) g rfl (Nat.le_of_ble_eq_true rfl) hRc okA_int (by decide) (by decide) (Nat.le_of_ble_eq_true rfl) (Nat.le_of_ble_eq_true rfl) (Nat.le_of_ble_eq_true rfl) dX2_init_28 ?_
  refine y_swN (by decide) ?_
  refine y_putN (fs2 := [.int 0, .ref (rh (JG J) 127), .ref (rh (JG J) 128), .ref (rh (JG J) 129), .int 0, .null, .null, .null, .null, .null, .null, .int 0, .null, .int 0, .null, .null, .null]) g hI fy_RX2_23 (Nat.le_of_ble_eq_true rfl) (Nat.le_of_ble_eq_true rfl) rfl (Nat.le_of_ble_eq_true rfl) rfl rfl dX2_init_30 ?_
  refine y_aload_n g 0 dX2_init_33 rfl rfl ?_
  refine y_iconst (v := 0) g dX2_init_34 (by decide) ?_
  refine y_putN (fs2 := [.int 0, .ref (rh (JG J) 127), .ref (rh (JG J) 128), .ref (rh (JG J) 129), .int 0, .null, .null, .null, .null, .null, .null, .int 0, .null, .int 0, .null, .null, .null]) g hI fy_RX2_26 (Nat.le_of_ble_eq_true rfl) (Nat.le_of_ble_eq_true rfl) rfl (Nat.le_of_ble_eq_true rfl) rfl rfl dX2_init_35 ?_
  refine y_aload_n g 0 dX2_init_38 rfl rfl ?_
  refine y_bipush (v := 6) g dX2_init_39 (by decide) ?_
  refine y_new_long (N := 6) g rfl (Nat.le_of_ble_eq_true rfl) hRc okA_long (by decide) (by decide) (Nat.le_of_ble_eq_true rfl) (Nat.le_of_ble_eq_true rfl) (Nat.le_of_ble_eq_true rfl) dX2_init_41 ?_
  refine y_swN (by decide) ?_
  refine y_putN (fs2 := [.int 0, .ref (rh (JG J) 127), .ref (rh (JG J) 128), .ref (rh (JG J) 129), .int 0, .ref (rh (JG J) 130), .null, .null, .null, .null, .null, .int 0, .null, .int 0, .null, .null, .null]) g hI fy_RX2_29 (Nat.le_of_ble_eq_true rfl) (Nat.le_of_ble_eq_true rfl) rfl (Nat.le_of_ble_eq_true rfl) rfl rfl dX2_init_43 ?_
  refine y_aload_n g 0 dX2_init_46 rfl rfl ?_
  refine y_bipush (v := 6) g dX2_init_47 (by decide) ?_
  refine y_new_int (N := 6) g rfl (Nat.le_of_ble_eq_true rfl) hRc okA_int (by decide) (by decide) (Nat.le_of_ble_eq_true rfl) (Nat.le_of_ble_eq_true rfl) (Nat.le_of_ble_eq_true rfl) dX2_init_49 ?_
  refine y_swN (by decide) ?_
  refine y_putN (fs2 := [.int 0, .ref (rh (JG J) 127), .ref (rh (JG J) 128), .ref (rh (JG J) 129), .int 0, .ref (rh (JG J) 130), .ref (rh (JG J) 131), .null, .null, .null, .null, .int 0, .null, .int 0, .null, .null, .null]) g hI fy_RX2_32 (Nat.le_of_ble_eq_true rfl) (Nat.le_of_ble_eq_true rfl) rfl (Nat.le_of_ble_eq_true rfl) rfl rfl dX2_init_51 ?_
  refine y_aload_n g 0 dX2_init_54 rfl rfl ?_
  refine y_bipush (v := 6) g dX2_init_55 (by decide) ?_
  refine y_new_int (N := 6) g rfl (Nat.le_of_ble_eq_true rfl) hRc okA_int (by decide) (by decide) (Nat.le_of_ble_eq_true rfl) (Nat.le_of_ble_eq_true rfl) (Nat.le_of_ble_eq_true rfl) dX2_init_57 ?_
  refine y_swN (by decide) ?_
  refine y_putN (fs2 := [.int 0, .ref (rh (JG J) 127), .ref (rh (JG J) 128), .ref (rh (JG J) 129), .int 0, .ref (rh (JG J) 130), .ref (rh (JG J) 131), .ref (rh (JG J) 132), .null, .null, .null, .int 0, .null, .int 0, .null, .null, .null]) g hI fy_RX2_35 (Nat.le_of_ble_eq_true rfl) (Nat.le_of_ble_eq_true rfl) rfl (Nat.le_of_ble_eq_true rfl) rfl rfl dX2_init_59 ?_
  refine y_aload_n g 0 dX2_init_62 rfl rfl ?_
  refine y_bipush (v := 6) g dX2_init_63 (by decide) ?_
  refine y_new_int (N := 6) g rfl (Nat.le_of_ble_eq_true rfl) hRc okA_int (by decide) (by decide) (Nat.le_of_ble_eq_true rfl) (Nat.le_of_ble_eq_true rfl) (Nat.le_of_ble_eq_true rfl) dX2_init_65 ?_
  refine y_swN (by decide) ?_
  refine y_putN (fs2 := [.int 0, .ref (rh (JG J) 127), .ref (rh (JG J) 128), .ref (rh (JG J) 129), .int 0, .ref (rh (JG J) 130), .ref (rh (JG J) 131), .ref (rh (JG J) 132), .ref (rh (JG J) 133), .null, .null, .int 0, .null, .int 0, .null, .null, .null]) g hI fy_RX2_38 (Nat.le_of_ble_eq_true rfl) (Nat.le_of_ble_eq_true rfl) rfl (Nat.le_of_ble_eq_true rfl) rfl rfl dX2_init_67 ?_
  refine y_aload_n g 0 dX2_init_70 rfl rfl ?_
  refine y_bipush (v := 72) g dX2_init_71 (by decide) ?_
  refine y_new_int (N := 72) g rfl (Nat.le_of_ble_eq_true rfl) hRc okA_int (by decide) (by decide) (Nat.le_of_ble_eq_true rfl) (Nat.le_of_ble_eq_true rfl) (Nat.le_of_ble_eq_true rfl) dX2_init_73 ?_
  refine y_swN (by decide) ?_
  refine y_putN (fs2 := [.int 0, .ref (rh (JG J) 127), .ref (rh (JG J) 128), .ref (rh (JG J) 129), .int 0, .ref (rh (JG J) 130), .ref (rh (JG J) 131), .ref (rh (JG J) 132), .ref (rh (JG J) 133), .ref (rh (JG J) 134), .null, .int 0, .null, .int 0, .null, .null, .null]) g hI fy_RX2_41 (Nat.le_of_ble_eq_true rfl) (Nat.le_of_ble_eq_true rfl) rfl (Nat.le_of_ble_eq_true rfl) rfl rfl dX2_init_75 ?_
  refine y_aload_n g 0 dX2_init_78 rfl rfl ?_
  refine y_bipush (v := 72) g dX2_init_79 (by decide) ?_
  refine y_new_int (N := 72) g rfl (Nat.le_of_ble_eq_true rfl) hRc okA_int (by decide) (by decide) (Nat.le_of_ble_eq_true rfl) (Nat.le_of_ble_eq_true rfl) (Nat.le_of_ble_eq_true rfl) dX2_init_81 ?_
  refine y_swN (by decide) ?_
  refine y_putN (fs2 := [.int 0, .ref (rh (JG J) 127), .ref (rh (JG J) 128), .ref (rh (JG J) 129), .int 0, .ref (rh (JG J) 130), .ref (rh (JG J) 131), .ref (rh (JG J) 132), .ref (rh (JG J) 133), .ref (rh (JG J) 134), .ref (rh (JG J) 135), .int 0, .null, .int 0, .null, .null, .null]) g hI fy_RX2_44 (Nat.le_of_ble_eq_true rfl) (Nat.le_of_ble_eq_true rfl) rfl (Nat.le_of_ble_eq_true rfl) rfl rfl dX2_init_83 ?_
  refine y_aload_n g 0 dX2_init_86 rfl rfl ?_
  refine y_iconst (v := 0) g dX2_init_87 (by decide) ?_
  refine y_putN (fs2 := [.int 0, .ref (rh (JG J) 127), .ref (rh (JG J) 128), .ref (rh (JG J) 129), .int 0, .ref (rh (JG J) 130), .ref (rh (JG J) 131), .ref (rh (JG J) 132), .ref (rh (JG J) 133), .ref (rh (JG J) 134), .ref (rh (JG J) 135), .int 0, .null, .int 0, .null, .null, .null]) g hI fy_RX2_47 (Nat.le_of_ble_eq_true rfl) (Nat.le_of_ble_eq_true rfl) rfl (Nat.le_of_ble_eq_true rfl) rfl rfl dX2_init_88 ?_
  refine y_aload_n g 0 dX2_init_91 rfl rfl ?_
  refine y_bipush (v := 24) g dX2_init_92 (by decide) ?_
  refine y_new_int (N := 24) g rfl (Nat.le_of_ble_eq_true rfl) hRc okA_int (by decide) (by decide) (Nat.le_of_ble_eq_true rfl) (Nat.le_of_ble_eq_true rfl) (Nat.le_of_ble_eq_true rfl) dX2_init_94 ?_
  refine y_swN (by decide) ?_
  refine y_putN (fs2 := [.int 0, .ref (rh (JG J) 127), .ref (rh (JG J) 128), .ref (rh (JG J) 129), .int 0, .ref (rh (JG J) 130), .ref (rh (JG J) 131), .ref (rh (JG J) 132), .ref (rh (JG J) 133), .ref (rh (JG J) 134), .ref (rh (JG J) 135), .int 0, .ref (rh (JG J) 136), .int 0, .null, .null, .null]) g hI fy_RX2_50 (Nat.le_of_ble_eq_true rfl) (Nat.le_of_ble_eq_true rfl) rfl (Nat.le_of_ble_eq_true rfl) rfl rfl dX2_init_96 ?_
  refine y_aload_n g 0 dX2_init_99 rfl rfl ?_
  refine y_iconst (v := 0) g dX2_init_100 (by decide) ?_
  refine y_putN (fs2 := [.int 0, .ref (rh (JG J) 127), .ref (rh (JG J) 128), .ref (rh (JG J) 129), .int 0, .ref (rh (JG J) 130), .ref (rh (JG J) 131), .ref (rh (JG J) 132), .ref (rh (JG J) 133), .ref (rh (JG J) 134), .ref (rh (JG J) 135), .int 0, .ref (rh (JG J) 136), .int 0, .null, .null, .null]) g hI fy_RX2_53 (Nat.le_of_ble_eq_true rfl) (Nat.le_of_ble_eq_true rfl) rfl (Nat.le_of_ble_eq_true rfl) rfl rfl dX2_init_101 ?_
  refine y_aload_n g 0 dX2_init_104 rfl rfl ?_
  refine y_iconst (v := 2) g dX2_init_105 (by decide) ?_
  refine y_new_long (N := 2) g rfl (Nat.le_of_ble_eq_true rfl) hRc okA_long (by decide) (by decide) (Nat.le_of_ble_eq_true rfl) (Nat.le_of_ble_eq_true rfl) (Nat.le_of_ble_eq_true rfl) dX2_init_106 ?_
  refine y_swN (by decide) ?_
  refine y_putN (fs2 := [.int 0, .ref (rh (JG J) 127), .ref (rh (JG J) 128), .ref (rh (JG J) 129), .int 0, .ref (rh (JG J) 130), .ref (rh (JG J) 131), .ref (rh (JG J) 132), .ref (rh (JG J) 133), .ref (rh (JG J) 134), .ref (rh (JG J) 135), .int 0, .ref (rh (JG J) 136), .int 0, .ref (rh (JG J) 137), .null, .null]) g hI fy_RX2_56 (Nat.le_of_ble_eq_true rfl) (Nat.le_of_ble_eq_true rfl) rfl (Nat.le_of_ble_eq_true rfl) rfl rfl dX2_init_108 ?_
  refine y_aload_n g 0 dX2_init_111 rfl rfl ?_
  refine y_bipush (v := 8) g dX2_init_112 (by decide) ?_
  refine y_new_int (N := 8) g rfl (Nat.le_of_ble_eq_true rfl) hRc okA_int (by decide) (by decide) (Nat.le_of_ble_eq_true rfl) (Nat.le_of_ble_eq_true rfl) (Nat.le_of_ble_eq_true rfl) dX2_init_114 ?_
  refine y_swN (by decide) ?_
  refine y_putN (fs2 := [.int 0, .ref (rh (JG J) 127), .ref (rh (JG J) 128), .ref (rh (JG J) 129), .int 0, .ref (rh (JG J) 130), .ref (rh (JG J) 131), .ref (rh (JG J) 132), .ref (rh (JG J) 133), .ref (rh (JG J) 134), .ref (rh (JG J) 135), .int 0, .ref (rh (JG J) 136), .int 0, .ref (rh (JG J) 137), .ref (rh (JG J) 138), .null]) g hI fy_RX2_59 (Nat.le_of_ble_eq_true rfl) (Nat.le_of_ble_eq_true rfl) rfl (Nat.le_of_ble_eq_true rfl) rfl rfl dX2_init_116 ?_
  refine y_aload_n g 0 dX2_init_119 rfl rfl ?_
  refine y_iconst (v := 2) g dX2_init_120 (by decide) ?_
  refine y_new_int (N := 2) g rfl (Nat.le_of_ble_eq_true rfl) hRc okA_int (by decide) (by decide) (Nat.le_of_ble_eq_true rfl) (Nat.le_of_ble_eq_true rfl) (Nat.le_of_ble_eq_true rfl) dX2_init_121 ?_
  refine y_swN (by decide) ?_
  refine y_putN (fs2 := [.int 0, .ref (rh (JG J) 127), .ref (rh (JG J) 128), .ref (rh (JG J) 129), .int 0, .ref (rh (JG J) 130), .ref (rh (JG J) 131), .ref (rh (JG J) 132), .ref (rh (JG J) 133), .ref (rh (JG J) 134), .ref (rh (JG J) 135), .int 0, .ref (rh (JG J) 136), .int 0, .ref (rh (JG J) 137), .ref (rh (JG J) 138), .ref (rh (JG J) 139)]) g hI fy_RX2_62 (Nat.le_of_ble_eq_true rfl) (Nat.le_of_ble_eq_true rfl) rfl (Nat.le_of_ble_eq_true rfl) rfl rfl dX2_init_123 ?_
  refine y_cv (C2 := cat (JG J) C 126 140) (fun g hg => by
      by_cases hlt : g < 126
      · refine Or.inl ?_
        simp only [upC, cat]
        repeat rw [if_neg (by omega)]
      · obtain ⟨k, rfl⟩ : ∃ k, g = 126 + k := ⟨g - 126, by omega⟩
        have hk : k < 14 := by omega
        clear hlt hg
        exact (match k, hk with | 0, _ => Or.inl rfl | 1, _ => Or.inl rfl | 2, _ => Or.inl rfl | 3, _ => Or.inl rfl | 4, _ => Or.inl rfl | 5, _ => Or.inl rfl | 6, _ => Or.inl rfl | 7, _ => Or.inl rfl | 8, _ => Or.inl rfl | 9, _ => Or.inl rfl | 10, _ => Or.inl rfl | 11, _ => Or.inl rfl | 12, _ => Or.inl rfl | 13, _ => Or.inl rfl | k + 14, hk => absurd hk (by omega))) ?_
  exact y_vret g hr rfl (Nat.le_of_ble_eq_true rfl) dX2_init_126
set_option maxRecDepth 100000 in
set_option maxHeartbeats 8000000 in
theorem kc_146 (l : Launch) (G : GT) (hlin : Lin G) {C : Cm} (hC : C 146 = .inr (11, [.null, .null, .int 0, .long 0, .long 0, .null, .null, .null, .null, .null, .int 0, .int 0, .int 0, .int 0, .int 0, .int 0, .int 0, .int 0, .int 0, .int 0, .null, .int 0, .int 0, .null, .null, .null, .int 0, .null, .null, .null, .int 0, .null, .int 0, .null, .null, .null, .null, .null, .int 0, .int 0, .int 0, .null, .null, .null, .int 0, .int 0])) : OkC l G yX11_init cX11_init 1 1 30 23 6622 146 147 C 170 (cat G C 146 170) := by
  refine OkC.ofY (by decide) rfl (Nat.le_of_ble_eq_true rfl) hlin (fun J g hI hr hG hl hR hRc hn => ?_)
  subst hG
  refine y_cv (C2 := upC C 146 (.inr (11, [.null, .null, .int 0, .long 0, .long 0, .null, .null, .null, .null, .null, .int 0, .int 0, .int 0, .int 0, .int 0, .int 0, .int 0, .int 0, .int 0, .int 0, .null, .int 0, .int 0, .null, .null, .null, .int 0, .null, .null, .null, .int 0, .null, .int 0, .null, .null, .null, .null, .null, .int 0, .int 0, .int 0, .null, .null, .null, .int 0, .int 0]))) (fun g _ => Or.inl <| by
    unfold upC
    by_cases h : g = 146
    · rw [h, if_pos rfl, hC]
    · rw [if_neg h]) ?_
  refine y_aload_n g 0 dX11_init_0 rfl rfl ?_
  refine y_objI g hR lo_RX11_1 ok_oin ok_oco (Nat.le_of_ble_eq_true rfl) (Nat.le_of_ble_eq_true rfl) dX11_init_1 ?_
  refine y_aload_n g 0 dX11_init_4 rfl rfl ?_
  refine y_sipush (v := 3900) g dX11_init_5 (by decide) ?_
  refine y_new_int (N := 3900) g rfl (Nat.le_of_ble_eq_true rfl) hRc okA_int (by decide) (by decide) (Nat.le_of_ble_eq_true rfl) (Nat.le_of_ble_eq_true rfl) (Nat.le_of_ble_eq_true rfl) dX11_init_8 ?_
  refine y_swN (by decide) ?_
  refine y_putN (fs2 := [.ref (rh (JG J) 147), .null, .int 0, .long 0, .long 0, .null, .null, .null, .null, .null, .int 0, .int 0, .int 0, .int 0, .int 0, .int 0, .int 0, .int 0, .int 0, .int 0, .null, .int 0, .int 0, .null, .null, .null, .int 0, .null, .null, .null, .int 0, .null, .int 0, .null, .null, .null, .null, .null, .int 0, .int 0, .int 0, .null, .null, .null, .int 0, .int 0]) g hI fy_RX11_7 (Nat.le_of_ble_eq_true rfl) (Nat.le_of_ble_eq_true rfl) rfl (Nat.le_of_ble_eq_true rfl) rfl rfl dX11_init_10 ?_
  refine y_aload_n g 0 dX11_init_13 rfl rfl ?_
  refine y_bipush (v := 90) g dX11_init_14 (by decide) ?_
  refine y_new_long (N := 90) g rfl (Nat.le_of_ble_eq_true rfl) hRc okA_long (by decide) (by decide) (Nat.le_of_ble_eq_true rfl) (Nat.le_of_ble_eq_true rfl) (Nat.le_of_ble_eq_true rfl) dX11_init_16 ?_
  refine y_swN (by decide) ?_
  refine y_putN (fs2 := [.ref (rh (JG J) 147), .ref (rh (JG J) 148), .int 0, .long 0, .long 0, .null, .null, .null, .null, .null, .int 0, .int 0, .int 0, .int 0, .int 0, .int 0, .int 0, .int 0, .int 0, .int 0, .null, .int 0, .int 0, .null, .null, .null, .int 0, .null, .null, .null, .int 0, .null, .int 0, .null, .null, .null, .null, .null, .int 0, .int 0, .int 0, .null, .null, .null, .int 0, .int 0]) g hI fy_RX11_13 (Nat.le_of_ble_eq_true rfl) (Nat.le_of_ble_eq_true rfl) rfl (Nat.le_of_ble_eq_true rfl) rfl rfl dX11_init_18 ?_
  refine y_aload_n g 0 dX11_init_21 rfl rfl ?_
  refine y_lconst (v := 1) g dX11_init_22 (by decide) ?_
  refine y_putN (fs2 := [.ref (rh (JG J) 147), .ref (rh (JG J) 148), .int 0, .long 0, .long 1, .null, .null, .null, .null, .null, .int 0, .int 0, .int 0, .int 0, .int 0, .int 0, .int 0, .int 0, .int 0, .int 0, .null, .int 0, .int 0, .null, .null, .null, .int 0, .null, .null, .null, .int 0, .null, .int 0, .null, .null, .null, .null, .null, .int 0, .int 0, .int 0, .null, .null, .null, .int 0, .int 0]) g hI fy_RX11_17 (Nat.le_of_ble_eq_true rfl) (Nat.le_of_ble_eq_true rfl) rfl (Nat.le_of_ble_eq_true rfl) rfl rfl dX11_init_23 ?_
  refine y_aload_n g 0 dX11_init_26 rfl rfl ?_
  refine y_iconst (v := 4) g dX11_init_27 (by decide) ?_
  refine y_new_int (N := 4) g rfl (Nat.le_of_ble_eq_true rfl) hRc okA_int (by decide) (by decide) (Nat.le_of_ble_eq_true rfl) (Nat.le_of_ble_eq_true rfl) (Nat.le_of_ble_eq_true rfl) dX11_init_28 ?_
  refine y_swN (by decide) ?_
  refine y_putN (fs2 := [.ref (rh (JG J) 147), .ref (rh (JG J) 148), .int 0, .long 0, .long 1, .ref (rh (JG J) 149), .null, .null, .null, .null, .int 0, .int 0, .int 0, .int 0, .int 0, .int 0, .int 0, .int 0, .int 0, .int 0, .null, .int 0, .int 0, .null, .null, .null, .int 0, .null, .null, .null, .int 0, .null, .int 0, .null, .null, .null, .null, .null, .int 0, .int 0, .int 0, .null, .null, .null, .int 0, .int 0]) g hI fy_RX11_21 (Nat.le_of_ble_eq_true rfl) (Nat.le_of_ble_eq_true rfl) rfl (Nat.le_of_ble_eq_true rfl) rfl rfl dX11_init_30 ?_
  refine y_aload_n g 0 dX11_init_33 rfl rfl ?_
  refine y_iconst (v := 4) g dX11_init_34 (by decide) ?_
  refine y_new_int (N := 4) g rfl (Nat.le_of_ble_eq_true rfl) hRc okA_int (by decide) (by decide) (Nat.le_of_ble_eq_true rfl) (Nat.le_of_ble_eq_true rfl) (Nat.le_of_ble_eq_true rfl) dX11_init_35 ?_
  refine y_swN (by decide) ?_
  refine y_dup g dX11_init_37 rfl ?_
  refine y_iconst (v := 0) g dX11_init_38 (by decide) ?_
  refine y_iconst (v := -1) g dX11_init_39 (by decide) ?_
  refine y_iast (t := 150) (N := 4) (f := _) g (Nat.le_of_ble_eq_true rfl) (Nat.le_of_ble_eq_true rfl) rfl (vp_in_nI (n := 0) (Nat.le_of_ble_eq_true rfl) (Nat.le_of_ble_eq_true rfl)) dX11_init_40 ?_
  refine y_swN (by decide) ?_
  refine y_dup g dX11_init_41 rfl ?_
  refine y_iconst (v := 1) g dX11_init_42 (by decide) ?_
  refine y_iconst (v := -1) g dX11_init_43 (by decide) ?_
  refine y_iast (t := 150) (N := 4) (f := _) g (Nat.le_of_ble_eq_true rfl) (Nat.le_of_ble_eq_true rfl) rfl (vp_in_nI (n := 1) (Nat.le_of_ble_eq_true rfl) (Nat.le_of_ble_eq_true rfl)) dX11_init_44 ?_
  refine y_swN (by decide) ?_
  refine y_dup g dX11_init_45 rfl ?_
  refine y_iconst (v := 2) g dX11_init_46 (by decide) ?_
  refine y_iconst (v := -1) g dX11_init_47 (by decide) ?_
  refine y_iast (t := 150) (N := 4) (f := _) g (Nat.le_of_ble_eq_true rfl) (Nat.le_of_ble_eq_true rfl) rfl (vp_in_nI (n := 2) (Nat.le_of_ble_eq_true rfl) (Nat.le_of_ble_eq_true rfl)) dX11_init_48 ?_
  refine y_swN (by decide) ?_
  refine y_dup g dX11_init_49 rfl ?_
  refine y_iconst (v := 3) g dX11_init_50 (by decide) ?_
  refine y_iconst (v := -1) g dX11_init_51 (by decide) ?_
  refine y_iast (t := 150) (N := 4) (f := _) g (Nat.le_of_ble_eq_true rfl) (Nat.le_of_ble_eq_true rfl) rfl (vp_in_nI (n := 3) (Nat.le_of_ble_eq_true rfl) (Nat.le_of_ble_eq_true rfl)) dX11_init_52 ?_
  refine y_swN (by decide) ?_
  refine y_putN (fs2 := [.ref (rh (JG J) 147), .ref (rh (JG J) 148), .int 0, .long 0, .long 1, .ref (rh (JG J) 149), .ref (rh (JG J) 150), .null, .null, .null, .int 0, .int 0, .int 0, .int 0, .int 0, .int 0, .int 0, .int 0, .int 0, .int 0, .null, .int 0, .int 0, .null, .null, .null, .int 0, .null, .null, .null, .int 0, .null, .int 0, .null, .null, .null, .null, .null, .int 0, .int 0, .int 0, .null, .null, .null, .int 0, .int 0]) g hI fy_RX11_24 (Nat.le_of_ble_eq_true rfl) (Nat.le_of_ble_eq_true rfl) rfl (Nat.le_of_ble_eq_true rfl) rfl rfl dX11_init_53 ?_
  refine y_aload_n g 0 dX11_init_56 rfl rfl ?_
  refine y_sipush (v := 240) g dX11_init_57 (by decide) ?_
  refine y_new_long (N := 240) g rfl (Nat.le_of_ble_eq_true rfl) hRc okA_long (by decide) (by decide) (Nat.le_of_ble_eq_true rfl) (Nat.le_of_ble_eq_true rfl) (Nat.le_of_ble_eq_true rfl) dX11_init_60 ?_
  refine y_swN (by decide) ?_
  refine y_putN (fs2 := [.ref (rh (JG J) 147), .ref (rh (JG J) 148), .int 0, .long 0, .long 1, .ref (rh (JG J) 149), .ref (rh (JG J) 150), .ref (rh (JG J) 151), .null, .null, .int 0, .int 0, .int 0, .int 0, .int 0, .int 0, .int 0, .int 0, .int 0, .int 0, .null, .int 0, .int 0, .null, .null, .null, .int 0, .null, .null, .null, .int 0, .null, .int 0, .null, .null, .null, .null, .null, .int 0, .int 0, .int 0, .null, .null, .null, .int 0, .int 0]) g hI fy_RX11_27 (Nat.le_of_ble_eq_true rfl) (Nat.le_of_ble_eq_true rfl) rfl (Nat.le_of_ble_eq_true rfl) rfl rfl dX11_init_62 ?_
  refine y_aload_n g 0 dX11_init_65 rfl rfl ?_
  refine y_sipush (v := 900) g dX11_init_66 (by decide) ?_
  refine y_new_byte (N := 900) g rfl (Nat.le_of_ble_eq_true rfl) hRc okA_byte (by decide) (by decide) (Nat.le_of_ble_eq_true rfl) (Nat.le_of_ble_eq_true rfl) (Nat.le_of_ble_eq_true rfl) dX11_init_69 ?_
  refine y_swN (by decide) ?_
  refine y_putN (fs2 := [.ref (rh (JG J) 147), .ref (rh (JG J) 148), .int 0, .long 0, .long 1, .ref (rh (JG J) 149), .ref (rh (JG J) 150), .ref (rh (JG J) 151), .ref (rh (JG J) 152), .null, .int 0, .int 0, .int 0, .int 0, .int 0, .int 0, .int 0, .int 0, .int 0, .int 0, .null, .int 0, .int 0, .null, .null, .null, .int 0, .null, .null, .null, .int 0, .null, .int 0, .null, .null, .null, .null, .null, .int 0, .int 0, .int 0, .null, .null, .null, .int 0, .int 0]) g hI fy_RX11_30 (Nat.le_of_ble_eq_true rfl) (Nat.le_of_ble_eq_true rfl) rfl (Nat.le_of_ble_eq_true rfl) rfl rfl dX11_init_71 ?_
  refine y_aload_n g 0 dX11_init_74 rfl rfl ?_
  refine y_sipush (v := 900) g dX11_init_75 (by decide) ?_
  refine y_new_byte (N := 900) g rfl (Nat.le_of_ble_eq_true rfl) hRc okA_byte (by decide) (by decide) (Nat.le_of_ble_eq_true rfl) (Nat.le_of_ble_eq_true rfl) (Nat.le_of_ble_eq_true rfl) dX11_init_78 ?_
  refine y_swN (by decide) ?_
  refine y_putN (fs2 := [.ref (rh (JG J) 147), .ref (rh (JG J) 148), .int 0, .long 0, .long 1, .ref (rh (JG J) 149), .ref (rh (JG J) 150), .ref (rh (JG J) 151), .ref (rh (JG J) 152), .ref (rh (JG J) 153), .int 0, .int 0, .int 0, .int 0, .int 0, .int 0, .int 0, .int 0, .int 0, .int 0, .null, .int 0, .int 0, .null, .null, .null, .int 0, .null, .null, .null, .int 0, .null, .int 0, .null, .null, .null, .null, .null, .int 0, .int 0, .int 0, .null, .null, .null, .int 0, .int 0]) g hI fy_RX11_34 (Nat.le_of_ble_eq_true rfl) (Nat.le_of_ble_eq_true rfl) rfl (Nat.le_of_ble_eq_true rfl) rfl rfl dX11_init_80 ?_
  refine y_aload_n g 0 dX11_init_83 rfl rfl ?_
  refine y_iconst (v := -1) g dX11_init_84 (by decide) ?_
  refine y_putN (fs2 := [.ref (rh (JG J) 147), .ref (rh (JG J) 148), .int 0, .long 0, .long 1, .ref (rh (JG J) 149), .ref (rh (JG J) 150), .ref (rh (JG J) 151), .ref (rh (JG J) 152), .ref (rh (JG J) 153), .int 0, .int 0, .int 0, .int 0, .int 0, .int 0, .int (-1), .int 0, .int 0, .int 0, .null, .int 0, .int 0, .null, .null, .null, .int 0, .null, .null, .null, .int 0, .null, .int 0, .null, .null, .null, .null, .null, .int 0, .int 0, .int 0, .null, .null, .null, .int 0, .int 0]) g hI fy_RX11_37 (Nat.le_of_ble_eq_true rfl) (Nat.le_of_ble_eq_true rfl) rfl (Nat.le_of_ble_eq_true rfl) rfl rfl dX11_init_85 ?_
  refine y_aload_n g 0 dX11_init_88 rfl rfl ?_
  refine y_iconst (v := -1) g dX11_init_89 (by decide) ?_
  refine y_putN (fs2 := [.ref (rh (JG J) 147), .ref (rh (JG J) 148), .int 0, .long 0, .long 1, .ref (rh (JG J) 149), .ref (rh (JG J) 150), .ref (rh (JG J) 151), .ref (rh (JG J) 152), .ref (rh (JG J) 153), .int 0, .int 0, .int 0, .int 0, .int 0, .int 0, .int (-1), .int (-1), .int 0, .int 0, .null, .int 0, .int 0, .null, .null, .null, .int 0, .null, .null, .null, .int 0, .null, .int 0, .null, .null, .null, .null, .null, .int 0, .int 0, .int 0, .null, .null, .null, .int 0, .int 0]) g hI fy_RX11_41 (Nat.le_of_ble_eq_true rfl) (Nat.le_of_ble_eq_true rfl) rfl (Nat.le_of_ble_eq_true rfl) rfl rfl dX11_init_90 ?_
  refine y_aload_n g 0 dX11_init_93 rfl rfl ?_
  refine y_iconst (v := 3) g dX11_init_94 (by decide) ?_
  refine y_new_int (N := 3) g rfl (Nat.le_of_ble_eq_true rfl) hRc okA_int (by decide) (by decide) (Nat.le_of_ble_eq_true rfl) (Nat.le_of_ble_eq_true rfl) (Nat.le_of_ble_eq_true rfl) dX11_init_95 ?_
  refine y_swN (by decide) ?_
  refine y_putN (fs2 := [.ref (rh (JG J) 147), .ref (rh (JG J) 148), .int 0, .long 0, .long 1, .ref (rh (JG J) 149), .ref (rh (JG J) 150), .ref (rh (JG J) 151), .ref (rh (JG J) 152), .ref (rh (JG J) 153), .int 0, .int 0, .int 0, .int 0, .int 0, .int 0, .int (-1), .int (-1), .int 0, .int 0, .ref (rh (JG J) 154), .int 0, .int 0, .null, .null, .null, .int 0, .null, .null, .null, .int 0, .null, .int 0, .null, .null, .null, .null, .null, .int 0, .int 0, .int 0, .null, .null, .null, .int 0, .int 0]) g hI fy_RX11_44 (Nat.le_of_ble_eq_true rfl) (Nat.le_of_ble_eq_true rfl) rfl (Nat.le_of_ble_eq_true rfl) rfl rfl dX11_init_97 ?_
  refine y_aload_n g 0 dX11_init_100 rfl rfl ?_
  refine y_sipush (v := 169) g dX11_init_101 (by decide) ?_
  refine y_new_int (N := 169) g rfl (Nat.le_of_ble_eq_true rfl) hRc okA_int (by decide) (by decide) (Nat.le_of_ble_eq_true rfl) (Nat.le_of_ble_eq_true rfl) (Nat.le_of_ble_eq_true rfl) dX11_init_104 ?_
  refine y_swN (by decide) ?_
  refine y_putN (fs2 := [.ref (rh (JG J) 147), .ref (rh (JG J) 148), .int 0, .long 0, .long 1, .ref (rh (JG J) 149), .ref (rh (JG J) 150), .ref (rh (JG J) 151), .ref (rh (JG J) 152), .ref (rh (JG J) 153), .int 0, .int 0, .int 0, .int 0, .int 0, .int 0, .int (-1), .int (-1), .int 0, .int 0, .ref (rh (JG J) 154), .int 0, .int 0, .ref (rh (JG J) 155), .null, .null, .int 0, .null, .null, .null, .int 0, .null, .int 0, .null, .null, .null, .null, .null, .int 0, .int 0, .int 0, .null, .null, .null, .int 0, .int 0]) g hI fy_RX11_47 (Nat.le_of_ble_eq_true rfl) (Nat.le_of_ble_eq_true rfl) rfl (Nat.le_of_ble_eq_true rfl) rfl rfl dX11_init_106 ?_
  refine y_aload_n g 0 dX11_init_109 rfl rfl ?_
  refine y_bipush (v := 12) g dX11_init_110 (by decide) ?_
  refine y_new_int (N := 12) g rfl (Nat.le_of_ble_eq_true rfl) hRc okA_int (by decide) (by decide) (Nat.le_of_ble_eq_true rfl) (Nat.le_of_ble_eq_true rfl) (Nat.le_of_ble_eq_true rfl) dX11_init_112 ?_
  refine y_swN (by decide) ?_
  refine y_putN (fs2 := [.ref (rh (JG J) 147), .ref (rh (JG J) 148), .int 0, .long 0, .long 1, .ref (rh (JG J) 149), .ref (rh (JG J) 150), .ref (rh (JG J) 151), .ref (rh (JG J) 152), .ref (rh (JG J) 153), .int 0, .int 0, .int 0, .int 0, .int 0, .int 0, .int (-1), .int (-1), .int 0, .int 0, .ref (rh (JG J) 154), .int 0, .int 0, .ref (rh (JG J) 155), .ref (rh (JG J) 156), .null, .int 0, .null, .null, .null, .int 0, .null, .int 0, .null, .null, .null, .null, .null, .int 0, .int 0, .int 0, .null, .null, .null, .int 0, .int 0]) g hI fy_RX11_50 (Nat.le_of_ble_eq_true rfl) (Nat.le_of_ble_eq_true rfl) rfl (Nat.le_of_ble_eq_true rfl) rfl rfl dX11_init_114 ?_
  refine y_aload_n g 0 dX11_init_117 rfl rfl ?_
  refine y_bipush (v := 12) g dX11_init_118 (by decide) ?_
  refine y_new_int (N := 12) g rfl (Nat.le_of_ble_eq_true rfl) hRc okA_int (by decide) (by decide) (Nat.le_of_ble_eq_true rfl) (Nat.le_of_ble_eq_true rfl) (Nat.le_of_ble_eq_true rfl) dX11_init_120 ?_
  refine y_swN (by decide) ?_
  refine y_putN (fs2 := [.ref (rh (JG J) 147), .ref (rh (JG J) 148), .int 0, .long 0, .long 1, .ref (rh (JG J) 149), .ref (rh (JG J) 150), .ref (rh (JG J) 151), .ref (rh (JG J) 152), .ref (rh (JG J) 153), .int 0, .int 0, .int 0, .int 0, .int 0, .int 0, .int (-1), .int (-1), .int 0, .int 0, .ref (rh (JG J) 154), .int 0, .int 0, .ref (rh (JG J) 155), .ref (rh (JG J) 156), .ref (rh (JG J) 157), .int 0, .null, .null, .null, .int 0, .null, .int 0, .null, .null, .null, .null, .null, .int 0, .int 0, .int 0, .null, .null, .null, .int 0, .int 0]) g hI fy_RX11_53 (Nat.le_of_ble_eq_true rfl) (Nat.le_of_ble_eq_true rfl) rfl (Nat.le_of_ble_eq_true rfl) rfl rfl dX11_init_122 ?_
  refine y_aload_n g 0 dX11_init_125 rfl rfl ?_
  refine y_iconst (v := -1) g dX11_init_126 (by decide) ?_
  refine y_putN (fs2 := [.ref (rh (JG J) 147), .ref (rh (JG J) 148), .int 0, .long 0, .long 1, .ref (rh (JG J) 149), .ref (rh (JG J) 150), .ref (rh (JG J) 151), .ref (rh (JG J) 152), .ref (rh (JG J) 153), .int 0, .int 0, .int 0, .int 0, .int 0, .int 0, .int (-1), .int (-1), .int 0, .int 0, .ref (rh (JG J) 154), .int 0, .int 0, .ref (rh (JG J) 155), .ref (rh (JG J) 156), .ref (rh (JG J) 157), .int (-1), .null, .null, .null, .int 0, .null, .int 0, .null, .null, .null, .null, .null, .int 0, .int 0, .int 0, .null, .null, .null, .int 0, .int 0]) g hI fy_RX11_56 (Nat.le_of_ble_eq_true rfl) (Nat.le_of_ble_eq_true rfl) rfl (Nat.le_of_ble_eq_true rfl) rfl rfl dX11_init_127 ?_
  refine y_aload_n g 0 dX11_init_130 rfl rfl ?_
  refine y_bipush (v := 6) g dX11_init_131 (by decide) ?_
  refine y_new_int (N := 6) g rfl (Nat.le_of_ble_eq_true rfl) hRc okA_int (by decide) (by decide) (Nat.le_of_ble_eq_true rfl) (Nat.le_of_ble_eq_true rfl) (Nat.le_of_ble_eq_true rfl) dX11_init_133 ?_
  refine y_swN (by decide) ?_
  refine y_putN (fs2 := [.ref (rh (JG J) 147), .ref (rh (JG J) 148), .int 0, .long 0, .long 1, .ref (rh (JG J) 149), .ref (rh (JG J) 150), .ref (rh (JG J) 151), .ref (rh (JG J) 152), .ref (rh (JG J) 153), .int 0, .int 0, .int 0, .int 0, .int 0, .int 0, .int (-1), .int (-1), .int 0, .int 0, .ref (rh (JG J) 154), .int 0, .int 0, .ref (rh (JG J) 155), .ref (rh (JG J) 156), .ref (rh (JG J) 157), .int (-1), .ref (rh (JG J) 158), .null, .null, .int 0, .null, .int 0, .null, .null, .null, .null, .null, .int 0, .int 0, .int 0, .null, .null, .null, .int 0, .int 0]) g hI fy_RX11_59 (Nat.le_of_ble_eq_true rfl) (Nat.le_of_ble_eq_true rfl) rfl (Nat.le_of_ble_eq_true rfl) rfl rfl dX11_init_135 ?_
  refine y_aload_n g 0 dX11_init_138 rfl rfl ?_
  refine y_bipush (v := 6) g dX11_init_139 (by decide) ?_
  refine y_new_int (N := 6) g rfl (Nat.le_of_ble_eq_true rfl) hRc okA_int (by decide) (by decide) (Nat.le_of_ble_eq_true rfl) (Nat.le_of_ble_eq_true rfl) (Nat.le_of_ble_eq_true rfl) dX11_init_141 ?_
  refine y_swN (by decide) ?_
  refine y_putN (fs2 := [.ref (rh (JG J) 147), .ref (rh (JG J) 148), .int 0, .long 0, .long 1, .ref (rh (JG J) 149), .ref (rh (JG J) 150), .ref (rh (JG J) 151), .ref (rh (JG J) 152), .ref (rh (JG J) 153), .int 0, .int 0, .int 0, .int 0, .int 0, .int 0, .int (-1), .int (-1), .int 0, .int 0, .ref (rh (JG J) 154), .int 0, .int 0, .ref (rh (JG J) 155), .ref (rh (JG J) 156), .ref (rh (JG J) 157), .int (-1), .ref (rh (JG J) 158), .ref (rh (JG J) 159), .null, .int 0, .null, .int 0, .null, .null, .null, .null, .null, .int 0, .int 0, .int 0, .null, .null, .null, .int 0, .int 0]) g hI fy_RX11_62 (Nat.le_of_ble_eq_true rfl) (Nat.le_of_ble_eq_true rfl) rfl (Nat.le_of_ble_eq_true rfl) rfl rfl dX11_init_143 ?_
  refine y_aload_n g 0 dX11_init_146 rfl rfl ?_
  refine y_bipush (v := 6) g dX11_init_147 (by decide) ?_
  refine y_new_int (N := 6) g rfl (Nat.le_of_ble_eq_true rfl) hRc okA_int (by decide) (by decide) (Nat.le_of_ble_eq_true rfl) (Nat.le_of_ble_eq_true rfl) (Nat.le_of_ble_eq_true rfl) dX11_init_149 ?_
  refine y_swN (by decide) ?_
  refine y_putN (fs2 := [.ref (rh (JG J) 147), .ref (rh (JG J) 148), .int 0, .long 0, .long 1, .ref (rh (JG J) 149), .ref (rh (JG J) 150), .ref (rh (JG J) 151), .ref (rh (JG J) 152), .ref (rh (JG J) 153), .int 0, .int 0, .int 0, .int 0, .int 0, .int 0, .int (-1), .int (-1), .int 0, .int 0, .ref (rh (JG J) 154), .int 0, .int 0, .ref (rh (JG J) 155), .ref (rh (JG J) 156), .ref (rh (JG J) 157), .int (-1), .ref (rh (JG J) 158), .ref (rh (JG J) 159), .ref (rh (JG J) 160), .int 0, .null, .int 0, .null, .null, .null, .null, .null, .int 0, .int 0, .int 0, .null, .null, .null, .int 0, .int 0]) g hI fy_RX11_65 (Nat.le_of_ble_eq_true rfl) (Nat.le_of_ble_eq_true rfl) rfl (Nat.le_of_ble_eq_true rfl) rfl rfl dX11_init_151 ?_
  refine y_aload_n g 0 dX11_init_154 rfl rfl ?_
  refine y_bipush (v := 72) g dX11_init_155 (by decide) ?_
  refine y_new_int (N := 72) g rfl (Nat.le_of_ble_eq_true rfl) hRc okA_int (by decide) (by decide) (Nat.le_of_ble_eq_true rfl) (Nat.le_of_ble_eq_true rfl) (Nat.le_of_ble_eq_true rfl) dX11_init_157 ?_
  refine y_swN (by decide) ?_
  refine y_putN (fs2 := [.ref (rh (JG J) 147), .ref (rh (JG J) 148), .int 0, .long 0, .long 1, .ref (rh (JG J) 149), .ref (rh (JG J) 150), .ref (rh (JG J) 151), .ref (rh (JG J) 152), .ref (rh (JG J) 153), .int 0, .int 0, .int 0, .int 0, .int 0, .int 0, .int (-1), .int (-1), .int 0, .int 0, .ref (rh (JG J) 154), .int 0, .int 0, .ref (rh (JG J) 155), .ref (rh (JG J) 156), .ref (rh (JG J) 157), .int (-1), .ref (rh (JG J) 158), .ref (rh (JG J) 159), .ref (rh (JG J) 160), .int 0, .ref (rh (JG J) 161), .int 0, .null, .null, .null, .null, .null, .int 0, .int 0, .int 0, .null, .null, .null, .int 0, .int 0]) g hI fy_RX11_68 (Nat.le_of_ble_eq_true rfl) (Nat.le_of_ble_eq_true rfl) rfl (Nat.le_of_ble_eq_true rfl) rfl rfl dX11_init_159 ?_
  refine y_aload_n g 0 dX11_init_162 rfl rfl ?_
  refine y_bipush (v := 72) g dX11_init_163 (by decide) ?_
  refine y_new_boolean (N := 72) g rfl (Nat.le_of_ble_eq_true rfl) hRc okA_boolean (by decide) (by decide) (Nat.le_of_ble_eq_true rfl) (Nat.le_of_ble_eq_true rfl) (Nat.le_of_ble_eq_true rfl) dX11_init_165 ?_
  refine y_swN (by decide) ?_
  refine y_putN (fs2 := [.ref (rh (JG J) 147), .ref (rh (JG J) 148), .int 0, .long 0, .long 1, .ref (rh (JG J) 149), .ref (rh (JG J) 150), .ref (rh (JG J) 151), .ref (rh (JG J) 152), .ref (rh (JG J) 153), .int 0, .int 0, .int 0, .int 0, .int 0, .int 0, .int (-1), .int (-1), .int 0, .int 0, .ref (rh (JG J) 154), .int 0, .int 0, .ref (rh (JG J) 155), .ref (rh (JG J) 156), .ref (rh (JG J) 157), .int (-1), .ref (rh (JG J) 158), .ref (rh (JG J) 159), .ref (rh (JG J) 160), .int 0, .ref (rh (JG J) 161), .int 0, .ref (rh (JG J) 162), .null, .null, .null, .null, .int 0, .int 0, .int 0, .null, .null, .null, .int 0, .int 0]) g hI fy_RX11_71 (Nat.le_of_ble_eq_true rfl) (Nat.le_of_ble_eq_true rfl) rfl (Nat.le_of_ble_eq_true rfl) rfl rfl dX11_init_167 ?_
  refine y_aload_n g 0 dX11_init_170 rfl rfl ?_
  refine y_bipush (v := 72) g dX11_init_171 (by decide) ?_
  refine y_new_int (N := 72) g rfl (Nat.le_of_ble_eq_true rfl) hRc okA_int (by decide) (by decide) (Nat.le_of_ble_eq_true rfl) (Nat.le_of_ble_eq_true rfl) (Nat.le_of_ble_eq_true rfl) dX11_init_173 ?_
  refine y_swN (by decide) ?_
  refine y_putN (fs2 := [.ref (rh (JG J) 147), .ref (rh (JG J) 148), .int 0, .long 0, .long 1, .ref (rh (JG J) 149), .ref (rh (JG J) 150), .ref (rh (JG J) 151), .ref (rh (JG J) 152), .ref (rh (JG J) 153), .int 0, .int 0, .int 0, .int 0, .int 0, .int 0, .int (-1), .int (-1), .int 0, .int 0, .ref (rh (JG J) 154), .int 0, .int 0, .ref (rh (JG J) 155), .ref (rh (JG J) 156), .ref (rh (JG J) 157), .int (-1), .ref (rh (JG J) 158), .ref (rh (JG J) 159), .ref (rh (JG J) 160), .int 0, .ref (rh (JG J) 161), .int 0, .ref (rh (JG J) 162), .ref (rh (JG J) 163), .null, .null, .null, .int 0, .int 0, .int 0, .null, .null, .null, .int 0, .int 0]) g hI fy_RX11_75 (Nat.le_of_ble_eq_true rfl) (Nat.le_of_ble_eq_true rfl) rfl (Nat.le_of_ble_eq_true rfl) rfl rfl dX11_init_175 ?_
  refine y_aload_n g 0 dX11_init_178 rfl rfl ?_
  refine y_iconst (v := 3) g dX11_init_179 (by decide) ?_
  refine y_new_long (N := 3) g rfl (Nat.le_of_ble_eq_true rfl) hRc okA_long (by decide) (by decide) (Nat.le_of_ble_eq_true rfl) (Nat.le_of_ble_eq_true rfl) (Nat.le_of_ble_eq_true rfl) dX11_init_180 ?_
  refine y_swN (by decide) ?_
  refine y_putN (fs2 := [.ref (rh (JG J) 147), .ref (rh (JG J) 148), .int 0, .long 0, .long 1, .ref (rh (JG J) 149), .ref (rh (JG J) 150), .ref (rh (JG J) 151), .ref (rh (JG J) 152), .ref (rh (JG J) 153), .int 0, .int 0, .int 0, .int 0, .int 0, .int 0, .int (-1), .int (-1), .int 0, .int 0, .ref (rh (JG J) 154), .int 0, .int 0, .ref (rh (JG J) 155), .ref (rh (JG J) 156), .ref (rh (JG J) 157), .int (-1), .ref (rh (JG J) 158), .ref (rh (JG J) 159), .ref (rh (JG J) 160), .int 0, .ref (rh (JG J) 161), .int 0, .ref (rh (JG J) 162), .ref (rh (JG J) 163), .ref (rh (JG J) 164), .null, .null, .int 0, .int 0, .int 0, .null, .null, .null, .int 0, .int 0]) g hI fy_RX11_78 (Nat.le_of_ble_eq_true rfl) (Nat.le_of_ble_eq_true rfl) rfl (Nat.le_of_ble_eq_true rfl) rfl rfl dX11_init_182 ?_
  refine y_aload_n g 0 dX11_init_185 rfl rfl ?_
  refine y_iconst (v := 3) g dX11_init_186 (by decide) ?_
  refine y_new_long (N := 3) g rfl (Nat.le_of_ble_eq_true rfl) hRc okA_long (by decide) (by decide) (Nat.le_of_ble_eq_true rfl) (Nat.le_of_ble_eq_true rfl) (Nat.le_of_ble_eq_true rfl) dX11_init_187 ?_
  refine y_swN (by decide) ?_
  refine y_putN (fs2 := [.ref (rh (JG J) 147), .ref (rh (JG J) 148), .int 0, .long 0, .long 1, .ref (rh (JG J) 149), .ref (rh (JG J) 150), .ref (rh (JG J) 151), .ref (rh (JG J) 152), .ref (rh (JG J) 153), .int 0, .int 0, .int 0, .int 0, .int 0, .int 0, .int (-1), .int (-1), .int 0, .int 0, .ref (rh (JG J) 154), .int 0, .int 0, .ref (rh (JG J) 155), .ref (rh (JG J) 156), .ref (rh (JG J) 157), .int (-1), .ref (rh (JG J) 158), .ref (rh (JG J) 159), .ref (rh (JG J) 160), .int 0, .ref (rh (JG J) 161), .int 0, .ref (rh (JG J) 162), .ref (rh (JG J) 163), .ref (rh (JG J) 164), .ref (rh (JG J) 165), .null, .int 0, .int 0, .int 0, .null, .null, .null, .int 0, .int 0]) g hI fy_RX11_81 (Nat.le_of_ble_eq_true rfl) (Nat.le_of_ble_eq_true rfl) rfl (Nat.le_of_ble_eq_true rfl) rfl rfl dX11_init_189 ?_
  refine y_aload_n g 0 dX11_init_192 rfl rfl ?_
  refine y_bipush (v := 60) g dX11_init_193 (by decide) ?_
  refine y_new_int (N := 60) g rfl (Nat.le_of_ble_eq_true rfl) hRc okA_int (by decide) (by decide) (Nat.le_of_ble_eq_true rfl) (Nat.le_of_ble_eq_true rfl) (Nat.le_of_ble_eq_true rfl) dX11_init_195 ?_
  refine y_swN (by decide) ?_
  refine y_putN (fs2 := [.ref (rh (JG J) 147), .ref (rh (JG J) 148), .int 0, .long 0, .long 1, .ref (rh (JG J) 149), .ref (rh (JG J) 150), .ref (rh (JG J) 151), .ref (rh (JG J) 152), .ref (rh (JG J) 153), .int 0, .int 0, .int 0, .int 0, .int 0, .int 0, .int (-1), .int (-1), .int 0, .int 0, .ref (rh (JG J) 154), .int 0, .int 0, .ref (rh (JG J) 155), .ref (rh (JG J) 156), .ref (rh (JG J) 157), .int (-1), .ref (rh (JG J) 158), .ref (rh (JG J) 159), .ref (rh (JG J) 160), .int 0, .ref (rh (JG J) 161), .int 0, .ref (rh (JG J) 162), .ref (rh (JG J) 163), .ref (rh (JG J) 164), .ref (rh (JG J) 165), .ref (rh (JG J) 166), .int 0, .int 0, .int 0, .null, .null, .null, .int 0, .int 0]) g hI fy_RX11_84 (Nat.le_of_ble_eq_true rfl) (Nat.le_of_ble_eq_true rfl) rfl (Nat.le_of_ble_eq_true rfl) rfl rfl dX11_init_197 ?_
  refine y_aload_n g 0 dX11_init_200 rfl rfl ?_
  refine y_bipush (v := 80) g dX11_init_201 (by decide) ?_
  refine y_new_int (N := 80) g rfl (Nat.le_of_ble_eq_true rfl) hRc okA_int (by decide) (by decide) (Nat.le_of_ble_eq_true rfl) (Nat.le_of_ble_eq_true rfl) (Nat.le_of_ble_eq_true rfl) dX11_init_203 ?_
  refine y_swN (by decide) ?_
  refine y_putN (fs2 := [.ref (rh (JG J) 147), .ref (rh (JG J) 148), .int 0, .long 0, .long 1, .ref (rh (JG J) 149), .ref (rh (JG J) 150), .ref (rh (JG J) 151), .ref (rh (JG J) 152), .ref (rh (JG J) 153), .int 0, .int 0, .int 0, .int 0, .int 0, .int 0, .int (-1), .int (-1), .int 0, .int 0, .ref (rh (JG J) 154), .int 0, .int 0, .ref (rh (JG J) 155), .ref (rh (JG J) 156), .ref (rh (JG J) 157), .int (-1), .ref (rh (JG J) 158), .ref (rh (JG J) 159), .ref (rh (JG J) 160), .int 0, .ref (rh (JG J) 161), .int 0, .ref (rh (JG J) 162), .ref (rh (JG J) 163), .ref (rh (JG J) 164), .ref (rh (JG J) 165), .ref (rh (JG J) 166), .int 0, .int 0, .int 0, .ref (rh (JG J) 167), .null, .null, .int 0, .int 0]) g hI fy_RX11_87 (Nat.le_of_ble_eq_true rfl) (Nat.le_of_ble_eq_true rfl) rfl (Nat.le_of_ble_eq_true rfl) rfl rfl dX11_init_205 ?_
  refine y_aload_n g 0 dX11_init_208 rfl rfl ?_
  refine y_iconst (v := 4) g dX11_init_209 (by decide) ?_
  refine y_new_int (N := 4) g rfl (Nat.le_of_ble_eq_true rfl) hRc okA_int (by decide) (by decide) (Nat.le_of_ble_eq_true rfl) (Nat.le_of_ble_eq_true rfl) (Nat.le_of_ble_eq_true rfl) dX11_init_210 ?_
  refine y_swN (by decide) ?_
  refine y_putN (fs2 := [.ref (rh (JG J) 147), .ref (rh (JG J) 148), .int 0, .long 0, .long 1, .ref (rh (JG J) 149), .ref (rh (JG J) 150), .ref (rh (JG J) 151), .ref (rh (JG J) 152), .ref (rh (JG J) 153), .int 0, .int 0, .int 0, .int 0, .int 0, .int 0, .int (-1), .int (-1), .int 0, .int 0, .ref (rh (JG J) 154), .int 0, .int 0, .ref (rh (JG J) 155), .ref (rh (JG J) 156), .ref (rh (JG J) 157), .int (-1), .ref (rh (JG J) 158), .ref (rh (JG J) 159), .ref (rh (JG J) 160), .int 0, .ref (rh (JG J) 161), .int 0, .ref (rh (JG J) 162), .ref (rh (JG J) 163), .ref (rh (JG J) 164), .ref (rh (JG J) 165), .ref (rh (JG J) 166), .int 0, .int 0, .int 0, .ref (rh (JG J) 167), .ref (rh (JG J) 168), .null, .int 0, .int 0]) g hI fy_RX11_90 (Nat.le_of_ble_eq_true rfl) (Nat.le_of_ble_eq_true rfl) rfl (Nat.le_of_ble_eq_true rfl) rfl rfl dX11_init_212 ?_
  refine y_aload_n g 0 dX11_init_215 rfl rfl ?_
  refine y_iconst (v := 4) g dX11_init_216 (by decide) ?_
  refine y_new_int (N := 4) g rfl (Nat.le_of_ble_eq_true rfl) hRc okA_int (by decide) (by decide) (Nat.le_of_ble_eq_true rfl) (Nat.le_of_ble_eq_true rfl) (Nat.le_of_ble_eq_true rfl) dX11_init_217 ?_
  refine y_swN (by decide) ?_
  refine y_putN (fs2 := [.ref (rh (JG J) 147), .ref (rh (JG J) 148), .int 0, .long 0, .long 1, .ref (rh (JG J) 149), .ref (rh (JG J) 150), .ref (rh (JG J) 151), .ref (rh (JG J) 152), .ref (rh (JG J) 153), .int 0, .int 0, .int 0, .int 0, .int 0, .int 0, .int (-1), .int (-1), .int 0, .int 0, .ref (rh (JG J) 154), .int 0, .int 0, .ref (rh (JG J) 155), .ref (rh (JG J) 156), .ref (rh (JG J) 157), .int (-1), .ref (rh (JG J) 158), .ref (rh (JG J) 159), .ref (rh (JG J) 160), .int 0, .ref (rh (JG J) 161), .int 0, .ref (rh (JG J) 162), .ref (rh (JG J) 163), .ref (rh (JG J) 164), .ref (rh (JG J) 165), .ref (rh (JG J) 166), .int 0, .int 0, .int 0, .ref (rh (JG J) 167), .ref (rh (JG J) 168), .ref (rh (JG J) 169), .int 0, .int 0]) g hI fy_RX11_93 (Nat.le_of_ble_eq_true rfl) (Nat.le_of_ble_eq_true rfl) rfl (Nat.le_of_ble_eq_true rfl) rfl rfl dX11_init_219 ?_
  refine y_aload_n g 0 dX11_init_222 rfl rfl ?_
  refine y_get (v := .ref (rh (JG J) 147)) g fl_RX11_7 (Nat.le_of_ble_eq_true rfl) rfl rfl dX11_init_223 ?_
  refine y_iconst (v := 4) g dX11_init_226 (by decide) ?_
  refine y_iconst (v := -1) g dX11_init_227 (by decide) ?_
  refine y_iast (t := 147) (N := 3900) (f := _) g (Nat.le_of_ble_eq_true rfl) (Nat.le_of_ble_eq_true rfl) rfl (vp_in_nI (n := 4) (Nat.le_of_ble_eq_true rfl) (Nat.le_of_ble_eq_true rfl)) dX11_init_228 ?_
  refine y_swN (by decide) ?_
  refine y_cv (C2 := cat (JG J) C 146 170) (fun g hg => by
      by_cases hlt : g < 146
      · refine Or.inl ?_
        simp only [upC, cat]
        repeat rw [if_neg (by omega)]
      · obtain ⟨k, rfl⟩ : ∃ k, g = 146 + k := ⟨g - 146, by omega⟩
        have hk : k < 24 := by omega
        clear hlt hg
        exact (match k, hk with | 0, _ => Or.inl rfl | 1, _ => Or.inl rfl | 2, _ => Or.inl rfl | 3, _ => Or.inl rfl | 4, _ => Or.inl rfl | 5, _ => Or.inl rfl | 6, _ => Or.inl rfl | 7, _ => Or.inl rfl | 8, _ => Or.inl rfl | 9, _ => Or.inl rfl | 10, _ => Or.inl rfl | 11, _ => Or.inl rfl | 12, _ => Or.inl rfl | 13, _ => Or.inl rfl | 14, _ => Or.inl rfl | 15, _ => Or.inl rfl | 16, _ => Or.inl rfl | 17, _ => Or.inl rfl | 18, _ => Or.inl rfl | 19, _ => Or.inl rfl | 20, _ => Or.inl rfl | 21, _ => Or.inl rfl | 22, _ => Or.inl rfl | 23, _ => Or.inl rfl | k + 24, hk => absurd hk (by omega))) ?_
  exact y_vret g hr rfl (Nat.le_of_ble_eq_true rfl) dX11_init_229
set_option maxRecDepth 100000 in
set_option maxHeartbeats 8000000 in
theorem kc_0 (l : Launch) (G : GT) (hlin : Lin G) {C : Cm} (hC : C 0 = .inr (10, [.int 0, .long 0, .long 0, .null, .null, .null, .null, .null, .null, .null, .null, .null, .null, .int 0, .null, .null, .null, .null, .null])) : OkC l G yX10_init cX10_init 2 3 70 145 9319 0 1 C 146 (cat G C 0 146) := by
  refine OkC.ofY (by decide) rfl (Nat.le_of_ble_eq_true rfl) hlin (fun J g hI hr hG hl hR hRc hn => ?_)
  subst hG
  refine y_cv (C2 := upC C 0 (.inr (10, [.int 0, .long 0, .long 0, .null, .null, .null, .null, .null, .null, .null, .null, .null, .null, .int 0, .null, .null, .null, .null, .null]))) (fun g _ => Or.inl <| by
    unfold upC
    by_cases h : g = 0
    · rw [h, if_pos rfl, hC]
    · rw [if_neg h]) ?_
  refine y_aload_n g 0 dX10_init_0 rfl rfl ?_
  refine y_objI g hR lo_RX10_3 ok_oin ok_oco (Nat.le_of_ble_eq_true rfl) (Nat.le_of_ble_eq_true rfl) dX10_init_1 ?_
  refine y_aload_n g 0 dX10_init_4 rfl rfl ?_
  refine y_iconst (v := 0) g dX10_init_5 (by decide) ?_
  refine y_putN (fs2 := [.int 0, .long 0, .long 0, .null, .null, .null, .null, .null, .null, .null, .null, .null, .null, .int 0, .null, .null, .null, .null, .null]) g hI fy_RX10_9 (Nat.le_of_ble_eq_true rfl) (Nat.le_of_ble_eq_true rfl) rfl (Nat.le_of_ble_eq_true rfl) rfl rfl dX10_init_6 ?_
  refine y_aload_n g 0 dX10_init_9 rfl rfl ?_
  refine y_lconst (v := 0) g dX10_init_10 (by decide) ?_
  refine y_putN (fs2 := [.int 0, .long 0, .long 0, .null, .null, .null, .null, .null, .null, .null, .null, .null, .null, .int 0, .null, .null, .null, .null, .null]) g hI fy_RX10_13 (Nat.le_of_ble_eq_true rfl) (Nat.le_of_ble_eq_true rfl) rfl (Nat.le_of_ble_eq_true rfl) rfl rfl dX10_init_11 ?_
  refine y_aload_n g 0 dX10_init_14 rfl rfl ?_
  refine y_lconst (v := 1) g dX10_init_15 (by decide) ?_
  refine y_putN (fs2 := [.int 0, .long 0, .long 1, .null, .null, .null, .null, .null, .null, .null, .null, .null, .null, .int 0, .null, .null, .null, .null, .null]) g hI fy_RX10_17 (Nat.le_of_ble_eq_true rfl) (Nat.le_of_ble_eq_true rfl) rfl (Nat.le_of_ble_eq_true rfl) rfl rfl dX10_init_16 ?_
  refine y_aload_n g 0 dX10_init_19 rfl rfl ?_
  refine y_iconst (v := 4) g dX10_init_20 (by decide) ?_
  refine y_anew (N := 4) g 4 (fun _ => rfl) rfl (Nat.le_of_ble_eq_true rfl) hRc cl_RX10_20 (fun _ h => h.1) (by decide) (by decide) (Nat.le_of_ble_eq_true rfl) (Nat.le_of_ble_eq_true rfl) (Nat.le_of_ble_eq_true rfl) dX10_init_21 ?_
  refine y_swN (by decide) ?_
  refine y_putN (fs2 := [.int 0, .long 0, .long 1, .ref (rh (JG J) 1), .null, .null, .null, .null, .null, .null, .null, .null, .null, .int 0, .null, .null, .null, .null, .null]) g hI fy_RX10_22 (Nat.le_of_ble_eq_true rfl) (Nat.le_of_ble_eq_true rfl) rfl (Nat.le_of_ble_eq_true rfl) rfl rfl dX10_init_24 ?_
  refine y_aload_n g 0 dX10_init_27 rfl rfl ?_
  refine y_new (fs := [.null, .int 0, .null, .null, .null, .null, .int 0, .int 0, .int 0, .int 0, .int 0]) g cls6 rfl (Nat.le_of_ble_eq_true rfl) hRc cl_RX10_26 ins_6 ini_6 bl_6 (Nat.le_of_ble_eq_true rfl) (Nat.le_of_ble_eq_true rfl) dX10_init_28 ?_
  refine y_swN (by decide) ?_
  refine y_dup g dX10_init_31 rfl ?_
  refine y_callI g mvI_6 rfl imI_6 lki_RX10_28 (kc_2 _ _ hlin rfl) rfl (Nat.le_of_ble_eq_true rfl) hR hRc ⟨(Nat.le_of_ble_eq_true rfl), (Nat.le_of_ble_eq_true rfl)⟩ (Nat.le_of_ble_eq_true rfl) (Nat.le_of_ble_eq_true rfl) (Nat.le_of_ble_eq_true rfl) dX10_init_32 ?_
  refine y_catN (Nat.le_of_ble_eq_true rfl) ?_
  refine y_putN (fs2 := [.int 0, .long 0, .long 1, .ref (rh (JG J) 1), .ref (rh (JG J) 2), .null, .null, .null, .null, .null, .null, .null, .null, .int 0, .null, .null, .null, .null, .null]) g hI fy_RX10_29 (Nat.le_of_ble_eq_true rfl) (Nat.le_of_ble_eq_true rfl) rfl (Nat.le_of_ble_eq_true rfl) rfl rfl dX10_init_35 ?_
  refine y_aload_n g 0 dX10_init_38 rfl rfl ?_
  refine y_new (fs := [.null, .null, .null]) g cls1 rfl (Nat.le_of_ble_eq_true rfl) hRc cl_RX10_33 ins_1 ini_1 bl_1 (Nat.le_of_ble_eq_true rfl) (Nat.le_of_ble_eq_true rfl) dX10_init_39 ?_
  refine y_swN (by decide) ?_
  refine y_dup g dX10_init_42 rfl ?_
  refine y_callI g mvI_1 rfl imI_1 lki_RX10_35 (kc_8 _ _ hlin rfl) rfl (Nat.le_of_ble_eq_true rfl) hR hRc ⟨(Nat.le_of_ble_eq_true rfl), (Nat.le_of_ble_eq_true rfl)⟩ (Nat.le_of_ble_eq_true rfl) (Nat.le_of_ble_eq_true rfl) (Nat.le_of_ble_eq_true rfl) dX10_init_43 ?_
  refine y_catN (Nat.le_of_ble_eq_true rfl) ?_
  refine y_putN (fs2 := [.int 0, .long 0, .long 1, .ref (rh (JG J) 1), .ref (rh (JG J) 2), .ref (rh (JG J) 8), .null, .null, .null, .null, .null, .null, .null, .int 0, .null, .null, .null, .null, .null]) g hI fy_RX10_36 (Nat.le_of_ble_eq_true rfl) (Nat.le_of_ble_eq_true rfl) rfl (Nat.le_of_ble_eq_true rfl) rfl rfl dX10_init_46 ?_
  refine y_aload_n g 0 dX10_init_49 rfl rfl ?_
  refine y_new (fs := [.null, .int 0, .null, .null, .null]) g cls9 rfl (Nat.le_of_ble_eq_true rfl) hRc cl_RX10_40 ins_9 ini_9 bl_9 (Nat.le_of_ble_eq_true rfl) (Nat.le_of_ble_eq_true rfl) dX10_init_50 ?_
  refine y_swN (by decide) ?_
  refine y_dup g dX10_init_53 rfl ?_
  refine y_callI g mvI_9 rfl imI_9 lki_RX10_42 (kc_10 _ _ hlin rfl) rfl (Nat.le_of_ble_eq_true rfl) hR hRc ⟨(Nat.le_of_ble_eq_true rfl), (Nat.le_of_ble_eq_true rfl)⟩ (Nat.le_of_ble_eq_true rfl) (Nat.le_of_ble_eq_true rfl) (Nat.le_of_ble_eq_true rfl) dX10_init_54 ?_
  refine y_catN (Nat.le_of_ble_eq_true rfl) ?_
  refine y_putN (fs2 := [.int 0, .long 0, .long 1, .ref (rh (JG J) 1), .ref (rh (JG J) 2), .ref (rh (JG J) 8), .ref (rh (JG J) 10), .null, .null, .null, .null, .null, .null, .int 0, .null, .null, .null, .null, .null]) g hI fy_RX10_43 (Nat.le_of_ble_eq_true rfl) (Nat.le_of_ble_eq_true rfl) rfl (Nat.le_of_ble_eq_true rfl) rfl rfl dX10_init_57 ?_
  refine y_aload_n g 0 dX10_init_60 rfl rfl ?_
  refine y_new (fs := [.int 0, .null, .null, .null, .int 0, .null, .null, .null, .null, .null, .null, .int 0, .null, .int 0, .null, .null, .null]) g cls2 rfl (Nat.le_of_ble_eq_true rfl) hRc cl_RX10_47 ins_2 ini_2 bl_2 (Nat.le_of_ble_eq_true rfl) (Nat.le_of_ble_eq_true rfl) dX10_init_61 ?_
  refine y_swN (by decide) ?_
  refine y_dup g dX10_init_64 rfl ?_
  refine y_callI g mvI_2 rfl imI_2 lki_RX10_49 (kc_12 _ _ hlin rfl) rfl (Nat.le_of_ble_eq_true rfl) hR hRc ⟨(Nat.le_of_ble_eq_true rfl), (Nat.le_of_ble_eq_true rfl)⟩ (Nat.le_of_ble_eq_true rfl) (Nat.le_of_ble_eq_true rfl) (Nat.le_of_ble_eq_true rfl) dX10_init_65 ?_
  refine y_catN (Nat.le_of_ble_eq_true rfl) ?_
  refine y_putN (fs2 := [.int 0, .long 0, .long 1, .ref (rh (JG J) 1), .ref (rh (JG J) 2), .ref (rh (JG J) 8), .ref (rh (JG J) 10), .ref (rh (JG J) 12), .null, .null, .null, .null, .null, .int 0, .null, .null, .null, .null, .null]) g hI fy_RX10_50 (Nat.le_of_ble_eq_true rfl) (Nat.le_of_ble_eq_true rfl) rfl (Nat.le_of_ble_eq_true rfl) rfl rfl dX10_init_68 ?_
  refine y_aload_n g 0 dX10_init_71 rfl rfl ?_
  refine y_new (fs := [.int 0, .null, .null, .null, .int 0, .null, .null, .null, .null, .null, .null, .int 0, .null, .int 0, .null, .null, .null]) g cls2 rfl (Nat.le_of_ble_eq_true rfl) hRc cl_RX10_47 ins_2 ini_2 bl_2 (Nat.le_of_ble_eq_true rfl) (Nat.le_of_ble_eq_true rfl) dX10_init_72 ?_
  refine y_swN (by decide) ?_
  refine y_dup g dX10_init_75 rfl ?_
  refine y_callI g mvI_2 rfl imI_2 lki_RX10_49 (kc_26 _ _ hlin rfl) rfl (Nat.le_of_ble_eq_true rfl) hR hRc ⟨(Nat.le_of_ble_eq_true rfl), (Nat.le_of_ble_eq_true rfl)⟩ (Nat.le_of_ble_eq_true rfl) (Nat.le_of_ble_eq_true rfl) (Nat.le_of_ble_eq_true rfl) dX10_init_76 ?_
  refine y_catN (Nat.le_of_ble_eq_true rfl) ?_
  refine y_putN (fs2 := [.int 0, .long 0, .long 1, .ref (rh (JG J) 1), .ref (rh (JG J) 2), .ref (rh (JG J) 8), .ref (rh (JG J) 10), .ref (rh (JG J) 12), .ref (rh (JG J) 26), .null, .null, .null, .null, .int 0, .null, .null, .null, .null, .null]) g hI fy_RX10_54 (Nat.le_of_ble_eq_true rfl) (Nat.le_of_ble_eq_true rfl) rfl (Nat.le_of_ble_eq_true rfl) rfl rfl dX10_init_79 ?_
  refine y_aload_n g 0 dX10_init_82 rfl rfl ?_
  refine y_new (fs := [.int 0, .int 0, .int 0, .null, .null, .null, .null, .null]) g cls8 rfl (Nat.le_of_ble_eq_true rfl) hRc cl_RX10_57 ins_8 ini_8 bl_8 (Nat.le_of_ble_eq_true rfl) (Nat.le_of_ble_eq_true rfl) dX10_init_83 ?_
  refine y_swN (by decide) ?_
  refine y_dup g dX10_init_86 rfl ?_
  refine y_callI g mvI_8 rfl imI_8 lki_RX10_59 (kc_40 _ _ hlin rfl) rfl (Nat.le_of_ble_eq_true rfl) hR hRc ⟨(Nat.le_of_ble_eq_true rfl), (Nat.le_of_ble_eq_true rfl)⟩ (Nat.le_of_ble_eq_true rfl) (Nat.le_of_ble_eq_true rfl) (Nat.le_of_ble_eq_true rfl) dX10_init_87 ?_
  refine y_catN (Nat.le_of_ble_eq_true rfl) ?_
  refine y_putN (fs2 := [.int 0, .long 0, .long 1, .ref (rh (JG J) 1), .ref (rh (JG J) 2), .ref (rh (JG J) 8), .ref (rh (JG J) 10), .ref (rh (JG J) 12), .ref (rh (JG J) 26), .ref (rh (JG J) 40), .null, .null, .null, .int 0, .null, .null, .null, .null, .null]) g hI fy_RX10_60 (Nat.le_of_ble_eq_true rfl) (Nat.le_of_ble_eq_true rfl) rfl (Nat.le_of_ble_eq_true rfl) rfl rfl dX10_init_90 ?_
  refine y_aload_n g 0 dX10_init_93 rfl rfl ?_
  refine y_new (fs := [.int 0, .int 0, .int 0, .null, .null, .null, .null, .null]) g cls8 rfl (Nat.le_of_ble_eq_true rfl) hRc cl_RX10_57 ins_8 ini_8 bl_8 (Nat.le_of_ble_eq_true rfl) (Nat.le_of_ble_eq_true rfl) dX10_init_94 ?_
  refine y_swN (by decide) ?_
  refine y_dup g dX10_init_97 rfl ?_
  refine y_callI g mvI_8 rfl imI_8 lki_RX10_59 (kc_46 _ _ hlin rfl) rfl (Nat.le_of_ble_eq_true rfl) hR hRc ⟨(Nat.le_of_ble_eq_true rfl), (Nat.le_of_ble_eq_true rfl)⟩ (Nat.le_of_ble_eq_true rfl) (Nat.le_of_ble_eq_true rfl) (Nat.le_of_ble_eq_true rfl) dX10_init_98 ?_
  refine y_catN (Nat.le_of_ble_eq_true rfl) ?_
  refine y_putN (fs2 := [.int 0, .long 0, .long 1, .ref (rh (JG J) 1), .ref (rh (JG J) 2), .ref (rh (JG J) 8), .ref (rh (JG J) 10), .ref (rh (JG J) 12), .ref (rh (JG J) 26), .ref (rh (JG J) 40), .ref (rh (JG J) 46), .null, .null, .int 0, .null, .null, .null, .null, .null]) g hI fy_RX10_64 (Nat.le_of_ble_eq_true rfl) (Nat.le_of_ble_eq_true rfl) rfl (Nat.le_of_ble_eq_true rfl) rfl rfl dX10_init_101 ?_
  refine y_aload_n g 0 dX10_init_104 rfl rfl ?_
  refine y_iconst (v := 3) g dX10_init_105 (by decide) ?_
  refine y_anew (N := 3) g 5 (fun _ => rfl) rfl (Nat.le_of_ble_eq_true rfl) hRc cl_RX10_47 (fun _ h => h.2.1) (by decide) (by decide) (Nat.le_of_ble_eq_true rfl) (Nat.le_of_ble_eq_true rfl) (Nat.le_of_ble_eq_true rfl) dX10_init_106 ?_
  refine y_swN (by decide) ?_
  refine y_putN (fs2 := [.int 0, .long 0, .long 1, .ref (rh (JG J) 1), .ref (rh (JG J) 2), .ref (rh (JG J) 8), .ref (rh (JG J) 10), .ref (rh (JG J) 12), .ref (rh (JG J) 26), .ref (rh (JG J) 40), .ref (rh (JG J) 46), .ref (rh (JG J) 52), .null, .int 0, .null, .null, .null, .null, .null]) g hI fy_RX10_67 (Nat.le_of_ble_eq_true rfl) (Nat.le_of_ble_eq_true rfl) rfl (Nat.le_of_ble_eq_true rfl) rfl rfl dX10_init_109 ?_
  refine y_aload_n g 0 dX10_init_112 rfl rfl ?_
  refine y_iconst (v := 3) g dX10_init_113 (by decide) ?_
  refine y_anew (N := 3) g 6 (fun _ => rfl) rfl (Nat.le_of_ble_eq_true rfl) hRc cl_RX10_57 (fun _ h => h.2.2) (by decide) (by decide) (Nat.le_of_ble_eq_true rfl) (Nat.le_of_ble_eq_true rfl) (Nat.le_of_ble_eq_true rfl) dX10_init_114 ?_
  refine y_swN (by decide) ?_
  refine y_putN (fs2 := [.int 0, .long 0, .long 1, .ref (rh (JG J) 1), .ref (rh (JG J) 2), .ref (rh (JG J) 8), .ref (rh (JG J) 10), .ref (rh (JG J) 12), .ref (rh (JG J) 26), .ref (rh (JG J) 40), .ref (rh (JG J) 46), .ref (rh (JG J) 52), .ref (rh (JG J) 53), .int 0, .null, .null, .null, .null, .null]) g hI fy_RX10_71 (Nat.le_of_ble_eq_true rfl) (Nat.le_of_ble_eq_true rfl) rfl (Nat.le_of_ble_eq_true rfl) rfl rfl dX10_init_117 ?_
  refine y_aload_n g 0 dX10_init_120 rfl rfl ?_
  refine y_iconst (v := 0) g dX10_init_121 (by decide) ?_
  refine y_putN (fs2 := [.int 0, .long 0, .long 1, .ref (rh (JG J) 1), .ref (rh (JG J) 2), .ref (rh (JG J) 8), .ref (rh (JG J) 10), .ref (rh (JG J) 12), .ref (rh (JG J) 26), .ref (rh (JG J) 40), .ref (rh (JG J) 46), .ref (rh (JG J) 52), .ref (rh (JG J) 53), .int 0, .null, .null, .null, .null, .null]) g hI fy_RX10_75 (Nat.le_of_ble_eq_true rfl) (Nat.le_of_ble_eq_true rfl) rfl (Nat.le_of_ble_eq_true rfl) rfl rfl dX10_init_122 ?_
  refine y_aload_n g 0 dX10_init_125 rfl rfl ?_
  refine y_new (fs := [.null, .null, .int 0, .int 0]) g cls5 rfl (Nat.le_of_ble_eq_true rfl) hRc cl_RX10_78 ins_5 ini_5 bl_5 (Nat.le_of_ble_eq_true rfl) (Nat.le_of_ble_eq_true rfl) dX10_init_126 ?_
  refine y_swN (by decide) ?_
  refine y_dup g dX10_init_129 rfl ?_
  refine y_callI g mvI_5 rfl imI_5 lki_RX10_80 (kc_54 _ _ hlin rfl) rfl (Nat.le_of_ble_eq_true rfl) hR hRc ⟨(Nat.le_of_ble_eq_true rfl), (Nat.le_of_ble_eq_true rfl)⟩ (Nat.le_of_ble_eq_true rfl) (Nat.le_of_ble_eq_true rfl) (Nat.le_of_ble_eq_true rfl) dX10_init_130 ?_
  refine y_catN (Nat.le_of_ble_eq_true rfl) ?_
  refine y_putN (fs2 := [.int 0, .long 0, .long 1, .ref (rh (JG J) 1), .ref (rh (JG J) 2), .ref (rh (JG J) 8), .ref (rh (JG J) 10), .ref (rh (JG J) 12), .ref (rh (JG J) 26), .ref (rh (JG J) 40), .ref (rh (JG J) 46), .ref (rh (JG J) 52), .ref (rh (JG J) 53), .int 0, .ref (rh (JG J) 54), .null, .null, .null, .null]) g hI fy_RX10_81 (Nat.le_of_ble_eq_true rfl) (Nat.le_of_ble_eq_true rfl) rfl (Nat.le_of_ble_eq_true rfl) rfl rfl dX10_init_133 ?_
  refine y_aload_n g 0 dX10_init_136 rfl rfl ?_
  refine y_new (fs := [.null, .int 0, .int 0, .null, .null, .null, .int 0, .int 0, .null, .null, .null, .null, .null, .int 0, .int 0, .null, .null]) g cls0 rfl (Nat.le_of_ble_eq_true rfl) hRc cl_RX10_85 ins_0 ini_0 bl_0 (Nat.le_of_ble_eq_true rfl) (Nat.le_of_ble_eq_true rfl) dX10_init_137 ?_
  refine y_swN (by decide) ?_
  refine y_dup g dX10_init_140 rfl ?_
  refine y_callI g mvI_0 rfl imI_0 lki_RX10_87 (kc_57 _ _ hlin rfl) rfl (Nat.le_of_ble_eq_true rfl) hR hRc ⟨(Nat.le_of_ble_eq_true rfl), (Nat.le_of_ble_eq_true rfl)⟩ (Nat.le_of_ble_eq_true rfl) (Nat.le_of_ble_eq_true rfl) (Nat.le_of_ble_eq_true rfl) dX10_init_141 ?_
  refine y_catN (Nat.le_of_ble_eq_true rfl) ?_
  refine y_putN (fs2 := [.int 0, .long 0, .long 1, .ref (rh (JG J) 1), .ref (rh (JG J) 2), .ref (rh (JG J) 8), .ref (rh (JG J) 10), .ref (rh (JG J) 12), .ref (rh (JG J) 26), .ref (rh (JG J) 40), .ref (rh (JG J) 46), .ref (rh (JG J) 52), .ref (rh (JG J) 53), .int 0, .ref (rh (JG J) 54), .ref (rh (JG J) 57), .null, .null, .null]) g hI fy_RX10_88 (Nat.le_of_ble_eq_true rfl) (Nat.le_of_ble_eq_true rfl) rfl (Nat.le_of_ble_eq_true rfl) rfl rfl dX10_init_144 ?_
  refine y_aload_n g 0 dX10_init_147 rfl rfl ?_
  refine y_new (fs := [.null, .int 0, .null]) g cls4 rfl (Nat.le_of_ble_eq_true rfl) hRc cl_RX10_92 ins_4 ini_4 bl_4 (Nat.le_of_ble_eq_true rfl) (Nat.le_of_ble_eq_true rfl) dX10_init_148 ?_
  refine y_swN (by decide) ?_
  refine y_dup g dX10_init_151 rfl ?_
  refine y_callI g mvI_4 rfl imI_4 lki_RX10_94 (kc_71 _ _ hlin rfl) rfl (Nat.le_of_ble_eq_true rfl) hR hRc ⟨(Nat.le_of_ble_eq_true rfl), (Nat.le_of_ble_eq_true rfl)⟩ (Nat.le_of_ble_eq_true rfl) (Nat.le_of_ble_eq_true rfl) (Nat.le_of_ble_eq_true rfl) dX10_init_152 ?_
  refine y_catN (Nat.le_of_ble_eq_true rfl) ?_
  refine y_putN (fs2 := [.int 0, .long 0, .long 1, .ref (rh (JG J) 1), .ref (rh (JG J) 2), .ref (rh (JG J) 8), .ref (rh (JG J) 10), .ref (rh (JG J) 12), .ref (rh (JG J) 26), .ref (rh (JG J) 40), .ref (rh (JG J) 46), .ref (rh (JG J) 52), .ref (rh (JG J) 53), .int 0, .ref (rh (JG J) 54), .ref (rh (JG J) 57), .ref (rh (JG J) 71), .null, .null]) g hI fy_RX10_95 (Nat.le_of_ble_eq_true rfl) (Nat.le_of_ble_eq_true rfl) rfl (Nat.le_of_ble_eq_true rfl) rfl rfl dX10_init_155 ?_
  refine y_aload_n g 0 dX10_init_158 rfl rfl ?_
  refine y_new (fs := [.null, .int 0, .int 0, .int 0, .int 0, .int 0, .int 0, .int 0]) g cls3 rfl (Nat.le_of_ble_eq_true rfl) hRc cl_RX10_99 ins_3 ini_3 bl_3 (Nat.le_of_ble_eq_true rfl) (Nat.le_of_ble_eq_true rfl) dX10_init_159 ?_
  refine y_swN (by decide) ?_
  refine y_dup g dX10_init_162 rfl ?_
  refine y_callI g mvI_3 rfl imI_3 lki_RX10_101 (kc_74 _ _ hlin rfl) rfl (Nat.le_of_ble_eq_true rfl) hR hRc ⟨(Nat.le_of_ble_eq_true rfl), (Nat.le_of_ble_eq_true rfl)⟩ (Nat.le_of_ble_eq_true rfl) (Nat.le_of_ble_eq_true rfl) (Nat.le_of_ble_eq_true rfl) dX10_init_163 ?_
  refine y_catN (Nat.le_of_ble_eq_true rfl) ?_
  refine y_putN (fs2 := [.int 0, .long 0, .long 1, .ref (rh (JG J) 1), .ref (rh (JG J) 2), .ref (rh (JG J) 8), .ref (rh (JG J) 10), .ref (rh (JG J) 12), .ref (rh (JG J) 26), .ref (rh (JG J) 40), .ref (rh (JG J) 46), .ref (rh (JG J) 52), .ref (rh (JG J) 53), .int 0, .ref (rh (JG J) 54), .ref (rh (JG J) 57), .ref (rh (JG J) 71), .ref (rh (JG J) 74), .null]) g hI fy_RX10_102 (Nat.le_of_ble_eq_true rfl) (Nat.le_of_ble_eq_true rfl) rfl (Nat.le_of_ble_eq_true rfl) rfl rfl dX10_init_166 ?_
  refine y_aload_n g 0 dX10_init_169 rfl rfl ?_
  refine y_new (fs := [.null, .int 0, .int 0, .int 0, .int 0, .int 0, .int 0, .int 0]) g cls3 rfl (Nat.le_of_ble_eq_true rfl) hRc cl_RX10_99 ins_3 ini_3 bl_3 (Nat.le_of_ble_eq_true rfl) (Nat.le_of_ble_eq_true rfl) dX10_init_170 ?_
  refine y_swN (by decide) ?_
  refine y_dup g dX10_init_173 rfl ?_
  refine y_callI g mvI_3 rfl imI_3 lki_RX10_101 (kc_76 _ _ hlin rfl) rfl (Nat.le_of_ble_eq_true rfl) hR hRc ⟨(Nat.le_of_ble_eq_true rfl), (Nat.le_of_ble_eq_true rfl)⟩ (Nat.le_of_ble_eq_true rfl) (Nat.le_of_ble_eq_true rfl) (Nat.le_of_ble_eq_true rfl) dX10_init_174 ?_
  refine y_catN (Nat.le_of_ble_eq_true rfl) ?_
  refine y_putN (fs2 := [.int 0, .long 0, .long 1, .ref (rh (JG J) 1), .ref (rh (JG J) 2), .ref (rh (JG J) 8), .ref (rh (JG J) 10), .ref (rh (JG J) 12), .ref (rh (JG J) 26), .ref (rh (JG J) 40), .ref (rh (JG J) 46), .ref (rh (JG J) 52), .ref (rh (JG J) 53), .int 0, .ref (rh (JG J) 54), .ref (rh (JG J) 57), .ref (rh (JG J) 71), .ref (rh (JG J) 74), .ref (rh (JG J) 76)]) g hI fy_RX10_106 (Nat.le_of_ble_eq_true rfl) (Nat.le_of_ble_eq_true rfl) rfl (Nat.le_of_ble_eq_true rfl) rfl rfl dX10_init_177 ?_
  refine y_iconst (v := 0) g dX10_init_180 (by decide) ?_
  refine y_istore_n (L' := [(1, .int 0), (0, .ref (rh (JG J) 0))]) g dX10_init_181 rfl hn (Nat.le_of_ble_eq_true rfl) rfl ?_
  refine y_iload_n g 0 dX10_init_182 rfl rfl ?_
  refine y_iconst (v := 4) g dX10_init_183 (by decide) ?_
  refine y_ge_f g 206 dX10_init_184 rfl (by decide) ?_
  refine y_aload_n g 1 dX10_init_187 rfl rfl ?_
  refine y_get (v := .ref (rh (JG J) 1)) g fl_RX10_22 (Nat.le_of_ble_eq_true rfl) rfl rfl dX10_init_188 ?_
  refine y_iload_n g 0 dX10_init_191 rfl rfl ?_
  refine y_new (fs := [.null, .int 0, .int 0]) g cls7 rfl (Nat.le_of_ble_eq_true rfl) hRc cl_RX10_20 ins_7 ini_7 bl_7 (Nat.le_of_ble_eq_true rfl) (Nat.le_of_ble_eq_true rfl) dX10_init_192 ?_
  refine y_swN (by decide) ?_
  refine y_dup g dX10_init_195 rfl ?_
  refine y_callI g mvI_7 rfl imI_7 lki_RX10_109 (kc_78 _ _ hlin rfl) rfl (Nat.le_of_ble_eq_true rfl) hR hRc ⟨(Nat.le_of_ble_eq_true rfl), (Nat.le_of_ble_eq_true rfl)⟩ (Nat.le_of_ble_eq_true rfl) (Nat.le_of_ble_eq_true rfl) (Nat.le_of_ble_eq_true rfl) dX10_init_196 ?_
  refine y_catN (Nat.le_of_ble_eq_true rfl) ?_
  refine y_aast (t := 1) (z := 78) (N := 4) (ci := 7) (r := (RX7, TX7, nfs 7)) (f := _) (fs := _) g 4 (fun _ => rfl) (Nat.le_of_ble_eq_true rfl) (Nat.le_of_ble_eq_true rfl) (Nat.le_of_ble_eq_true rfl) rfl rfl rfl (vp_in_nI (n := 0) (Nat.le_of_ble_eq_true rfl) (Nat.le_of_ble_eq_true rfl)) dX10_init_199 ?_
  refine y_swN (by decide) ?_
  refine y_iinc (L' := [(1, .int 1), (0, .ref (rh (JG J) 0))]) (v := 1) g 0 dX10_init_200 rfl (by decide) hn (Nat.le_of_ble_eq_true rfl) rfl ?_
  refine y_goto g 182 dX10_init_203 rfl ?_
  refine y_iload_n g 0 dX10_init_182 rfl rfl ?_
  refine y_iconst (v := 4) g dX10_init_183 (by decide) ?_
  refine y_ge_f g 206 dX10_init_184 rfl (by decide) ?_
  refine y_aload_n g 1 dX10_init_187 rfl rfl ?_
  refine y_get (v := .ref (rh (JG J) 1)) g fl_RX10_22 (Nat.le_of_ble_eq_true rfl) rfl rfl dX10_init_188 ?_
  refine y_iload_n g 0 dX10_init_191 rfl rfl ?_
  refine y_new (fs := [.null, .int 0, .int 0]) g cls7 rfl (Nat.le_of_ble_eq_true rfl) hRc cl_RX10_20 ins_7 ini_7 bl_7 (Nat.le_of_ble_eq_true rfl) (Nat.le_of_ble_eq_true rfl) dX10_init_192 ?_
  refine y_swN (by decide) ?_
  refine y_dup g dX10_init_195 rfl ?_
  refine y_callI g mvI_7 rfl imI_7 lki_RX10_109 (kc_80 _ _ hlin rfl) rfl (Nat.le_of_ble_eq_true rfl) hR hRc ⟨(Nat.le_of_ble_eq_true rfl), (Nat.le_of_ble_eq_true rfl)⟩ (Nat.le_of_ble_eq_true rfl) (Nat.le_of_ble_eq_true rfl) (Nat.le_of_ble_eq_true rfl) dX10_init_196 ?_
  refine y_catN (Nat.le_of_ble_eq_true rfl) ?_
  refine y_aast (t := 1) (z := 80) (N := 4) (ci := 7) (r := (RX7, TX7, nfs 7)) (f := _) (fs := _) g 4 (fun _ => rfl) (Nat.le_of_ble_eq_true rfl) (Nat.le_of_ble_eq_true rfl) (Nat.le_of_ble_eq_true rfl) rfl rfl rfl (vp_in_nI (n := 1) (Nat.le_of_ble_eq_true rfl) (Nat.le_of_ble_eq_true rfl)) dX10_init_199 ?_
  refine y_swN (by decide) ?_
  refine y_iinc (L' := [(1, .int 2), (0, .ref (rh (JG J) 0))]) (v := 2) g 0 dX10_init_200 rfl (by decide) hn (Nat.le_of_ble_eq_true rfl) rfl ?_
  refine y_goto g 182 dX10_init_203 rfl ?_
  refine y_iload_n g 0 dX10_init_182 rfl rfl ?_
  refine y_iconst (v := 4) g dX10_init_183 (by decide) ?_
  refine y_ge_f g 206 dX10_init_184 rfl (by decide) ?_
  refine y_aload_n g 1 dX10_init_187 rfl rfl ?_
  refine y_get (v := .ref (rh (JG J) 1)) g fl_RX10_22 (Nat.le_of_ble_eq_true rfl) rfl rfl dX10_init_188 ?_
  refine y_iload_n g 0 dX10_init_191 rfl rfl ?_
  refine y_new (fs := [.null, .int 0, .int 0]) g cls7 rfl (Nat.le_of_ble_eq_true rfl) hRc cl_RX10_20 ins_7 ini_7 bl_7 (Nat.le_of_ble_eq_true rfl) (Nat.le_of_ble_eq_true rfl) dX10_init_192 ?_
  refine y_swN (by decide) ?_
  refine y_dup g dX10_init_195 rfl ?_
  refine y_callI g mvI_7 rfl imI_7 lki_RX10_109 (kc_82 _ _ hlin rfl) rfl (Nat.le_of_ble_eq_true rfl) hR hRc ⟨(Nat.le_of_ble_eq_true rfl), (Nat.le_of_ble_eq_true rfl)⟩ (Nat.le_of_ble_eq_true rfl) (Nat.le_of_ble_eq_true rfl) (Nat.le_of_ble_eq_true rfl) dX10_init_196 ?_
  refine y_catN (Nat.le_of_ble_eq_true rfl) ?_
  refine y_aast (t := 1) (z := 82) (N := 4) (ci := 7) (r := (RX7, TX7, nfs 7)) (f := _) (fs := _) g 4 (fun _ => rfl) (Nat.le_of_ble_eq_true rfl) (Nat.le_of_ble_eq_true rfl) (Nat.le_of_ble_eq_true rfl) rfl rfl rfl (vp_in_nI (n := 2) (Nat.le_of_ble_eq_true rfl) (Nat.le_of_ble_eq_true rfl)) dX10_init_199 ?_
  refine y_swN (by decide) ?_
  refine y_iinc (L' := [(1, .int 3), (0, .ref (rh (JG J) 0))]) (v := 3) g 0 dX10_init_200 rfl (by decide) hn (Nat.le_of_ble_eq_true rfl) rfl ?_
  refine y_goto g 182 dX10_init_203 rfl ?_
  refine y_iload_n g 0 dX10_init_182 rfl rfl ?_
  refine y_iconst (v := 4) g dX10_init_183 (by decide) ?_
  refine y_ge_f g 206 dX10_init_184 rfl (by decide) ?_
  refine y_aload_n g 1 dX10_init_187 rfl rfl ?_
  refine y_get (v := .ref (rh (JG J) 1)) g fl_RX10_22 (Nat.le_of_ble_eq_true rfl) rfl rfl dX10_init_188 ?_
  refine y_iload_n g 0 dX10_init_191 rfl rfl ?_
  refine y_new (fs := [.null, .int 0, .int 0]) g cls7 rfl (Nat.le_of_ble_eq_true rfl) hRc cl_RX10_20 ins_7 ini_7 bl_7 (Nat.le_of_ble_eq_true rfl) (Nat.le_of_ble_eq_true rfl) dX10_init_192 ?_
  refine y_swN (by decide) ?_
  refine y_dup g dX10_init_195 rfl ?_
  refine y_callI g mvI_7 rfl imI_7 lki_RX10_109 (kc_84 _ _ hlin rfl) rfl (Nat.le_of_ble_eq_true rfl) hR hRc ⟨(Nat.le_of_ble_eq_true rfl), (Nat.le_of_ble_eq_true rfl)⟩ (Nat.le_of_ble_eq_true rfl) (Nat.le_of_ble_eq_true rfl) (Nat.le_of_ble_eq_true rfl) dX10_init_196 ?_
  refine y_catN (Nat.le_of_ble_eq_true rfl) ?_
  refine y_aast (t := 1) (z := 84) (N := 4) (ci := 7) (r := (RX7, TX7, nfs 7)) (f := _) (fs := _) g 4 (fun _ => rfl) (Nat.le_of_ble_eq_true rfl) (Nat.le_of_ble_eq_true rfl) (Nat.le_of_ble_eq_true rfl) rfl rfl rfl (vp_in_nI (n := 3) (Nat.le_of_ble_eq_true rfl) (Nat.le_of_ble_eq_true rfl)) dX10_init_199 ?_
  refine y_swN (by decide) ?_
  refine y_iinc (L' := [(1, .int 4), (0, .ref (rh (JG J) 0))]) (v := 4) g 0 dX10_init_200 rfl (by decide) hn (Nat.le_of_ble_eq_true rfl) rfl ?_
  refine y_goto g 182 dX10_init_203 rfl ?_
  refine y_iload_n g 0 dX10_init_182 rfl rfl ?_
  refine y_iconst (v := 4) g dX10_init_183 (by decide) ?_
  refine y_ge_t g 206 dX10_init_184 rfl (by decide) ?_
  refine y_iconst (v := 0) g dX10_init_206 (by decide) ?_
  refine y_istore_n (L' := [(1, .int 0), (0, .ref (rh (JG J) 0))]) g dX10_init_207 rfl hn (Nat.le_of_ble_eq_true rfl) rfl ?_
  refine y_iload_n g 0 dX10_init_208 rfl rfl ?_
  refine y_iconst (v := 3) g dX10_init_209 (by decide) ?_
  refine y_ge_f g 245 dX10_init_210 rfl (by decide) ?_
  refine y_aload_n g 1 dX10_init_213 rfl rfl ?_
  refine y_get (v := .ref (rh (JG J) 52)) g fl_RX10_67 (Nat.le_of_ble_eq_true rfl) rfl rfl dX10_init_214 ?_
  refine y_iload_n g 0 dX10_init_217 rfl rfl ?_
  refine y_new (fs := [.int 0, .null, .null, .null, .int 0, .null, .null, .null, .null, .null, .null, .int 0, .null, .int 0, .null, .null, .null]) g cls2 rfl (Nat.le_of_ble_eq_true rfl) hRc cl_RX10_47 ins_2 ini_2 bl_2 (Nat.le_of_ble_eq_true rfl) (Nat.le_of_ble_eq_true rfl) dX10_init_218 ?_
  refine y_swN (by decide) ?_
  refine y_dup g dX10_init_221 rfl ?_
  refine y_callI g mvI_2 rfl imI_2 lki_RX10_49 (kc_86 _ _ hlin rfl) rfl (Nat.le_of_ble_eq_true rfl) hR hRc ⟨(Nat.le_of_ble_eq_true rfl), (Nat.le_of_ble_eq_true rfl)⟩ (Nat.le_of_ble_eq_true rfl) (Nat.le_of_ble_eq_true rfl) (Nat.le_of_ble_eq_true rfl) dX10_init_222 ?_
  refine y_catN (Nat.le_of_ble_eq_true rfl) ?_
  refine y_aast (t := 52) (z := 86) (N := 3) (ci := 2) (r := (RX2, TX2, nfs 2)) (f := _) (fs := _) g 5 (fun _ => rfl) (Nat.le_of_ble_eq_true rfl) (Nat.le_of_ble_eq_true rfl) (Nat.le_of_ble_eq_true rfl) rfl rfl rfl (vp_in_nI (n := 0) (Nat.le_of_ble_eq_true rfl) (Nat.le_of_ble_eq_true rfl)) dX10_init_225 ?_
  refine y_swN (by decide) ?_
  refine y_aload_n g 1 dX10_init_226 rfl rfl ?_
  refine y_get (v := .ref (rh (JG J) 53)) g fl_RX10_71 (Nat.le_of_ble_eq_true rfl) rfl rfl dX10_init_227 ?_
  refine y_iload_n g 0 dX10_init_230 rfl rfl ?_
  refine y_new (fs := [.int 0, .int 0, .int 0, .null, .null, .null, .null, .null]) g cls8 rfl (Nat.le_of_ble_eq_true rfl) hRc cl_RX10_57 ins_8 ini_8 bl_8 (Nat.le_of_ble_eq_true rfl) (Nat.le_of_ble_eq_true rfl) dX10_init_231 ?_
  refine y_swN (by decide) ?_
  refine y_dup g dX10_init_234 rfl ?_
  refine y_callI g mvI_8 rfl imI_8 lki_RX10_59 (kc_100 _ _ hlin rfl) rfl (Nat.le_of_ble_eq_true rfl) hR hRc ⟨(Nat.le_of_ble_eq_true rfl), (Nat.le_of_ble_eq_true rfl)⟩ (Nat.le_of_ble_eq_true rfl) (Nat.le_of_ble_eq_true rfl) (Nat.le_of_ble_eq_true rfl) dX10_init_235 ?_
  refine y_catN (Nat.le_of_ble_eq_true rfl) ?_
  refine y_aast (t := 53) (z := 100) (N := 3) (ci := 8) (r := (RX8, TX8, nfs 8)) (f := _) (fs := _) g 6 (fun _ => rfl) (Nat.le_of_ble_eq_true rfl) (Nat.le_of_ble_eq_true rfl) (Nat.le_of_ble_eq_true rfl) rfl rfl rfl (vp_in_nI (n := 0) (Nat.le_of_ble_eq_true rfl) (Nat.le_of_ble_eq_true rfl)) dX10_init_238 ?_
  refine y_swN (by decide) ?_
  refine y_iinc (L' := [(1, .int 1), (0, .ref (rh (JG J) 0))]) (v := 1) g 0 dX10_init_239 rfl (by decide) hn (Nat.le_of_ble_eq_true rfl) rfl ?_
  refine y_goto g 208 dX10_init_242 rfl ?_
  refine y_iload_n g 0 dX10_init_208 rfl rfl ?_
  refine y_iconst (v := 3) g dX10_init_209 (by decide) ?_
  refine y_ge_f g 245 dX10_init_210 rfl (by decide) ?_
  refine y_aload_n g 1 dX10_init_213 rfl rfl ?_
  refine y_get (v := .ref (rh (JG J) 52)) g fl_RX10_67 (Nat.le_of_ble_eq_true rfl) rfl rfl dX10_init_214 ?_
  refine y_iload_n g 0 dX10_init_217 rfl rfl ?_
  refine y_new (fs := [.int 0, .null, .null, .null, .int 0, .null, .null, .null, .null, .null, .null, .int 0, .null, .int 0, .null, .null, .null]) g cls2 rfl (Nat.le_of_ble_eq_true rfl) hRc cl_RX10_47 ins_2 ini_2 bl_2 (Nat.le_of_ble_eq_true rfl) (Nat.le_of_ble_eq_true rfl) dX10_init_218 ?_
  refine y_swN (by decide) ?_
  refine y_dup g dX10_init_221 rfl ?_
  refine y_callI g mvI_2 rfl imI_2 lki_RX10_49 (kc_106 _ _ hlin rfl) rfl (Nat.le_of_ble_eq_true rfl) hR hRc ⟨(Nat.le_of_ble_eq_true rfl), (Nat.le_of_ble_eq_true rfl)⟩ (Nat.le_of_ble_eq_true rfl) (Nat.le_of_ble_eq_true rfl) (Nat.le_of_ble_eq_true rfl) dX10_init_222 ?_
  refine y_catN (Nat.le_of_ble_eq_true rfl) ?_
  refine y_aast (t := 52) (z := 106) (N := 3) (ci := 2) (r := (RX2, TX2, nfs 2)) (f := _) (fs := _) g 5 (fun _ => rfl) (Nat.le_of_ble_eq_true rfl) (Nat.le_of_ble_eq_true rfl) (Nat.le_of_ble_eq_true rfl) rfl rfl rfl (vp_in_nI (n := 1) (Nat.le_of_ble_eq_true rfl) (Nat.le_of_ble_eq_true rfl)) dX10_init_225 ?_
  refine y_swN (by decide) ?_
  refine y_aload_n g 1 dX10_init_226 rfl rfl ?_
  refine y_get (v := .ref (rh (JG J) 53)) g fl_RX10_71 (Nat.le_of_ble_eq_true rfl) rfl rfl dX10_init_227 ?_
  refine y_iload_n g 0 dX10_init_230 rfl rfl ?_
  refine y_new (fs := [.int 0, .int 0, .int 0, .null, .null, .null, .null, .null]) g cls8 rfl (Nat.le_of_ble_eq_true rfl) hRc cl_RX10_57 ins_8 ini_8 bl_8 (Nat.le_of_ble_eq_true rfl) (Nat.le_of_ble_eq_true rfl) dX10_init_231 ?_
  refine y_swN (by decide) ?_
  refine y_dup g dX10_init_234 rfl ?_
  refine y_callI g mvI_8 rfl imI_8 lki_RX10_59 (kc_120 _ _ hlin rfl) rfl (Nat.le_of_ble_eq_true rfl) hR hRc ⟨(Nat.le_of_ble_eq_true rfl), (Nat.le_of_ble_eq_true rfl)⟩ (Nat.le_of_ble_eq_true rfl) (Nat.le_of_ble_eq_true rfl) (Nat.le_of_ble_eq_true rfl) dX10_init_235 ?_
  refine y_catN (Nat.le_of_ble_eq_true rfl) ?_
  refine y_aast (t := 53) (z := 120) (N := 3) (ci := 8) (r := (RX8, TX8, nfs 8)) (f := _) (fs := _) g 6 (fun _ => rfl) (Nat.le_of_ble_eq_true rfl) (Nat.le_of_ble_eq_true rfl) (Nat.le_of_ble_eq_true rfl) rfl rfl rfl (vp_in_nI (n := 1) (Nat.le_of_ble_eq_true rfl) (Nat.le_of_ble_eq_true rfl)) dX10_init_238 ?_
  refine y_swN (by decide) ?_
  refine y_iinc (L' := [(1, .int 2), (0, .ref (rh (JG J) 0))]) (v := 2) g 0 dX10_init_239 rfl (by decide) hn (Nat.le_of_ble_eq_true rfl) rfl ?_
  refine y_goto g 208 dX10_init_242 rfl ?_
  refine y_iload_n g 0 dX10_init_208 rfl rfl ?_
  refine y_iconst (v := 3) g dX10_init_209 (by decide) ?_
  refine y_ge_f g 245 dX10_init_210 rfl (by decide) ?_
  refine y_aload_n g 1 dX10_init_213 rfl rfl ?_
  refine y_get (v := .ref (rh (JG J) 52)) g fl_RX10_67 (Nat.le_of_ble_eq_true rfl) rfl rfl dX10_init_214 ?_
  refine y_iload_n g 0 dX10_init_217 rfl rfl ?_
  refine y_new (fs := [.int 0, .null, .null, .null, .int 0, .null, .null, .null, .null, .null, .null, .int 0, .null, .int 0, .null, .null, .null]) g cls2 rfl (Nat.le_of_ble_eq_true rfl) hRc cl_RX10_47 ins_2 ini_2 bl_2 (Nat.le_of_ble_eq_true rfl) (Nat.le_of_ble_eq_true rfl) dX10_init_218 ?_
  refine y_swN (by decide) ?_
  refine y_dup g dX10_init_221 rfl ?_
  refine y_callI g mvI_2 rfl imI_2 lki_RX10_49 (kc_126 _ _ hlin rfl) rfl (Nat.le_of_ble_eq_true rfl) hR hRc ⟨(Nat.le_of_ble_eq_true rfl), (Nat.le_of_ble_eq_true rfl)⟩ (Nat.le_of_ble_eq_true rfl) (Nat.le_of_ble_eq_true rfl) (Nat.le_of_ble_eq_true rfl) dX10_init_222 ?_
  refine y_catN (Nat.le_of_ble_eq_true rfl) ?_
  refine y_aast (t := 52) (z := 126) (N := 3) (ci := 2) (r := (RX2, TX2, nfs 2)) (f := _) (fs := _) g 5 (fun _ => rfl) (Nat.le_of_ble_eq_true rfl) (Nat.le_of_ble_eq_true rfl) (Nat.le_of_ble_eq_true rfl) rfl rfl rfl (vp_in_nI (n := 2) (Nat.le_of_ble_eq_true rfl) (Nat.le_of_ble_eq_true rfl)) dX10_init_225 ?_
  refine y_swN (by decide) ?_
  refine y_aload_n g 1 dX10_init_226 rfl rfl ?_
  refine y_get (v := .ref (rh (JG J) 53)) g fl_RX10_71 (Nat.le_of_ble_eq_true rfl) rfl rfl dX10_init_227 ?_
  refine y_iload_n g 0 dX10_init_230 rfl rfl ?_
  refine y_new (fs := [.int 0, .int 0, .int 0, .null, .null, .null, .null, .null]) g cls8 rfl (Nat.le_of_ble_eq_true rfl) hRc cl_RX10_57 ins_8 ini_8 bl_8 (Nat.le_of_ble_eq_true rfl) (Nat.le_of_ble_eq_true rfl) dX10_init_231 ?_
  refine y_swN (by decide) ?_
  refine y_dup g dX10_init_234 rfl ?_
  refine y_callI g mvI_8 rfl imI_8 lki_RX10_59 (kc_140 _ _ hlin rfl) rfl (Nat.le_of_ble_eq_true rfl) hR hRc ⟨(Nat.le_of_ble_eq_true rfl), (Nat.le_of_ble_eq_true rfl)⟩ (Nat.le_of_ble_eq_true rfl) (Nat.le_of_ble_eq_true rfl) (Nat.le_of_ble_eq_true rfl) dX10_init_235 ?_
  refine y_catN (Nat.le_of_ble_eq_true rfl) ?_
  refine y_aast (t := 53) (z := 140) (N := 3) (ci := 8) (r := (RX8, TX8, nfs 8)) (f := _) (fs := _) g 6 (fun _ => rfl) (Nat.le_of_ble_eq_true rfl) (Nat.le_of_ble_eq_true rfl) (Nat.le_of_ble_eq_true rfl) rfl rfl rfl (vp_in_nI (n := 2) (Nat.le_of_ble_eq_true rfl) (Nat.le_of_ble_eq_true rfl)) dX10_init_238 ?_
  refine y_swN (by decide) ?_
  refine y_iinc (L' := [(1, .int 3), (0, .ref (rh (JG J) 0))]) (v := 3) g 0 dX10_init_239 rfl (by decide) hn (Nat.le_of_ble_eq_true rfl) rfl ?_
  refine y_goto g 208 dX10_init_242 rfl ?_
  refine y_iload_n g 0 dX10_init_208 rfl rfl ?_
  refine y_iconst (v := 3) g dX10_init_209 (by decide) ?_
  refine y_ge_t g 245 dX10_init_210 rfl (by decide) ?_
  refine y_cv (C2 := cat (JG J) C 0 146) (fun g hg => by
      have hk : g < 146 := hg
      clear hg
      exact (match g, hk with | 0, _ => Or.inl rfl | 1, _ => Or.inr ⟨_, _, _, _, rfl, rfl, fun j hj => (match j, hj with | 0, _ => rfl | 1, _ => rfl | 2, _ => rfl | 3, _ => rfl | j + 4, hj => absurd hj (by omega))⟩ | 2, _ => Or.inl rfl | 3, _ => Or.inl rfl | 4, _ => Or.inl rfl | 5, _ => Or.inl rfl | 6, _ => Or.inl rfl | 7, _ => Or.inl rfl | 8, _ => Or.inl rfl | 9, _ => Or.inl rfl | 10, _ => Or.inl rfl | 11, _ => Or.inl rfl | 12, _ => Or.inl rfl | 13, _ => Or.inl rfl | 14, _ => Or.inl rfl | 15, _ => Or.inl rfl | 16, _ => Or.inl rfl | 17, _ => Or.inl rfl | 18, _ => Or.inl rfl | 19, _ => Or.inl rfl | 20, _ => Or.inl rfl | 21, _ => Or.inl rfl | 22, _ => Or.inl rfl | 23, _ => Or.inl rfl | 24, _ => Or.inl rfl | 25, _ => Or.inl rfl | 26, _ => Or.inl rfl | 27, _ => Or.inl rfl | 28, _ => Or.inl rfl | 29, _ => Or.inl rfl | 30, _ => Or.inl rfl | 31, _ => Or.inl rfl | 32, _ => Or.inl rfl | 33, _ => Or.inl rfl | 34, _ => Or.inl rfl | 35, _ => Or.inl rfl | 36, _ => Or.inl rfl | 37, _ => Or.inl rfl | 38, _ => Or.inl rfl | 39, _ => Or.inl rfl | 40, _ => Or.inl rfl | 41, _ => Or.inl rfl | 42, _ => Or.inl rfl | 43, _ => Or.inl rfl | 44, _ => Or.inl rfl | 45, _ => Or.inl rfl | 46, _ => Or.inl rfl | 47, _ => Or.inl rfl | 48, _ => Or.inl rfl | 49, _ => Or.inl rfl | 50, _ => Or.inl rfl | 51, _ => Or.inl rfl | 52, _ => Or.inr ⟨_, _, _, _, rfl, rfl, fun j hj => (match j, hj with | 0, _ => rfl | 1, _ => rfl | 2, _ => rfl | j + 3, hj => absurd hj (by omega))⟩ | 53, _ => Or.inr ⟨_, _, _, _, rfl, rfl, fun j hj => (match j, hj with | 0, _ => rfl | 1, _ => rfl | 2, _ => rfl | j + 3, hj => absurd hj (by omega))⟩ | 54, _ => Or.inl rfl | 55, _ => Or.inl rfl | 56, _ => Or.inl rfl | 57, _ => Or.inl rfl | 58, _ => Or.inl rfl | 59, _ => Or.inl rfl | 60, _ => Or.inl rfl | 61, _ => Or.inl rfl | 62, _ => Or.inl rfl | 63, _ => Or.inl rfl | 64, _ => Or.inl rfl | 65, _ => Or.inl rfl | 66, _ => Or.inl rfl | 67, _ => Or.inl rfl | 68, _ => Or.inl rfl | 69, _ => Or.inl rfl | 70, _ => Or.inl rfl | 71, _ => Or.inl rfl | 72, _ => Or.inl rfl | 73, _ => Or.inl rfl | 74, _ => Or.inl rfl | 75, _ => Or.inl rfl | 76, _ => Or.inl rfl | 77, _ => Or.inl rfl | 78, _ => Or.inl rfl | 79, _ => Or.inl rfl | 80, _ => Or.inl rfl | 81, _ => Or.inl rfl | 82, _ => Or.inl rfl | 83, _ => Or.inl rfl | 84, _ => Or.inl rfl | 85, _ => Or.inl rfl | 86, _ => Or.inl rfl | 87, _ => Or.inl rfl | 88, _ => Or.inl rfl | 89, _ => Or.inl rfl | 90, _ => Or.inl rfl | 91, _ => Or.inl rfl | 92, _ => Or.inl rfl | 93, _ => Or.inl rfl | 94, _ => Or.inl rfl | 95, _ => Or.inl rfl | 96, _ => Or.inl rfl | 97, _ => Or.inl rfl | 98, _ => Or.inl rfl | 99, _ => Or.inl rfl | 100, _ => Or.inl rfl | 101, _ => Or.inl rfl | 102, _ => Or.inl rfl | 103, _ => Or.inl rfl | 104, _ => Or.inl rfl | 105, _ => Or.inl rfl | 106, _ => Or.inl rfl | 107, _ => Or.inl rfl | 108, _ => Or.inl rfl | 109, _ => Or.inl rfl | 110, _ => Or.inl rfl | 111, _ => Or.inl rfl | 112, _ => Or.inl rfl | 113, _ => Or.inl rfl | 114, _ => Or.inl rfl | 115, _ => Or.inl rfl | 116, _ => Or.inl rfl | 117, _ => Or.inl rfl | 118, _ => Or.inl rfl | 119, _ => Or.inl rfl | 120, _ => Or.inl rfl | 121, _ => Or.inl rfl | 122, _ => Or.inl rfl | 123, _ => Or.inl rfl | 124, _ => Or.inl rfl | 125, _ => Or.inl rfl | 126, _ => Or.inl rfl | 127, _ => Or.inl rfl | 128, _ => Or.inl rfl | 129, _ => Or.inl rfl | 130, _ => Or.inl rfl | 131, _ => Or.inl rfl | 132, _ => Or.inl rfl | 133, _ => Or.inl rfl | 134, _ => Or.inl rfl | 135, _ => Or.inl rfl | 136, _ => Or.inl rfl | 137, _ => Or.inl rfl | 138, _ => Or.inl rfl | 139, _ => Or.inl rfl | 140, _ => Or.inl rfl | 141, _ => Or.inl rfl | 142, _ => Or.inl rfl | 143, _ => Or.inl rfl | 144, _ => Or.inl rfl | 145, _ => Or.inl rfl | k + 146, hk => absurd hk (by omega))) ?_
  exact y_vret g hr rfl (Nat.le_of_ble_eq_true rfl) dX10_init_245
