/-! Math, arraycopy -/
def cpk {β : Type} (sp dp n : Int32) (n0 n1 : Nat) (E : Option β) : Option β := if (¬ sp < 0 ∧ ¬ dp < 0) ∧ ¬ n < 0 ∧ sp.toNatClampNeg + n.toNatClampNeg ≤ n0 ∧ dp.toNatClampNeg + n.toNatClampNeg ≤ n1 then E else none
section XM
variable {γ : Type} {J : JT} {pj : γ → Option Value × Mem} {E : Option γ} {pc : Nat} {L : List (Nat × Value)} {S : List Value} {M : Mem} {cc : ByteArray} {own : String}
theorem x_mmin (g : Gd J cc own) {x y : Int32} {idx fr lo : Nat} (hR : (JR J).frames = fr ∧ (JR J).locals = lo) (hlk : Cond.methodLink own idx Lib.Math.min.name ∈ okT) (hst : Cond.static Lib.Math.min.name ∈ okT) (hini : Cond.initialized "java/lang/Math" ∈ okT) (hcd : Cond.code Lib.Math.min.name Lib.Math.min.code 2 (some .int) ∈ okT) (hfr : 1 ≤ fr) (hlo : (S.map fun v => v.category).sum + 13 ≤ lo) (hd : decode cc pc = .ok (.invokestatic idx, 3)) (k : X J pj E (pc + 3) L (.int (if y < x then y else x) :: S) M) : X J pj E pc L (.int y :: .int x :: S) M := by
  obtain ⟨rfl, rfl⟩ := hR
  obtain ⟨p, l, e, R, s, m, args, below, meth, c, G, Q, nL, cs⟩ := J
  obtain ⟨hx, hb, hml, hown, hts, hKF, hHF, hcs⟩ := id g
  intro a hE H locs ls hP hS hl
  exact va_mmin hx hb (by rw [hml]; exact hl.1.symm) hown (hts _ hlk) (hts _ hst) (hts _ hini) (hts _ hcd) hfr (by
    rw [List.map_map]
    refine Nat.le_trans (Nat.le_of_eq ?_) hlo
    congr 3
    funext v
    exact cv_cat G v) hcs.1 hcs.2 hd (k a hE H locs ls hP hS hl)
theorem x_mabs (g : Gd J cc own) {x : Int32} {idx fr lo : Nat} (hR : (JR J).frames = fr ∧ (JR J).locals = lo) (hlk : Cond.methodLink own idx Lib.Math.abs.name ∈ okT) (hst : Cond.static Lib.Math.abs.name ∈ okT) (hini : Cond.initialized "java/lang/Math" ∈ okT) (hcd : Cond.code Lib.Math.abs.name Lib.Math.abs.code 1 (some .int) ∈ okT) (hfr : 1 ≤ fr) (hlo : (S.map fun v => v.category).sum + 13 ≤ lo) (hd : decode cc pc = .ok (.invokestatic idx, 3)) (k : X J pj E (pc + 3) L (.int (if 0 ≤ x then x else 0 - x) :: S) M) : X J pj E pc L (.int x :: S) M := by
  obtain ⟨rfl, rfl⟩ := hR
  obtain ⟨p, l, e, R, s, m, args, below, meth, c, G, Q, nL, cs⟩ := J
  obtain ⟨hx, hb, hml, hown, hts, hKF, hHF, hcs⟩ := id g
  intro a hE H locs ls hP hS hl
  exact va_mabs hx hb (by rw [hml]; exact hl.1.symm) hown (hts _ hlk) (hts _ hst) (hts _ hini) (hts _ hcd) hfr (by
    rw [List.map_map]
    refine Nat.le_trans (Nat.le_of_eq ?_) hlo
    congr 3
    funext v
    exact cv_cat G v) hcs.1 hcs.2 hd (k a hE H locs ls hP hS hl)
theorem x_mabsl (g : Gd J cc own) {x : Int64} {idx fr lo : Nat} (hR : (JR J).frames = fr ∧ (JR J).locals = lo) (hlk : Cond.methodLink own idx Lib.MathLoose.abs_long.x ∈ okT) (hst : Cond.static Lib.MathLoose.abs_long.x ∈ okT) (hini : Cond.initialized "java/lang/Math" ∈ okT) (hcd : Cond.code Lib.MathLoose.abs_long.x Lib.MathLoose.abs_long.code 2 (some .long) ∈ okT) (hfr : 1 ≤ fr) (hlo : (S.map fun v => v.category).sum + 13 ≤ lo) (hd : decode cc pc = .ok (.invokestatic idx, 3)) (k : X J pj E (pc + 3) L (.long (if 0 < x then x else -x) :: S) M) : X J pj E pc L (.long x :: S) M := by
  obtain ⟨rfl, rfl⟩ := hR
  obtain ⟨p, l, e, R, s, m, args, below, meth, c, G, Q, nL, cs⟩ := J
  obtain ⟨hx, hb, hml, hown, hts, hKF, hHF, hcs⟩ := id g
  intro a hE H locs ls hP hS hl
  exact va_mabs_long hx hb (by rw [hml]; exact hl.1.symm) hown (hts _ hlk) (hts _ hst) (hts _ hini) (hts _ hcd) hfr (by
    rw [List.map_map]
    refine Nat.le_trans (Nat.le_of_eq ?_) hlo
    congr 3
    funext v
    exact cv_cat G v) hcs.1 hcs.2 hd (k a hE H locs ls hP hS hl)
theorem x_cpyI (g : Gd J cc own) {t0 t1 n0 n1 idx fr lo : Nat} {sp dp n : Int32} (hR : (JR J).frames = fr ∧ (JR J).locals = lo) (hlk : Cond.methodLink own idx arraycopyName ∈ okT) (hnt : Cond.native arraycopyName ∈ okT) (hst : Cond.static arraycopyName ∈ okT) (hini : Cond.initialized "java/lang/System" ∈ okT) (h0 : isA .int n0 t0) (h1 : isA .int n1 t1) (hfr : 1 ≤ fr) (hlo : (S.map fun v => v.category).sum + (nativeFrameWords "java/lang/System" "arraycopy" 5 + 11) ≤ lo) (hd : decode cc pc = .ok (.invokestatic idx, 3)) (k : X J pj E (pc + 3) L S (cpI M t0 t1 sp.toNatClampNeg dp.toNatClampNeg n.toNatClampNeg)) : X J pj (cpk sp dp n n0 n1 E) pc L (.int n :: .int dp :: .ref t1 :: .int sp :: .ref t0 :: S) M := by
  obtain ⟨rfl, rfl⟩ := hR
  refine x_if (fun hc => ?_) (fun _ => x_none)
  obtain ⟨p, l, e, R, s, m, args, below, meth, c, G, Q, nL, cs⟩ := J
  obtain ⟨hx, hb, hml, hown, hts, hKF, hHF, hcs⟩ := id g
  intro a hE H locs ls hP hS hl
  have he0 : (wl G NT M)[t0]? = some (rh G t0, .inl (cA G .int, n0, .inl (M.1 t0))) := by rw [wl_get (shp_lt h0), el_A h0]; rfl
  have he1 : (wl G NT M)[t1]? = some (rh G t1, .inl (cA G .int, n1, .inl (M.1 t1))) := by rw [wl_get (shp_lt h1), el_A h1]; rfl
  have hset : (wl G NT M).set t1 (rh G t1, .inl (cA G .int, n1, .inl (va_cpy (M.1 t0) (M.1 t1) sp.toNatClampNeg dp.toNatClampNeg n.toNatClampNeg))) = wl G NT (cpI M t0 t1 sp.toNatClampNeg dp.toNatClampNeg n.toNatClampNeg) := by
    refine wl_set ?_ cpI_off
    rw [el_A h1]
    show Sum.inl (cA G .int, n1, _) = Sum.inl (cA G .int, n1, _)
    congr 3
    show Sum.inl _ = Sum.inl _
    congr 1
    skip
    funext b
    show (if t1 = t1 ∧ _ ∧ _ then _ else _) = if _ ∧ _ then _ else _
    by_cases hbq : dp.toNatClampNeg ≤ b ∧ b < dp.toNatClampNeg + n.toNatClampNeg
    · rw [if_pos ⟨rfl, hbq⟩, if_pos hbq]
    · rw [if_neg (fun h => hbq h.2), if_neg hbq]
  exact va_copyi hx hb (by rw [hml]; exact hl.1.symm) hown (hts _ hlk) (hts _ hnt) (hts _ hst) (hts _ hini) hKF.2.1 hP (wl_D hKF.1) hS t0 t1 0 0 he0 he1 rfl rfl rfl hc.1.1 hc.1.2 hc.2.1 hc.2.2.1 hc.2.2.2 (fun _ _ => rfl) hfr (by
    rw [List.map_map]
    refine Nat.le_trans (Nat.le_of_eq ?_) hlo
    congr 3
    funext v
    exact cv_cat G v) hd (fun H1 locs1 hP1 _ hS1 => k a hE H1 locs1 ls (by rw [← hset]; exact hP1) hS1 hl)
theorem x_cpyL (g : Gd J cc own) {t0 t1 n0 n1 idx fr lo : Nat} {sp dp n : Int32} (hR : (JR J).frames = fr ∧ (JR J).locals = lo) (hlk : Cond.methodLink own idx arraycopyName ∈ okT) (hnt : Cond.native arraycopyName ∈ okT) (hst : Cond.static arraycopyName ∈ okT) (hini : Cond.initialized "java/lang/System" ∈ okT) (h0 : isA .long n0 t0) (h1 : isA .long n1 t1) (hfr : 1 ≤ fr) (hlo : (S.map fun v => v.category).sum + (nativeFrameWords "java/lang/System" "arraycopy" 5 + 11) ≤ lo) (hd : decode cc pc = .ok (.invokestatic idx, 3)) (k : X J pj E (pc + 3) L S (cpL M t0 t1 sp.toNatClampNeg dp.toNatClampNeg n.toNatClampNeg)) : X J pj (cpk sp dp n n0 n1 E) pc L (.int n :: .int dp :: .ref t1 :: .int sp :: .ref t0 :: S) M := by
  obtain ⟨rfl, rfl⟩ := hR
  refine x_if (fun hc => ?_) (fun _ => x_none)
  obtain ⟨p, l, e, R, s, m, args, below, meth, c, G, Q, nL, cs⟩ := J
  obtain ⟨hx, hb, hml, hown, hts, hKF, hHF, hcs⟩ := id g
  intro a hE H locs ls hP hS hl
  have he0 : (wl G NT M)[t0]? = some (rh G t0, .inl (cA G .long, n0, .inr (.inl (M.2.1 t0)))) := by rw [wl_get (shp_lt h0), el_A h0]; rfl
  have he1 : (wl G NT M)[t1]? = some (rh G t1, .inl (cA G .long, n1, .inr (.inl (M.2.1 t1)))) := by rw [wl_get (shp_lt h1), el_A h1]; rfl
  have hset : (wl G NT M).set t1 (rh G t1, .inl (cA G .long, n1, .inr (.inl (va_cpy (M.2.1 t0) (M.2.1 t1) sp.toNatClampNeg dp.toNatClampNeg n.toNatClampNeg)))) = wl G NT (cpL M t0 t1 sp.toNatClampNeg dp.toNatClampNeg n.toNatClampNeg) := by
    refine wl_set ?_ cpL_off
    rw [el_A h1]
    show Sum.inl (cA G .long, n1, _) = Sum.inl (cA G .long, n1, _)
    congr 3
    show Sum.inr (Sum.inl _) = Sum.inr (Sum.inl _)
    congr 1
    congr 1
    funext b
    show (if t1 = t1 ∧ _ ∧ _ then _ else _) = if _ ∧ _ then _ else _
    by_cases hbq : dp.toNatClampNeg ≤ b ∧ b < dp.toNatClampNeg + n.toNatClampNeg
    · rw [if_pos ⟨rfl, hbq⟩, if_pos hbq]
    · rw [if_neg (fun h => hbq h.2), if_neg hbq]
  exact va_copyl hx hb (by rw [hml]; exact hl.1.symm) hown (hts _ hlk) (hts _ hnt) (hts _ hst) (hts _ hini) hKF.2.1 hP (wl_D hKF.1) hS t0 t1 1 1 he0 he1 rfl rfl rfl hc.1.1 hc.1.2 hc.2.1 hc.2.2.1 hc.2.2.2 (fun _ _ => rfl) hfr (by
    rw [List.map_map]
    refine Nat.le_trans (Nat.le_of_eq ?_) hlo
    congr 3
    funext v
    exact cv_cat G v) hd (fun H1 locs1 hP1 _ hS1 => k a hE H1 locs1 ls (by rw [← hset]; exact hP1) hS1 hl)
end XM
theorem tab_ne {x k : Int32} {a : Int} (h : ¬ x = k) (hk : k.toInt = a) : ¬ x.toInt = a := lv_neT h hk
theorem nfw : nativeFrameWords "java/lang/System" "arraycopy" 5 ≤ 30 := by decide +kernel
