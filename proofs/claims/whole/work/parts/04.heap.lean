/-- an index that the machine would throw without -/
def ixk {β : Type} (i : Int32) (n : Nat) (E : Option β) : Option β := if 0 ≤ i.toInt ∧ i.toInt < (n : Int) then E else none
theorem ixk_in {β : Type} {i : Int32} {n : Nat} {E : Option β} (h : vp_in i n) : ixk i n E = E := if_pos (vp_in_iff.mp h)
theorem ixk_nI {β : Type} {k n : Nat} {E : Option β} (h : k < n) (hn : n < 2 ^ 31) : ixk (nI k) n E = E := ixk_in (vp_in_nI h hn)
/-! conversions, shifts, the stack, fields, arrays, calls, answers, in the words of X -/
section XH
variable {γ : Type} {J : JT} {pj : γ → Option Value × Mem} {E : Option γ} {pc : Nat} {L : List (Nat × Value)} {S : List Value} {M : Mem} {cc : ByteArray} {own : String}
theorem x_ishl (g : Gd J cc own) {x y : Int32} (hd : decode cc pc = .ok (.ishl, 1)) (k : X J pj E (pc + 1) L (.int (x <<< (y &&& 31)) :: S) M) : X J pj E pc L (.int y :: .int x :: S) M := by
  obtain ⟨p, l, e, R, s, m, args, below, meth, c, G, Q, nL, cs⟩ := J
  obtain ⟨hx, hb, hml, hown, hts, hKF, hHF, hcs⟩ := id g
  intro a hE H locs ls hP hS hl
  exact lv_ishl hx hb hd (k a hE H locs ls hP hS hl)
theorem x_ishr (g : Gd J cc own) {x y : Int32} (hd : decode cc pc = .ok (.ishr, 1)) (k : X J pj E (pc + 1) L (.int (x >>> (y &&& 31)) :: S) M) : X J pj E pc L (.int y :: .int x :: S) M := by
  obtain ⟨p, l, e, R, s, m, args, below, meth, c, G, Q, nL, cs⟩ := J
  obtain ⟨hx, hb, hml, hown, hts, hKF, hHF, hcs⟩ := id g
  intro a hE H locs ls hP hS hl
  exact lv_ishr hx hb hd (k a hE H locs ls hP hS hl)
theorem x_i2l (g : Gd J cc own) {x : Int32} (hd : decode cc pc = .ok (.i2l, 1)) (k : X J pj E (pc + 1) L (.long x.toInt64 :: S) M) : X J pj E pc L (.int x :: S) M := by
  obtain ⟨p, l, e, R, s, m, args, below, meth, c, G, Q, nL, cs⟩ := J
  obtain ⟨hx, hb, hml, hown, hts, hKF, hHF, hcs⟩ := id g
  intro a hE H locs ls hP hS hl
  exact lv_i2l hx hb hd rfl (k a hE H locs ls hP hS hl)
theorem x_l2i (g : Gd J cc own) {x : Int64} (hd : decode cc pc = .ok (.l2i, 1)) (k : X J pj E (pc + 1) L (.int x.toInt32 :: S) M) : X J pj E pc L (.long x :: S) M := by
  obtain ⟨p, l, e, R, s, m, args, below, meth, c, G, Q, nL, cs⟩ := J
  obtain ⟨hx, hb, hml, hown, hts, hKF, hHF, hcs⟩ := id g
  intro a hE H locs ls hP hS hl
  exact lv_l2i hx hb hd rfl (k a hE H locs ls hP hS hl)
theorem x_i2b (g : Gd J cc own) {x : Int32} (hd : decode cc pc = .ok (.i2b, 1)) (k : X J pj E (pc + 1) L (.int x.toInt8.toInt32 :: S) M) : X J pj E pc L (.int x :: S) M := by
  obtain ⟨p, l, e, R, s, m, args, below, meth, c, G, Q, nL, cs⟩ := J
  obtain ⟨hx, hb, hml, hown, hts, hKF, hHF, hcs⟩ := id g
  intro a hE H locs ls hP hS hl
  exact lv_i2b hx hb hd rfl (k a hE H locs ls hP hS hl)
theorem x_i2s (g : Gd J cc own) {x : Int32} (hd : decode cc pc = .ok (.i2s, 1)) (k : X J pj E (pc + 1) L (.int x.toInt16.toInt32 :: S) M) : X J pj E pc L (.int x :: S) M := by
  obtain ⟨p, l, e, R, s, m, args, below, meth, c, G, Q, nL, cs⟩ := J
  obtain ⟨hx, hb, hml, hown, hts, hKF, hHF, hcs⟩ := id g
  intro a hE H locs ls hP hS hl
  exact lv_i2s hx hb hd rfl (k a hE H locs ls hP hS hl)
theorem x_iushr (g : Gd J cc own) {x y : Int32} (hd : decode cc pc = .ok (.iushr, 1)) (k : X J pj E (pc + 1) L (.int (x.toUInt32 >>> (y.toUInt32 &&& Int32.toUInt32 31)).toInt32 :: S) M) : X J pj E pc L (.int y :: .int x :: S) M := by
  obtain ⟨p, l, e, R, s, m, args, below, meth, c, G, Q, nL, cs⟩ := J
  obtain ⟨hx, hb, hml, hown, hts, hKF, hHF, hcs⟩ := id g
  intro a hE H locs ls hP hS hl
  exact lv_iushr hx hb hd rfl (k a hE H locs ls hP hS hl)
theorem x_lshl (g : Gd J cc own) {x : Int64} {y : Int32} (hd : decode cc pc = .ok (.lshl, 1)) (k : X J pj E (pc + 1) L (.long (x <<< (y.toInt64 &&& 63)) :: S) M) : X J pj E pc L (.int y :: .long x :: S) M := by
  obtain ⟨p, l, e, R, s, m, args, below, meth, c, G, Q, nL, cs⟩ := J
  obtain ⟨hx, hb, hml, hown, hts, hKF, hHF, hcs⟩ := id g
  intro a hE H locs ls hP hS hl
  exact lv_lshl hx hb hd rfl (k a hE H locs ls hP hS hl)
theorem x_lcmp (g : Gd J cc own) {x y : Int64} (hd : decode cc pc = .ok (.lcmp, 1)) (k : X J pj E (pc + 1) L (.int (lg_cmp x y) :: S) M) : X J pj E pc L (.long y :: .long x :: S) M := by
  obtain ⟨p, l, e, R, s, m, args, below, meth, c, G, Q, nL, cs⟩ := J
  obtain ⟨hx, hb, hml, hown, hts, hKF, hHF, hcs⟩ := id g
  intro a hE H locs ls hP hS hl
  exact W.lcmp hx hb hd (k a hE H locs ls hP hS hl)
theorem x_dup (g : Gd J cc own) {v : Value} (hd : decode cc pc = .ok (.dup, 1)) (hv : v.category = 1) (k : X J pj E (pc + 1) L (v :: v :: S) M) : X J pj E pc L (v :: S) M := by
  obtain ⟨p, l, e, R, s, m, args, below, meth, c, G, Q, nL, cs⟩ := J
  obtain ⟨hx, hb, hml, hown, hts, hKF, hHF, hcs⟩ := id g
  intro a hE H locs ls hP hS hl
  exact lv_dup hx hb hd (by rw [cv_cat]; exact hv) (k a hE H locs ls hP hS hl)
theorem x_pop (g : Gd J cc own) {v : Value} (hd : decode cc pc = .ok (.pop, 1)) (hv : v.category = 1) (k : X J pj E (pc + 1) L S M) : X J pj E pc L (v :: S) M := by
  obtain ⟨p, l, e, R, s, m, args, below, meth, c, G, Q, nL, cs⟩ := J
  obtain ⟨hx, hb, hml, hown, hts, hKF, hHF, hcs⟩ := id g
  intro a hE H locs ls hP hS hl
  exact lv_pop hx hb hd (by rw [cv_cat]; exact hv) (k a hE H locs ls hP hS hl)
theorem x_dup2 (g : Gd J cc own) {v w : Value} (hd : decode cc pc = .ok (.dup2, 1)) (hv : v.category = 1) (hw : w.category = 1) (k : X J pj E (pc + 1) L (v :: w :: v :: w :: S) M) : X J pj E pc L (v :: w :: S) M := by
  obtain ⟨p, l, e, R, s, m, args, below, meth, c, G, Q, nL, cs⟩ := J
  obtain ⟨hx, hb, hml, hown, hts, hKF, hHF, hcs⟩ := id g
  intro a hE H locs ls hP hS hl
  exact lv_dup2_11 hx hb hd (by rw [cv_cat]; exact hv) (by rw [cv_cat]; exact hw) (k a hE H locs ls hP hS hl)
theorem x_l_eq (g : Gd J cc own) {x y : Int64} {off : Int} {A B : Option γ} (tgt : Nat) (hd0 : decode cc pc = .ok (.lcmp, 1)) (hd : decode cc (pc + 1) = .ok (.ifCond .eq off, 3)) (ht : ((pc + 1 : Nat) : Int) + off = (tgt : Int)) (kt : x = y → X J pj A tgt L S M) (kf : ¬ x = y → X J pj B (pc + 4) L S M) : X J pj (if x = y then A else B) pc L (.long y :: .long x :: S) M := by
  have e := lg_cmp_eq x y
  refine x_lcmp g hd0 ?_
  have h := x_if_eq (A := A) (B := B) g tgt hd ht (fun h => kt (e.mp h)) (fun h => kf (fun q => h (e.mpr q)))
  by_cases hc : x = y
  · rw [if_pos (e.mpr hc)] at h
    rw [if_pos hc]
    exact h
  · rw [if_neg (fun q => hc (e.mp q))] at h
    rw [if_neg hc]
    exact h
theorem x_l_lt (g : Gd J cc own) {x y : Int64} {off : Int} {A B : Option γ} (tgt : Nat) (hd0 : decode cc pc = .ok (.lcmp, 1)) (hd : decode cc (pc + 1) = .ok (.ifCond .lt off, 3)) (ht : ((pc + 1 : Nat) : Int) + off = (tgt : Int)) (kt : x < y → X J pj A tgt L S M) (kf : ¬ x < y → X J pj B (pc + 4) L S M) : X J pj (if x < y then A else B) pc L (.long y :: .long x :: S) M := by
  have e := lg_cmp_lt x y
  refine x_lcmp g hd0 ?_
  have h := x_if_lt (A := A) (B := B) g tgt hd ht (fun h => kt (e.mp h)) (fun h => kf (fun q => h (e.mpr q)))
  by_cases hc : x < y
  · rw [if_pos (e.mpr hc)] at h
    rw [if_pos hc]
    exact h
  · rw [if_neg (fun q => hc (e.mp q))] at h
    rw [if_neg hc]
    exact h
theorem x_l_ge (g : Gd J cc own) {x y : Int64} {off : Int} {A B : Option γ} (tgt : Nat) (hd0 : decode cc pc = .ok (.lcmp, 1)) (hd : decode cc (pc + 1) = .ok (.ifCond .ge off, 3)) (ht : ((pc + 1 : Nat) : Int) + off = (tgt : Int)) (kt : y ≤ x → X J pj A tgt L S M) (kf : ¬ y ≤ x → X J pj B (pc + 4) L S M) : X J pj (if y ≤ x then A else B) pc L (.long y :: .long x :: S) M := by
  have e := lg_cmp_ge x y
  refine x_lcmp g hd0 ?_
  have h := x_if_ge (A := A) (B := B) g tgt hd ht (fun h => kt (e.mp h)) (fun h => kf (fun q => h (e.mpr q)))
  by_cases hc : y ≤ x
  · rw [if_pos (e.mpr hc)] at h
    rw [if_pos hc]
    exact h
  · rw [if_neg (fun q => hc (e.mp q))] at h
    rw [if_neg hc]
    exact h
theorem x_l_gt (g : Gd J cc own) {x y : Int64} {off : Int} {A B : Option γ} (tgt : Nat) (hd0 : decode cc pc = .ok (.lcmp, 1)) (hd : decode cc (pc + 1) = .ok (.ifCond .gt off, 3)) (ht : ((pc + 1 : Nat) : Int) + off = (tgt : Int)) (kt : y < x → X J pj A tgt L S M) (kf : ¬ y < x → X J pj B (pc + 4) L S M) : X J pj (if y < x then A else B) pc L (.long y :: .long x :: S) M := by
  have e := lg_cmp_gt x y
  refine x_lcmp g hd0 ?_
  have h := x_if_gt (A := A) (B := B) g tgt hd ht (fun h => kt (e.mp h)) (fun h => kf (fun q => h (e.mpr q)))
  by_cases hc : y < x
  · rw [if_pos (e.mpr hc)] at h
    rw [if_pos hc]
    exact h
  · rw [if_neg (fun q => hc (e.mp q))] at h
    rw [if_neg hc]
    exact h
theorem x_l_le (g : Gd J cc own) {x y : Int64} {off : Int} {A B : Option γ} (tgt : Nat) (hd0 : decode cc pc = .ok (.lcmp, 1)) (hd : decode cc (pc + 1) = .ok (.ifCond .le off, 3)) (ht : ((pc + 1 : Nat) : Int) + off = (tgt : Int)) (kt : x ≤ y → X J pj A tgt L S M) (kf : ¬ x ≤ y → X J pj B (pc + 4) L S M) : X J pj (if x ≤ y then A else B) pc L (.long y :: .long x :: S) M := by
  have e := lg_cmp_le x y
  refine x_lcmp g hd0 ?_
  have h := x_if_le (A := A) (B := B) g tgt hd ht (fun h => kt (e.mp h)) (fun h => kf (fun q => h (e.mpr q)))
  by_cases hc : x ≤ y
  · rw [if_pos (e.mpr hc)] at h
    rw [if_pos hc]
    exact h
  · rw [if_neg (fun q => hc (e.mp q))] at h
    rw [if_neg hc]
    exact h
theorem x_l_ne (g : Gd J cc own) {x y : Int64} {off : Int} {A B : Option γ} (tgt : Nat) (hd0 : decode cc pc = .ok (.lcmp, 1)) (hd : decode cc (pc + 1) = .ok (.ifCond .ne off, 3)) (ht : ((pc + 1 : Nat) : Int) + off = (tgt : Int)) (kt : ¬ x = y → X J pj A tgt L S M) (kf : x = y → X J pj B (pc + 4) L S M) : X J pj (if x = y then B else A) pc L (.long y :: .long x :: S) M := by
  have e := lg_cmp_eq x y
  refine x_lcmp g hd0 ?_
  have h := x_if_ne (A := A) (B := B) g tgt hd ht (fun h => kt (fun q => h (e.mpr q))) (fun h => kf (e.mp h))
  by_cases hc : x = y
  · rw [if_pos (e.mpr hc)] at h
    rw [if_pos hc]
    exact h
  · rw [if_neg (fun q => hc (e.mp q))] at h
    rw [if_neg hc]
    exact h
theorem X.ck_pre {n : Nat} {i : Int32} (ht : vp_in i n → X J pj E pc L S M) : X J pj (ixk i n E) pc L S M := x_if (fun h => ht (vp_in_iff.mpr h)) (fun _ => x_none)
/-! switches -/
theorem x_tabIn (g : Gd J cc own) {dflt lo hi : Int} {offs : Array Int} {len : Nat} {x : Int32} {off : Int} (kn : Int32) (tgt : Nat) (hd : decode cc pc = .ok (.tableswitch dflt lo hi offs, len)) (hk : x = kn) (h1 : (decide (kn.toInt < lo) || decide (hi < kn.toInt)) = false) (ho : offs[(kn.toInt - lo).toNat]? = some off) (ht : (pc : Int) + off = (tgt : Int)) (k : X J pj E tgt L S M) : X J pj E pc L (.int x :: S) M := by
  subst hk
  obtain ⟨p, l, e, R, s, m, args, below, meth, c, G, Q, nL, cs⟩ := J
  obtain ⟨hx, hb, hml, hown, hts, hKF, hHF, hcs⟩ := id g
  intro a hE H locs ls hP hS hl
  simp only [Bool.or_eq_false_iff, decide_eq_false_iff_not] at h1
  exact lv_tableIn hx hb hd h1.1 h1.2 ho ht (k a hE H locs ls hP hS hl)
theorem x_tabOut (g : Gd J cc own) {dflt lo hi : Int} {offs : Array Int} {len : Nat} {x : Int32} (tgt : Nat) (hd : decode cc pc = .ok (.tableswitch dflt lo hi offs, len)) (h : x.toInt < lo ∨ hi < x.toInt) (ht : (pc : Int) + dflt = (tgt : Int)) (k : X J pj E tgt L S M) : X J pj E pc L (.int x :: S) M := by
  obtain ⟨p, l, e, R, s, m, args, below, meth, c, G, Q, nL, cs⟩ := J
  obtain ⟨hx, hb, hml, hown, hts, hKF, hHF, hcs⟩ := id g
  intro a hE H locs ls hP hS hl
  exact lv_tableOut hx hb hd h ht (k a hE H locs ls hP hS hl)
theorem x_look (g : Gd J cc own) {dflt : Int} {ps : Array (Int × Int)} {len : Nat} {x : Int32} {off : Int} (tgt : Nat) (hd : decode cc pc = .ok (.lookupswitch dflt ps, len)) (hp : (ps.toList.zip (ps.toList.drop 1)).all (fun (a, next) => a.1 < next.1) = true) (ho : Op.lookupswitch.offset ps.toList dflt x.toInt = off) (ht : (pc : Int) + off = (tgt : Int)) (k : X J pj E tgt L S M) : X J pj E pc L (.int x :: S) M := by
  obtain ⟨p, l, e, R, s, m, args, below, meth, c, G, Q, nL, cs⟩ := J
  obtain ⟨hx, hb, hml, hown, hts, hKF, hHF, hcs⟩ := id g
  intro a hE H locs ls hP hS hl
  exact lv_lookup hx hb hd hp ho ht (k a hE H locs ls hP hS hl)
/-! fields -/
def CLS (ci : Nat) (C : String) (T : u_T) (tf : Nat → FieldType) : Prop := vwCl[ci]? = some (C, T, nfs ci) ∧ (∀ w ∈ u_ws C T (nfs ci), w ∈ okT) ∧ (∀ k, k < nfs ci → parseFieldDescriptor (T k).2.2.1 = some (tf k)) ∧ (∀ a, a < nfs ci → ∀ b, b < nfs ci → a ≠ b → (T a).2.1 ≠ (T b).2.1)
def FL (own : String) (idx ci k : Nat) : Prop := ∃ C T tf, CLS ci C T tf ∧ k < nfs ci ∧ (Cond.fieldLink own idx (T k).1 (T k).2.1 (T k).2.2.1 ∈ okT ∨ ∃ host, Cond.fieldLinkNest own idx (T k).1 (T k).2.1 (T k).2.2.1 host ∈ nestW)
def FP (own : String) (idx ci k : Nat) (ty : FieldType) : Prop := ∃ C T tf, CLS ci C T tf ∧ k < nfs ci ∧ (T k).2.2.2 = false ∧ tf k = ty ∧ (Cond.fieldLink own idx (T k).1 (T k).2.1 (T k).2.2.1 ∈ okT ∨ ∃ host, Cond.fieldLinkNest own idx (T k).1 (T k).2.1 (T k).2.2.1 host ∈ nestW)
theorem x_getV (g : Gd J cc own) {idx ci kf t : Nat} {v : Value} (f : FL own idx ci kf) (ho : isO ci t) (hd : decode cc pc = .ok (.getfield idx, 3)) (hv : ∀ G', fv G' M t kf (fkd ci kf) = cv G' v) (k : X J pj E (pc + 3) L (v :: S) M) : X J pj E pc L (.ref t :: S) M := by
  obtain ⟨p, l, e, R, s, m, args, below, meth, c, G, Q, nL, cs⟩ := J
  obtain ⟨hx, hb, hml, hown, hts, hKF, hHF, hcs⟩ := id g
  intro a hE H locs ls hP hS hl
  obtain ⟨C, T, tf, ⟨hc, hw, hp, hn⟩, hk, hlk⟩ := f
  have hlt := shp_lt ho
  have he : (wl G NT M)[t]? = some (rh G t, .inr (ci, fvs G M t ci)) := by rw [wl_get hlt, el_O ho]
  have hvv : (fvs G M t ci)[kf]? = some (cv G v) := by rw [fvs_get hk, hv G]
  rcases hlk with hlk | ⟨host, hlk⟩
  · exact va_get hx hb (Ts := okT) hts hw hown hKF.2.1 hP t he hc kf hk (hts _ hlk) (fun _ h => h) hvv hd (k a hE H locs ls hP hS hl)
  · exact va_getN hx hb (Ts := okT) hts hw hown hKF.2.1 hP t he hc kf hk (va_Nw.use rfl (hKF.2.2.1 _ hlk)) (fun _ h => h) hvv hd (k a hE H locs ls hP hS hl)
theorem x_getI (g : Gd J cc own) {idx ci kf t : Nat} (f : FL own idx ci kf) (h0 : fkd ci kf = 0) (ho : isO ci t) (hd : decode cc pc = .ok (.getfield idx, 3)) (k : X J pj E (pc + 3) L (.int (M.1 t kf) :: S) M) : X J pj E pc L (.ref t :: S) M := x_getV g f ho hd (fun _ => by rw [h0]; rfl) k
theorem x_getL (g : Gd J cc own) {idx ci kf t : Nat} (f : FL own idx ci kf) (h0 : fkd ci kf = 1) (ho : isO ci t) (hd : decode cc pc = .ok (.getfield idx, 3)) (k : X J pj E (pc + 3) L (.long (M.2.1 t kf) :: S) M) : X J pj E pc L (.ref t :: S) M := x_getV g f ho hd (fun _ => by rw [h0]; rfl) k
theorem x_getS (g : Gd J cc own) {idx ci kf t : Nat} (o : Nat) (f : FL own idx ci kf) (h0 : fkd ci kf = o + 3) (ho : isO ci t) (hd : decode cc pc = .ok (.getfield idx, 3)) (k : X J pj E (pc + 3) L (.ref (t + o) :: S) M) : X J pj E pc L (.ref t :: S) M := x_getV g f ho hd (fun _ => by rw [h0]; rfl) k
/-- a reference that changes: of the class that it must be of -/
def ldr (ci : Nat) (o : Option Nat) : Option Nat := o.bind fun q => if shp q = some (.inl ci) then some q else none
theorem ldr_some {ci q : Nat} (h : isO ci q) : ldr ci (some q) = some q := if_pos (show shp q = some (.inl ci) from h)
theorem x_getD (g : Gd J cc own) {idx ci kf t c2 : Nat} {K : Nat → Option γ} (f : FL own idx ci kf) (h0 : fkd ci kf = 2) (ho : isO ci t) (hd : decode cc pc = .ok (.getfield idx, 3)) (k : ∀ q, isO c2 q → X J pj (K q) (pc + 3) L (.ref q :: S) M) : X J pj ((ldr c2 (M.2.2 t kf)).bind K) pc L (.ref t :: S) M := by
  cases hq : M.2.2 t kf with
  | none => exact x_none
  | some q =>
    by_cases hc : isO c2 q
    · rw [ldr_some hc]
      exact x_getV (v := .ref q) g f ho hd (fun _ => by rw [h0]; show va_rf (Option.map _ _) = _; rw [hq]; rfl) (k q hc)
    · rw [show ldr c2 (some q) = none from if_neg hc]
      exact x_none
theorem x_putV (g : Gd J cc own) {idx ci kf t : Nat} {v : Value} {M2 : Mem} {ty : FieldType} (f : FP own idx ci kf ty) (ho : isO ci t) (hd : decode cc pc = .ok (.putfield idx, 3)) (hn : ∀ G', narrow ty (cv G' v) = cv G' v) (hfit : ∀ G', fits ty (cv G' v) = true) (hv : ∀ G', fvs G' M2 t ci = (fvs G' M t ci).set kf (cv G' v)) (hoff : ∀ G' j, j ≠ t → el G' M2 j = el G' M j) (k : X J pj E (pc + 3) L S M2) : X J pj E pc L (v :: .ref t :: S) M := by
  obtain ⟨p, l, e, R, s, m, args, below, meth, c, G, Q, nL, cs⟩ := J
  obtain ⟨hx, hb, hml, hown, hts, hKF, hHF, hcs⟩ := id g
  intro a hE H locs ls hP hS hl
  obtain ⟨C, T, tf, ⟨hc, hw, hp, hnm⟩, hk, hfin, hty, hlk⟩ := f
  have hlt := shp_lt ho
  have he : (wl G NT M)[t]? = some (rh G t, .inr (ci, fvs G M t ci)) := by rw [wl_get hlt, el_O ho]
  have hset : (wl G NT M).set t (rh G t, .inr (ci, (fvs G M t ci).set kf (cv G v))) = wl G NT M2 := wl_set (by rw [el_O ho, hv G]) (hoff G)
  have hD := wl_D (M := M) hKF.1
  have hpk : parseFieldDescriptor (T kf).2.2.1 = some ty := by rw [hp kf hk, hty]
  rcases hlk with hlk | ⟨host, hlk⟩
  · exact va_put hx hb (Ts := okT) hts hw tf hp hnm hown hKF.2.1 hP hD hS t he hc kf hk (hts _ hlk) (fun _ h => h) hfin hpk (hn G) (hfit G) (by rw [fvs_len]; exact hk) hd (fun H1 locs1 hP1 _ hS1 => k a hE H1 locs1 ls (by rw [← hset]; exact hP1) hS1 hl)
  · exact va_putN hx hb (Ts := okT) hts hw tf hp hnm hown hKF.2.1 hP hD hS t he hc kf hk (va_Nw.use rfl (hKF.2.2.1 _ hlk)) (fun _ h => h) hfin hpk (hn G) (hfit G) (by rw [fvs_len]; exact hk) hd (fun H1 locs1 hP1 _ hS1 => k a hE H1 locs1 ls (by rw [← hset]; exact hP1) hS1 hl)
theorem x_putI (g : Gd J cc own) {idx ci kf t : Nat} {v : Int32} (f : FP own idx ci kf .int) (h0 : fkd ci kf = 0) (hk : kf < nfs ci) (ho : isO ci t) (hd : decode cc pc = .ok (.putfield idx, 3)) (k : X J pj E (pc + 3) L S (stI M t kf v)) : X J pj E pc L (.int v :: .ref t :: S) M := x_putV g f ho hd (fun _ => rfl) (fun _ => rfl) (fun _ => fvs_stI hk h0) (fun _ => stI_off) k
theorem x_putZ (g : Gd J cc own) {idx ci kf t : Nat} {v : Int32} (f : FP own idx ci kf .boolean) (h0 : fkd ci kf = 0) (hk : kf < nfs ci) (ho : isO ci t) (hv : v = 0 ∨ v = 1) (hd : decode cc pc = .ok (.putfield idx, 3)) (k : X J pj E (pc + 3) L S (stI M t kf v)) : X J pj E pc L (.int v :: .ref t :: S) M := x_putV g f ho hd (fun _ => by rcases hv with rfl | rfl <;> rfl) (fun _ => by rcases hv with rfl | rfl <;> rfl) (fun _ => fvs_stI hk h0) (fun _ => stI_off) k
theorem x_putL (g : Gd J cc own) {idx ci kf t : Nat} {v : Int64} (f : FP own idx ci kf .long) (h0 : fkd ci kf = 1) (hk : kf < nfs ci) (ho : isO ci t) (hd : decode cc pc = .ok (.putfield idx, 3)) (k : X J pj E (pc + 3) L S (stL M t kf v)) : X J pj E pc L (.long v :: .ref t :: S) M := x_putV g f ho hd (fun _ => rfl) (fun _ => rfl) (fun _ => fvs_stL hk h0) (fun _ => stL_off) k
theorem x_putR (g : Gd J cc own) {idx ci kf t v : Nat} {C : String} (f : FP own idx ci kf (.object C)) (h0 : fkd ci kf = 2) (hk : kf < nfs ci) (ho : isO ci t) (hd : decode cc pc = .ok (.putfield idx, 3)) (k : X J pj E (pc + 3) L S (stR M t kf v)) : X J pj E pc L (.ref v :: .ref t :: S) M := x_putV g f ho hd (fun _ => rfl) (fun _ => rfl) (fun _ => fvs_stR hk h0) (fun _ => stR_off) k
/-! rows of numbers -/

theorem x_iald (g : Gd J cc own) {t n : Nat} {i : Int32} (ha : isA .int n t) (hd : decode cc pc = .ok (.iaload, 1)) (k : X J pj E (pc + 1) L (.int (M.1 t i.toNatClampNeg) :: S) M) : X J pj (ixk i n E) pc L (.int i :: .ref t :: S) M := by
  refine X.ck_pre fun hin => ?_
  obtain ⟨p, l, e, R, s, m, args, below, meth, c, G, Q, nL, cs⟩ := J
  obtain ⟨hx, hb, hml, hown, hts, hKF, hHF, hcs⟩ := id g
  intro a hE H locs ls hP hS hl
  have he : (wl G NT M)[t]? = some (rh G t, .inl (cA G .int, n, .inl (M.1 t))) := by rw [wl_get (shp_lt ha), el_A ha]; rfl
  exact va_iald hx hb hKF.2.1 hP t 0 he rfl hin hd (k a hE H locs ls hP hS hl)
theorem x_bald (g : Gd J cc own) {t n : Nat} {i : Int32} (ha : isA .byte n t) (hd : decode cc pc = .ok (.baload, 1)) (k : X J pj E (pc + 1) L (.int (M.1 t i.toNatClampNeg) :: S) M) : X J pj (ixk i n E) pc L (.int i :: .ref t :: S) M := by
  refine X.ck_pre fun hin => ?_
  obtain ⟨p, l, e, R, s, m, args, below, meth, c, G, Q, nL, cs⟩ := J
  obtain ⟨hx, hb, hml, hown, hts, hKF, hHF, hcs⟩ := id g
  intro a hE H locs ls hP hS hl
  have he : (wl G NT M)[t]? = some (rh G t, .inl (cA G .byte, n, .inl (M.1 t))) := by rw [wl_get (shp_lt ha), el_A ha]; rfl
  exact va_bald hx hb hKF.2.1 hP t 2 he rfl hin hd (k a hE H locs ls hP hS hl)
theorem x_zald (g : Gd J cc own) {t n : Nat} {i : Int32} (ha : isA .boolean n t) (hd : decode cc pc = .ok (.baload, 1)) (k : X J pj E (pc + 1) L (.int (M.1 t i.toNatClampNeg) :: S) M) : X J pj (ixk i n E) pc L (.int i :: .ref t :: S) M := by
  refine X.ck_pre fun hin => ?_
  obtain ⟨p, l, e, R, s, m, args, below, meth, c, G, Q, nL, cs⟩ := J
  obtain ⟨hx, hb, hml, hown, hts, hKF, hHF, hcs⟩ := id g
  intro a hE H locs ls hP hS hl
  have he : (wl G NT M)[t]? = some (rh G t, .inl (cA G .boolean, n, .inl (M.1 t))) := by rw [wl_get (shp_lt ha), el_A ha]; rfl
  exact va_zald hx hb hKF.2.1 hP t 3 he rfl hin hd (k a hE H locs ls hP hS hl)
theorem x_lald (g : Gd J cc own) {t n : Nat} {i : Int32} (ha : isA .long n t) (hd : decode cc pc = .ok (.laload, 1)) (k : X J pj E (pc + 1) L (.long (M.2.1 t i.toNatClampNeg) :: S) M) : X J pj (ixk i n E) pc L (.int i :: .ref t :: S) M := by
  refine X.ck_pre fun hin => ?_
  obtain ⟨p, l, e, R, s, m, args, below, meth, c, G, Q, nL, cs⟩ := J
  obtain ⟨hx, hb, hml, hown, hts, hKF, hHF, hcs⟩ := id g
  intro a hE H locs ls hP hS hl
  have he : (wl G NT M)[t]? = some (rh G t, .inl (cA G .long, n, .inr (.inl (M.2.1 t)))) := by rw [wl_get (shp_lt ha), el_A ha]; rfl
  exact va_lald hx hb hKF.2.1 hP t 1 he rfl hin hd (k a hE H locs ls hP hS hl)
theorem x_iast (g : Gd J cc own) {t n : Nat} {i : Int32} {x : Int32} (ha : isA .int n t) (hd : decode cc pc = .ok (.iastore, 1)) (k : X J pj E (pc + 1) L S (stI M t i.toNatClampNeg x)) : X J pj (ixk i n E) pc L (.int x :: .int i :: .ref t :: S) M := by
  refine X.ck_pre fun hin => ?_
  obtain ⟨p, l, e, R, s, m, args, below, meth, c, G, Q, nL, cs⟩ := J
  obtain ⟨hx, hb, hml, hown, hts, hKF, hHF, hcs⟩ := id g
  intro a hE H locs ls hP hS hl
  have he : (wl G NT M)[t]? = some (rh G t, .inl (cA G .int, n, .inl (M.1 t))) := by rw [wl_get (shp_lt ha), el_A ha]; rfl
  have hset : (wl G NT M).set t (rh G t, .inl (cA G .int, n, .inl (upd (M.1 t) i.toNatClampNeg x))) = wl G NT (stI M t i.toNatClampNeg x) := by
    refine wl_set ?_ stI_off
    rw [el_A ha]
    show Sum.inl (cA G .int, n, _) = Sum.inl (cA G .int, n, _)
    congr 3
    show Sum.inl _ = Sum.inl _
    congr 1
    skip
    funext b
    show (if t = t ∧ b = i.toNatClampNeg then _ else _) = if b = i.toNatClampNeg then _ else _
    by_cases hbq : b = i.toNatClampNeg
    · rw [if_pos ⟨rfl, hbq⟩, if_pos hbq]
    · rw [if_neg (fun h => hbq h.2), if_neg hbq]
  exact va_iast hx hb hKF.2.1 hP (wl_D hKF.1) hS t 0 he rfl hin hd (fun H1 locs1 hP1 _ hS1 => k a hE H1 locs1 ls (by rw [← hset]; exact hP1) hS1 hl)
theorem x_bast (g : Gd J cc own) {t n : Nat} {i : Int32} {x : Int32} (ha : isA .byte n t) (hd : decode cc pc = .ok (.bastore, 1)) (k : X J pj E (pc + 1) L S (stI M t i.toNatClampNeg (vp_nar .byte x))) : X J pj (ixk i n E) pc L (.int x :: .int i :: .ref t :: S) M := by
  refine X.ck_pre fun hin => ?_
  obtain ⟨p, l, e, R, s, m, args, below, meth, c, G, Q, nL, cs⟩ := J
  obtain ⟨hx, hb, hml, hown, hts, hKF, hHF, hcs⟩ := id g
  intro a hE H locs ls hP hS hl
  have he : (wl G NT M)[t]? = some (rh G t, .inl (cA G .byte, n, .inl (M.1 t))) := by rw [wl_get (shp_lt ha), el_A ha]; rfl
  have hset : (wl G NT M).set t (rh G t, .inl (cA G .byte, n, .inl (upd (M.1 t) i.toNatClampNeg (vp_nar .byte x)))) = wl G NT (stI M t i.toNatClampNeg (vp_nar .byte x)) := by
    refine wl_set ?_ stI_off
    rw [el_A ha]
    show Sum.inl (cA G .byte, n, _) = Sum.inl (cA G .byte, n, _)
    congr 3
    show Sum.inl _ = Sum.inl _
    congr 1
    skip
    funext b
    show (if t = t ∧ b = i.toNatClampNeg then _ else _) = if b = i.toNatClampNeg then _ else _
    by_cases hbq : b = i.toNatClampNeg
    · rw [if_pos ⟨rfl, hbq⟩, if_pos hbq]
    · rw [if_neg (fun h => hbq h.2), if_neg hbq]
  exact va_bast hx hb hKF.2.1 hP (wl_D hKF.1) hS t 2 he rfl hin hd (fun H1 locs1 hP1 _ hS1 => k a hE H1 locs1 ls (by rw [← hset]; exact hP1) hS1 hl)
theorem x_zast (g : Gd J cc own) {t n : Nat} {i : Int32} {x : Int32} (ha : isA .boolean n t) (hd : decode cc pc = .ok (.bastore, 1)) (k : X J pj E (pc + 1) L S (stI M t i.toNatClampNeg (vp_nar .boolean x))) : X J pj (ixk i n E) pc L (.int x :: .int i :: .ref t :: S) M := by
  refine X.ck_pre fun hin => ?_
  obtain ⟨p, l, e, R, s, m, args, below, meth, c, G, Q, nL, cs⟩ := J
  obtain ⟨hx, hb, hml, hown, hts, hKF, hHF, hcs⟩ := id g
  intro a hE H locs ls hP hS hl
  have he : (wl G NT M)[t]? = some (rh G t, .inl (cA G .boolean, n, .inl (M.1 t))) := by rw [wl_get (shp_lt ha), el_A ha]; rfl
  have hset : (wl G NT M).set t (rh G t, .inl (cA G .boolean, n, .inl (upd (M.1 t) i.toNatClampNeg (vp_nar .boolean x)))) = wl G NT (stI M t i.toNatClampNeg (vp_nar .boolean x)) := by
    refine wl_set ?_ stI_off
    rw [el_A ha]
    show Sum.inl (cA G .boolean, n, _) = Sum.inl (cA G .boolean, n, _)
    congr 3
    show Sum.inl _ = Sum.inl _
    congr 1
    skip
    funext b
    show (if t = t ∧ b = i.toNatClampNeg then _ else _) = if b = i.toNatClampNeg then _ else _
    by_cases hbq : b = i.toNatClampNeg
    · rw [if_pos ⟨rfl, hbq⟩, if_pos hbq]
    · rw [if_neg (fun h => hbq h.2), if_neg hbq]
  exact va_zast hx hb hKF.2.1 hP (wl_D hKF.1) hS t 3 he rfl hin hd (fun H1 locs1 hP1 _ hS1 => k a hE H1 locs1 ls (by rw [← hset]; exact hP1) hS1 hl)
theorem x_last (g : Gd J cc own) {t n : Nat} {i : Int32} {x : Int64} (ha : isA .long n t) (hd : decode cc pc = .ok (.lastore, 1)) (k : X J pj E (pc + 1) L S (stL M t i.toNatClampNeg x)) : X J pj (ixk i n E) pc L (.long x :: .int i :: .ref t :: S) M := by
  refine X.ck_pre fun hin => ?_
  obtain ⟨p, l, e, R, s, m, args, below, meth, c, G, Q, nL, cs⟩ := J
  obtain ⟨hx, hb, hml, hown, hts, hKF, hHF, hcs⟩ := id g
  intro a hE H locs ls hP hS hl
  have he : (wl G NT M)[t]? = some (rh G t, .inl (cA G .long, n, .inr (.inl (M.2.1 t)))) := by rw [wl_get (shp_lt ha), el_A ha]; rfl
  have hset : (wl G NT M).set t (rh G t, .inl (cA G .long, n, .inr (.inl (vp_updL (M.2.1 t) i.toNatClampNeg x)))) = wl G NT (stL M t i.toNatClampNeg x) := by
    refine wl_set ?_ stL_off
    rw [el_A ha]
    show Sum.inl (cA G .long, n, _) = Sum.inl (cA G .long, n, _)
    congr 3
    show Sum.inr (Sum.inl _) = Sum.inr (Sum.inl _)
    congr 1
    congr 1
    funext b
    show (if t = t ∧ b = i.toNatClampNeg then _ else _) = if b = i.toNatClampNeg then _ else _
    by_cases hbq : b = i.toNatClampNeg
    · rw [if_pos ⟨rfl, hbq⟩, if_pos hbq]
    · rw [if_neg (fun h => hbq h.2), if_neg hbq]
  exact va_last hx hb hKF.2.1 hP (wl_D hKF.1) hS t 1 he rfl hin hd (fun H1 locs1 hP1 _ hS1 => k a hE H1 locs1 ls (by rw [← hset]; exact hP1) hS1 hl)
theorem x_aald (g : Gd J cc own) {t n : Nat} {i : Int32} {C : String} (t0 : Nat) (hty : ∀ G', (tyL G')[t0]? = some (cA G' (.object C), .object C)) (ha : isA (.object C) n t) (hd : decode cc pc = .ok (.aaload, 1)) (k : vp_in i n → X J pj E (pc + 1) L (.ref (srf t i.toNatClampNeg) :: S) M) : X J pj (ixk i n E) pc L (.int i :: .ref t :: S) M := by
  refine X.ck_pre fun hin => ?_
  obtain ⟨p, l, e, R, s, m, args, below, meth, c, G, Q, nL, cs⟩ := J
  obtain ⟨hx, hb, hml, hown, hts, hKF, hHF, hcs⟩ := id g
  intro a hE H locs ls hP hS hl
  have he : (wl G NT M)[t]? = some (rh G t, .inl (cA G (.object C), n, .inr (.inr (.inr (.inr fun j => some (rh G (srf t j))))))) := by rw [wl_get (shp_lt ha), el_A ha]; rfl
  exact va_aldq hx hb hKF.2.1 hP t t0 he (hty G) hin hd (k hin a hE H locs ls hP hS hl)
theorem x_alen (g : Gd J cc own) {t n : Nat} {ty : FieldType} {v : Int32} (t0 : Nat) (hty : ∀ G', (tyL G')[t0]? = some (cA G' ty, ty)) (ha : isA ty n t) (hv : Int32.ofNat n = v) (hd : decode cc pc = .ok (.arraylength, 1)) (k : X J pj E (pc + 1) L (.int v :: S) M) : X J pj E pc L (.ref t :: S) M := by
  obtain ⟨p, l, e, R, s, m, args, below, meth, c, G, Q, nL, cs⟩ := J
  obtain ⟨hx, hb, hml, hown, hts, hKF, hHF, hcs⟩ := id g
  intro a hE H locs ls hP hS hl
  have he : (wl G NT M)[t]? = some (rh G t, .inl (cA G ty, n, av G M t ty)) := by rw [wl_get (shp_lt ha), el_A ha]
  exact va_alen hx hb hKF.2.1 hP t t0 he (hty G) hv hd (k a hE H locs ls hP hS hl)
end XH
