/-! the judgement X: from this instruction on, with these locals, this stack, this memory, what is left computes E -/
abbrev JT := Program × Launch × Env × Room × State × MethodId × Array Value × List Frame × Method × Code × GT × (Option Value → Mem → State → Prop) × Nat × (Nat × Nat)
def X {γ : Type} (J : JT) (pj : γ → Option Value × Mem) (E : Option γ) (pc : Nat) (L : List (Nat × Value)) (S : List Value) (M : Mem) : Prop := match J with
  | (p, l, e, R, s, m, args, below, meth, c, G, Q, nL, cs) => ∀ a : γ, E = some a → ∀ (H : Heap) (locs : List Loc) (ls : Array Slot), va_P (gD G) vwCl (wl G NT M) H → va_S (Ar G) s.heap H locs → lv_has ls nL (L.map fun q => (q.1, cv G q.2)) → W p l e R s m args below meth c H locs cs.1 cs.2 (Q (pj a).1 (pj a).2) (F0 m pc ls (S.map (cv G)))
def Gd (J : JT) (cc : ByteArray) (own : String) : Prop := match J with
  | (p, _, _, R, s, m, args, _, _, c, G, _, nL, cs) => p.tables.exec = Jvm.exec ∧ c.code = cc ∧ c.maxLocals = nL ∧ s.vm.findClass own = some m.cls ∧ (∀ w ∈ okT, w.before args s = true) ∧ KF G s ∧ HF G s s.heap ∧ cs.1 ≤ R.cells ∧ cs.2 ≤ R.slots
def JG (J : JT) : GT := J.2.2.2.2.2.2.2.2.2.2.1
def Jl (J : JT) : Launch := J.2.1
def JR (J : JT) : Room := J.2.2.2.1
def Jn (J : JT) : Nat := J.2.2.2.2.2.2.2.2.2.2.2.2.1
theorem lmap {G : GT} {L : List (Nat × Value)} {k i : Nat} {v : Value} (h : L[k]? = some (i, v)) : (L.map fun q => (q.1, cv G q.2))[k]? = some (i, cv G v) := by rw [List.getElem?_map, h]; rfl
theorem lfil1 {G : GT} {L : List (Nat × Value)} {i : Nat} {v : Value} : (i, cv G v) :: (L.map fun q => (q.1, cv G q.2)).filter (fun q => !(q.1 == i) && !(q.1 + 1 == i && q.2.category == 2)) = ((i, v) :: L.filter (fun q => !(q.1 == i) && !(q.1 + 1 == i && q.2.category == 2))).map (fun q => (q.1, cv G q.2)) := by
  rw [List.map_cons, List.filter_map]
  congr 3
  funext q
  show _ = _
  simp only [Function.comp, cv_cat]
theorem lfil2 {G : GT} {L : List (Nat × Value)} {i : Nat} {v : Value} : (i, cv G v) :: (L.map fun q => (q.1, cv G q.2)).filter (fun q => !(q.1 == i) && (!(q.1 == i + 1) && !(q.1 + 1 == i && q.2.category == 2))) = ((i, v) :: L.filter (fun q => !(q.1 == i) && (!(q.1 == i + 1) && !(q.1 + 1 == i && q.2.category == 2)))).map (fun q => (q.1, cv G q.2)) := by
  rw [List.map_cons, List.filter_map]
  congr 3
  funext q
  show _ = _
  simp only [Function.comp, cv_cat]
section XS
variable {γ : Type} {J : JT} {pj : γ → Option Value × Mem} {E : Option γ} {pc : Nat} {L : List (Nat × Value)} {S : List Value} {M : Mem} {cc : ByteArray} {own : String}
theorem x_iadd (g : Gd J cc own) {x y : Int32} (hd : decode cc pc = .ok (.iadd, 1)) (k : X J pj E (pc + 1) L (.int (x + y) :: S) M) : X J pj E pc L (.int y :: .int x :: S) M := by
  obtain ⟨p, l, e, R, s, m, args, below, meth, c, G, Q, nL, cs⟩ := J
  obtain ⟨hx, hb, hml, hown, hts, hKF, hHF, hcs⟩ := id g
  intro a hE H locs ls hP hS hl
  exact lv_iadd hx hb hd (k a hE H locs ls hP hS hl)
theorem x_isub (g : Gd J cc own) {x y : Int32} (hd : decode cc pc = .ok (.isub, 1)) (k : X J pj E (pc + 1) L (.int (x - y) :: S) M) : X J pj E pc L (.int y :: .int x :: S) M := by
  obtain ⟨p, l, e, R, s, m, args, below, meth, c, G, Q, nL, cs⟩ := J
  obtain ⟨hx, hb, hml, hown, hts, hKF, hHF, hcs⟩ := id g
  intro a hE H locs ls hP hS hl
  exact lv_isub hx hb hd (k a hE H locs ls hP hS hl)
theorem x_imul (g : Gd J cc own) {x y : Int32} (hd : decode cc pc = .ok (.imul, 1)) (k : X J pj E (pc + 1) L (.int (x * y) :: S) M) : X J pj E pc L (.int y :: .int x :: S) M := by
  obtain ⟨p, l, e, R, s, m, args, below, meth, c, G, Q, nL, cs⟩ := J
  obtain ⟨hx, hb, hml, hown, hts, hKF, hHF, hcs⟩ := id g
  intro a hE H locs ls hP hS hl
  exact lv_imul hx hb hd (k a hE H locs ls hP hS hl)
theorem x_iand (g : Gd J cc own) {x y : Int32} (hd : decode cc pc = .ok (.iand, 1)) (k : X J pj E (pc + 1) L (.int (x &&& y) :: S) M) : X J pj E pc L (.int y :: .int x :: S) M := by
  obtain ⟨p, l, e, R, s, m, args, below, meth, c, G, Q, nL, cs⟩ := J
  obtain ⟨hx, hb, hml, hown, hts, hKF, hHF, hcs⟩ := id g
  intro a hE H locs ls hP hS hl
  exact lv_iand hx hb hd (k a hE H locs ls hP hS hl)
theorem x_ior (g : Gd J cc own) {x y : Int32} (hd : decode cc pc = .ok (.ior, 1)) (k : X J pj E (pc + 1) L (.int (x ||| y) :: S) M) : X J pj E pc L (.int y :: .int x :: S) M := by
  obtain ⟨p, l, e, R, s, m, args, below, meth, c, G, Q, nL, cs⟩ := J
  obtain ⟨hx, hb, hml, hown, hts, hKF, hHF, hcs⟩ := id g
  intro a hE H locs ls hP hS hl
  exact lv_ior hx hb hd (k a hE H locs ls hP hS hl)
theorem x_ixor (g : Gd J cc own) {x y : Int32} (hd : decode cc pc = .ok (.ixor, 1)) (k : X J pj E (pc + 1) L (.int (x ^^^ y) :: S) M) : X J pj E pc L (.int y :: .int x :: S) M := by
  obtain ⟨p, l, e, R, s, m, args, below, meth, c, G, Q, nL, cs⟩ := J
  obtain ⟨hx, hb, hml, hown, hts, hKF, hHF, hcs⟩ := id g
  intro a hE H locs ls hP hS hl
  exact lv_ixor hx hb hd (k a hE H locs ls hP hS hl)
theorem x_ladd (g : Gd J cc own) {x y : Int64} (hd : decode cc pc = .ok (.ladd, 1)) (k : X J pj E (pc + 1) L (.long (x + y) :: S) M) : X J pj E pc L (.long y :: .long x :: S) M := by
  obtain ⟨p, l, e, R, s, m, args, below, meth, c, G, Q, nL, cs⟩ := J
  obtain ⟨hx, hb, hml, hown, hts, hKF, hHF, hcs⟩ := id g
  intro a hE H locs ls hP hS hl
  exact lv_ladd hx hb hd (k a hE H locs ls hP hS hl)
theorem x_lsub (g : Gd J cc own) {x y : Int64} (hd : decode cc pc = .ok (.lsub, 1)) (k : X J pj E (pc + 1) L (.long (x - y) :: S) M) : X J pj E pc L (.long y :: .long x :: S) M := by
  obtain ⟨p, l, e, R, s, m, args, below, meth, c, G, Q, nL, cs⟩ := J
  obtain ⟨hx, hb, hml, hown, hts, hKF, hHF, hcs⟩ := id g
  intro a hE H locs ls hP hS hl
  exact lv_lsub hx hb hd (k a hE H locs ls hP hS hl)
theorem x_lmul (g : Gd J cc own) {x y : Int64} (hd : decode cc pc = .ok (.lmul, 1)) (k : X J pj E (pc + 1) L (.long (x * y) :: S) M) : X J pj E pc L (.long y :: .long x :: S) M := by
  obtain ⟨p, l, e, R, s, m, args, below, meth, c, G, Q, nL, cs⟩ := J
  obtain ⟨hx, hb, hml, hown, hts, hKF, hHF, hcs⟩ := id g
  intro a hE H locs ls hP hS hl
  exact lv_lmul hx hb hd (k a hE H locs ls hP hS hl)
theorem x_land (g : Gd J cc own) {x y : Int64} (hd : decode cc pc = .ok (.land, 1)) (k : X J pj E (pc + 1) L (.long (x &&& y) :: S) M) : X J pj E pc L (.long y :: .long x :: S) M := by
  obtain ⟨p, l, e, R, s, m, args, below, meth, c, G, Q, nL, cs⟩ := J
  obtain ⟨hx, hb, hml, hown, hts, hKF, hHF, hcs⟩ := id g
  intro a hE H locs ls hP hS hl
  exact lv_land hx hb hd (k a hE H locs ls hP hS hl)
theorem x_lor (g : Gd J cc own) {x y : Int64} (hd : decode cc pc = .ok (.lor, 1)) (k : X J pj E (pc + 1) L (.long (x ||| y) :: S) M) : X J pj E pc L (.long y :: .long x :: S) M := by
  obtain ⟨p, l, e, R, s, m, args, below, meth, c, G, Q, nL, cs⟩ := J
  obtain ⟨hx, hb, hml, hown, hts, hKF, hHF, hcs⟩ := id g
  intro a hE H locs ls hP hS hl
  exact lv_lor hx hb hd (k a hE H locs ls hP hS hl)
theorem x_ineg (g : Gd J cc own) {x : Int32} (hd : decode cc pc = .ok (.ineg, 1)) (k : X J pj E (pc + 1) L (.int (-x) :: S) M) : X J pj E pc L (.int x :: S) M := by
  obtain ⟨p, l, e, R, s, m, args, below, meth, c, G, Q, nL, cs⟩ := J
  obtain ⟨hx, hb, hml, hown, hts, hKF, hHF, hcs⟩ := id g
  intro a hE H locs ls hP hS hl
  exact lv_ineg hx hb hd (k a hE H locs ls hP hS hl)
theorem x_lneg (g : Gd J cc own) {x : Int64} (hd : decode cc pc = .ok (.lneg, 1)) (k : X J pj E (pc + 1) L (.long (-x) :: S) M) : X J pj E pc L (.long x :: S) M := by
  obtain ⟨p, l, e, R, s, m, args, below, meth, c, G, Q, nL, cs⟩ := J
  obtain ⟨hx, hb, hml, hown, hts, hKF, hHF, hcs⟩ := id g
  intro a hE H locs ls hP hS hl
  exact lv_lneg hx hb hd (k a hE H locs ls hP hS hl)
theorem x_idiv (g : Gd J cc own) {x y : Int32} (hd : decode cc pc = .ok (.idiv, 1)) (hne : ¬ y = 0) (k : X J pj E (pc + 1) L (.int (x / y) :: S) M) : X J pj E pc L (.int y :: .int x :: S) M := by
  obtain ⟨p, l, e, R, s, m, args, below, meth, c, G, Q, nL, cs⟩ := J
  obtain ⟨hx, hb, hml, hown, hts, hKF, hHF, hcs⟩ := id g
  intro a hE H locs ls hP hS hl
  exact lv_idiv hx hb hd hne (k a hE H locs ls hP hS hl)
theorem x_irem (g : Gd J cc own) {x y : Int32} (hd : decode cc pc = .ok (.irem, 1)) (hne : ¬ y = 0) (k : X J pj E (pc + 1) L (.int (x - x / y * y) :: S) M) : X J pj E pc L (.int y :: .int x :: S) M := by
  obtain ⟨p, l, e, R, s, m, args, below, meth, c, G, Q, nL, cs⟩ := J
  obtain ⟨hx, hb, hml, hown, hts, hKF, hHF, hcs⟩ := id g
  intro a hE H locs ls hP hS hl
  exact lv_irem hx hb hd hne (k a hE H locs ls hP hS hl)
theorem x_ldiv (g : Gd J cc own) {x y : Int64} (hd : decode cc pc = .ok (.ldiv, 1)) (hne : ¬ y = 0) (k : X J pj E (pc + 1) L (.long (x / y) :: S) M) : X J pj E pc L (.long y :: .long x :: S) M := by
  obtain ⟨p, l, e, R, s, m, args, below, meth, c, G, Q, nL, cs⟩ := J
  obtain ⟨hx, hb, hml, hown, hts, hKF, hHF, hcs⟩ := id g
  intro a hE H locs ls hP hS hl
  exact lv_ldiv hx hb hd hne (k a hE H locs ls hP hS hl)
theorem x_lrem (g : Gd J cc own) {x y : Int64} (hd : decode cc pc = .ok (.lrem, 1)) (hne : ¬ y = 0) (k : X J pj E (pc + 1) L (.long (x - x / y * y) :: S) M) : X J pj E pc L (.long y :: .long x :: S) M := by
  obtain ⟨p, l, e, R, s, m, args, below, meth, c, G, Q, nL, cs⟩ := J
  obtain ⟨hx, hb, hml, hown, hts, hKF, hHF, hcs⟩ := id g
  intro a hE H locs ls hP hS hl
  exact lv_lrem hx hb hd hne (k a hE H locs ls hP hS hl)
theorem x_iconst (g : Gd J cc own) {n : Int} {v : Int32} (hd : decode cc pc = .ok (.iconst n, 1)) (hv : Int32.ofInt n = v) (k : X J pj E (pc + 1) L (.int v :: S) M) : X J pj E pc L (S) M := by
  obtain ⟨p, l, e, R, s, m, args, below, meth, c, G, Q, nL, cs⟩ := J
  obtain ⟨hx, hb, hml, hown, hts, hKF, hHF, hcs⟩ := id g
  intro a hE H locs ls hP hS hl
  exact lv_iconst hx hb hd hv (k a hE H locs ls hP hS hl)
theorem x_bipush (g : Gd J cc own) {n : Int} {v : Int32} (hd : decode cc pc = .ok (.bipush n, 2)) (hv : (Int8.ofInt n).toInt32 = v) (k : X J pj E (pc + 2) L (.int v :: S) M) : X J pj E pc L (S) M := by
  obtain ⟨p, l, e, R, s, m, args, below, meth, c, G, Q, nL, cs⟩ := J
  obtain ⟨hx, hb, hml, hown, hts, hKF, hHF, hcs⟩ := id g
  intro a hE H locs ls hP hS hl
  exact lv_bipush hx hb hd hv (k a hE H locs ls hP hS hl)
theorem x_sipush (g : Gd J cc own) {n : Int} {v : Int32} (hd : decode cc pc = .ok (.sipush n, 3)) (hv : (Int16.ofInt n).toInt32 = v) (k : X J pj E (pc + 3) L (.int v :: S) M) : X J pj E pc L (S) M := by
  obtain ⟨p, l, e, R, s, m, args, below, meth, c, G, Q, nL, cs⟩ := J
  obtain ⟨hx, hb, hml, hown, hts, hKF, hHF, hcs⟩ := id g
  intro a hE H locs ls hP hS hl
  exact lv_sipush hx hb hd hv (k a hE H locs ls hP hS hl)
theorem x_lconst (g : Gd J cc own) {n : Fin 2} {v : Int64} (hd : decode cc pc = .ok (.lconst n, 1)) (hv : Int64.ofNat (n : Nat) = v) (k : X J pj E (pc + 1) L (.long v :: S) M) : X J pj E pc L (S) M := by
  obtain ⟨p, l, e, R, s, m, args, below, meth, c, G, Q, nL, cs⟩ := J
  obtain ⟨hx, hb, hml, hown, hts, hKF, hHF, hcs⟩ := id g
  intro a hE H locs ls hP hS hl
  exact lv_lconst hx hb hd hv (k a hE H locs ls hP hS hl)
theorem x_ldc (g : Gd J cc own) {idx : Nat} {v : Int32} (hc : Cond.constant own idx v ∈ okT) (hd : decode cc pc = .ok (.ldc idx, 2)) (k : X J pj E (pc + 2) L (.int v :: S) M) : X J pj E pc L S M := by
  obtain ⟨p, l, e, R, s, m, args, below, meth, c, G, Q, nL, cs⟩ := J
  obtain ⟨hx, hb, hml, hown, hts, hKF, hHF, hcs⟩ := id g
  intro a hE H locs ls hP hS hl
  exact lv_ldc hx hb hown (hts _ hc) hd (k a hE H locs ls hP hS hl)
theorem x_ldcw (g : Gd J cc own) {idx : Nat} {v : Int32} (hc : Cond.constant own idx v ∈ okT) (hd : decode cc pc = .ok (.ldc_w idx, 3)) (k : X J pj E (pc + 3) L (.int v :: S) M) : X J pj E pc L S M := by
  obtain ⟨p, l, e, R, s, m, args, below, meth, c, G, Q, nL, cs⟩ := J
  obtain ⟨hx, hb, hml, hown, hts, hKF, hHF, hcs⟩ := id g
  intro a hE H locs ls hP hS hl
  exact lv_ldcw hx hb hown (hts _ hc) hd (k a hE H locs ls hP hS hl)
theorem x_ldc2 (g : Gd J cc own) {idx : Nat} {v : Int64} (hc : Cond.constantLong own idx v ∈ okT) (hd : decode cc pc = .ok (.ldc2_w idx, 3)) (k : X J pj E (pc + 3) L (.long v :: S) M) : X J pj E pc L S M := by
  obtain ⟨p, l, e, R, s, m, args, below, meth, c, G, Q, nL, cs⟩ := J
  obtain ⟨hx, hb, hml, hown, hts, hKF, hHF, hcs⟩ := id g
  intro a hE H locs ls hP hS hl
  exact lv_ldc2 hx hb hown (hts _ hc) hd (k a hE H locs ls hP hS hl)
theorem x_iload_n (g : Gd J cc own) {j : Fin 4} {i : Nat} {x : Int32} (q : Nat) (hd : decode cc pc = .ok (.iload_n j, 1)) (hi : (j : Nat) = i) (hq : L[q]? = some (i, .int x)) (k : X J pj E (pc + 1) L (.int x :: S) M) : X J pj E pc L S M := by
  obtain ⟨p, l, e, R, s, m, args, below, meth, c, G, Q, nL, cs⟩ := J
  obtain ⟨hx, hb, hml, hown, hts, hKF, hHF, hcs⟩ := id g
  intro a hE H locs ls hP hS hl
  exact lv_iload_n hx hb hd hi (lv_at hl q (lmap hq)) (k a hE H locs ls hP hS hl)
theorem x_iload (g : Gd J cc own) {i : Nat} {x : Int32} (q : Nat) (hd : decode cc pc = .ok (.iload i, 2)) (hq : L[q]? = some (i, .int x)) (k : X J pj E (pc + 2) L (.int x :: S) M) : X J pj E pc L S M := by
  obtain ⟨p, l, e, R, s, m, args, below, meth, c, G, Q, nL, cs⟩ := J
  obtain ⟨hx, hb, hml, hown, hts, hKF, hHF, hcs⟩ := id g
  intro a hE H locs ls hP hS hl
  exact lv_iload hx hb hd (lv_at hl q (lmap hq)) (k a hE H locs ls hP hS hl)
theorem x_lload_n (g : Gd J cc own) {j : Fin 4} {i : Nat} {x : Int64} (q : Nat) (hd : decode cc pc = .ok (.lload_n j, 1)) (hi : (j : Nat) = i) (hq : L[q]? = some (i, .long x)) (k : X J pj E (pc + 1) L (.long x :: S) M) : X J pj E pc L S M := by
  obtain ⟨p, l, e, R, s, m, args, below, meth, c, G, Q, nL, cs⟩ := J
  obtain ⟨hx, hb, hml, hown, hts, hKF, hHF, hcs⟩ := id g
  intro a hE H locs ls hP hS hl
  exact lv_lload_n hx hb hd hi (lv_at hl q (lmap hq)) (k a hE H locs ls hP hS hl)
theorem x_lload (g : Gd J cc own) {i : Nat} {x : Int64} (q : Nat) (hd : decode cc pc = .ok (.lload i, 2)) (hq : L[q]? = some (i, .long x)) (k : X J pj E (pc + 2) L (.long x :: S) M) : X J pj E pc L S M := by
  obtain ⟨p, l, e, R, s, m, args, below, meth, c, G, Q, nL, cs⟩ := J
  obtain ⟨hx, hb, hml, hown, hts, hKF, hHF, hcs⟩ := id g
  intro a hE H locs ls hP hS hl
  exact lv_lload hx hb hd (lv_at hl q (lmap hq)) (k a hE H locs ls hP hS hl)
theorem x_aload_n (g : Gd J cc own) {j : Fin 4} {i : Nat} {x : Nat} (q : Nat) (hd : decode cc pc = .ok (.aload_n j, 1)) (hi : (j : Nat) = i) (hq : L[q]? = some (i, .ref x)) (k : X J pj E (pc + 1) L (.ref x :: S) M) : X J pj E pc L S M := by
  obtain ⟨p, l, e, R, s, m, args, below, meth, c, G, Q, nL, cs⟩ := J
  obtain ⟨hx, hb, hml, hown, hts, hKF, hHF, hcs⟩ := id g
  intro a hE H locs ls hP hS hl
  exact lv_aload_n hx hb hd hi (lv_at hl q (lmap hq)) (k a hE H locs ls hP hS hl)
theorem x_aload (g : Gd J cc own) {i : Nat} {x : Nat} (q : Nat) (hd : decode cc pc = .ok (.aload i, 2)) (hq : L[q]? = some (i, .ref x)) (k : X J pj E (pc + 2) L (.ref x :: S) M) : X J pj E pc L S M := by
  obtain ⟨p, l, e, R, s, m, args, below, meth, c, G, Q, nL, cs⟩ := J
  obtain ⟨hx, hb, hml, hown, hts, hKF, hHF, hcs⟩ := id g
  intro a hE H locs ls hP hS hl
  exact lv_aload hx hb hd (lv_at hl q (lmap hq)) (k a hE H locs ls hP hS hl)
theorem x_istore_n (g : Gd J cc own) {j : Fin 4} {i : Nat} {x : Int32} {L' : List (Nat × Value)} (hd : decode cc pc = .ok (.istore_n j, 1)) (hi : (j : Nat) = i) {mL : Nat} (hn : Jn J = mL) (hm : i < mL) (hL : (i, .int x) :: L.filter (fun q => !(q.1 == i) && !(q.1 + 1 == i && q.2.category == 2)) = L') (k : X J pj E (pc + 1) L' S M) : X J pj E pc L (.int x :: S) M := by
  obtain ⟨p, l, e, R, s, m, args, below, meth, c, G, Q, nL, cs⟩ := J
  obtain ⟨hx, hb, hml, hown, hts, hKF, hHF, hcs⟩ := id g
  intro a hE H locs ls hP hS hl
  subst hL
  exact lv_istore_n hx hb hd hi hl (Nat.lt_of_lt_of_eq hm (show mL = nL from hn.symm)) (lfil1 (G := G) (L := L) (i := i) (v := .int x)) (fun ls' hl' => k a hE H locs ls' hP hS hl')
theorem x_istore (g : Gd J cc own) {i : Nat} {x : Int32} {L' : List (Nat × Value)} (hd : decode cc pc = .ok (.istore i, 2)) {mL : Nat} (hn : Jn J = mL) (hm : i < mL) (hL : (i, .int x) :: L.filter (fun q => !(q.1 == i) && !(q.1 + 1 == i && q.2.category == 2)) = L') (k : X J pj E (pc + 2) L' S M) : X J pj E pc L (.int x :: S) M := by
  obtain ⟨p, l, e, R, s, m, args, below, meth, c, G, Q, nL, cs⟩ := J
  obtain ⟨hx, hb, hml, hown, hts, hKF, hHF, hcs⟩ := id g
  intro a hE H locs ls hP hS hl
  subst hL
  exact lv_istore hx hb hd hl (Nat.lt_of_lt_of_eq hm (show mL = nL from hn.symm)) (lfil1 (G := G) (L := L) (i := i) (v := .int x)) (fun ls' hl' => k a hE H locs ls' hP hS hl')
theorem x_astore_n (g : Gd J cc own) {j : Fin 4} {i : Nat} {x : Nat} {L' : List (Nat × Value)} (hd : decode cc pc = .ok (.astore_n j, 1)) (hi : (j : Nat) = i) {mL : Nat} (hn : Jn J = mL) (hm : i < mL) (hL : (i, .ref x) :: L.filter (fun q => !(q.1 == i) && !(q.1 + 1 == i && q.2.category == 2)) = L') (k : X J pj E (pc + 1) L' S M) : X J pj E pc L (.ref x :: S) M := by
  obtain ⟨p, l, e, R, s, m, args, below, meth, c, G, Q, nL, cs⟩ := J
  obtain ⟨hx, hb, hml, hown, hts, hKF, hHF, hcs⟩ := id g
  intro a hE H locs ls hP hS hl
  subst hL
  exact lv_astore_n hx hb hd hi hl (Nat.lt_of_lt_of_eq hm (show mL = nL from hn.symm)) (lfil1 (G := G) (L := L) (i := i) (v := .ref x)) (fun ls' hl' => k a hE H locs ls' hP hS hl')
theorem x_astore (g : Gd J cc own) {i : Nat} {x : Nat} {L' : List (Nat × Value)} (hd : decode cc pc = .ok (.astore i, 2)) {mL : Nat} (hn : Jn J = mL) (hm : i < mL) (hL : (i, .ref x) :: L.filter (fun q => !(q.1 == i) && !(q.1 + 1 == i && q.2.category == 2)) = L') (k : X J pj E (pc + 2) L' S M) : X J pj E pc L (.ref x :: S) M := by
  obtain ⟨p, l, e, R, s, m, args, below, meth, c, G, Q, nL, cs⟩ := J
  obtain ⟨hx, hb, hml, hown, hts, hKF, hHF, hcs⟩ := id g
  intro a hE H locs ls hP hS hl
  subst hL
  exact lv_astore hx hb hd hl (Nat.lt_of_lt_of_eq hm (show mL = nL from hn.symm)) (lfil1 (G := G) (L := L) (i := i) (v := .ref x)) (fun ls' hl' => k a hE H locs ls' hP hS hl')
theorem x_lstore_n (g : Gd J cc own) {j : Fin 4} {i : Nat} {x : Int64} {L' : List (Nat × Value)} (hd : decode cc pc = .ok (.lstore_n j, 1)) (hi : (j : Nat) = i) {mL : Nat} (hn : Jn J = mL) (hm : i + 1 < mL) (hL : (i, .long x) :: L.filter (fun q => !(q.1 == i) && (!(q.1 == i + 1) && !(q.1 + 1 == i && q.2.category == 2))) = L') (k : X J pj E (pc + 1) L' S M) : X J pj E pc L (.long x :: S) M := by
  obtain ⟨p, l, e, R, s, m, args, below, meth, c, G, Q, nL, cs⟩ := J
  obtain ⟨hx, hb, hml, hown, hts, hKF, hHF, hcs⟩ := id g
  intro a hE H locs ls hP hS hl
  subst hL
  exact lv_lstore_n hx hb hd hi hl (Nat.lt_of_lt_of_eq hm (show mL = nL from hn.symm)) (lfil2 (G := G) (L := L) (i := i) (v := .long x)) (fun ls' hl' => k a hE H locs ls' hP hS hl')
theorem x_lstore (g : Gd J cc own) {i : Nat} {x : Int64} {L' : List (Nat × Value)} (hd : decode cc pc = .ok (.lstore i, 2)) {mL : Nat} (hn : Jn J = mL) (hm : i + 1 < mL) (hL : (i, .long x) :: L.filter (fun q => !(q.1 == i) && (!(q.1 == i + 1) && !(q.1 + 1 == i && q.2.category == 2))) = L') (k : X J pj E (pc + 2) L' S M) : X J pj E pc L (.long x :: S) M := by
  obtain ⟨p, l, e, R, s, m, args, below, meth, c, G, Q, nL, cs⟩ := J
  obtain ⟨hx, hb, hml, hown, hts, hKF, hHF, hcs⟩ := id g
  intro a hE H locs ls hP hS hl
  subst hL
  exact lv_lstore hx hb hd hl (Nat.lt_of_lt_of_eq hm (show mL = nL from hn.symm)) (lfil2 (G := G) (L := L) (i := i) (v := .long x)) (fun ls' hl' => k a hE H locs ls' hP hS hl')
theorem x_iinc (g : Gd J cc own) {i : Nat} {n : Int} {x v : Int32} {L' : List (Nat × Value)} (q : Nat) (hd : decode cc pc = .ok (.iinc i n, 3)) (hq : L[q]? = some (i, .int x)) (hv : x + Int32.ofInt n = v) {mL : Nat} (hn : Jn J = mL) (hm : i < mL) (hL : (i, .int v) :: L.filter (fun q => !(q.1 == i) && !(q.1 + 1 == i && q.2.category == 2)) = L') (k : X J pj E (pc + 3) L' S M) : X J pj E pc L S M := by
  obtain ⟨p, l, e, R, s, m, args, below, meth, c, G, Q, nL, cs⟩ := J
  obtain ⟨hx, hb, hml, hown, hts, hKF, hHF, hcs⟩ := id g
  intro a hE H locs ls hP hS hl
  subst hL
  exact lv_iinc hx hb hd hl (lmap hq) hv (Nat.lt_of_lt_of_eq hm (show mL = nL from hn.symm)) (lfil1 (G := G) (L := L) (i := i) (v := .int v)) (fun ls' hl' => k a hE H locs ls' hP hS hl')
theorem x_goto (g : Gd J cc own) {off : Int} (tgt : Nat) (hd : decode cc pc = .ok (.goto off, 3)) (ht : (pc : Int) + off = (tgt : Int)) (k : X J pj E tgt L S M) : X J pj E pc L S M := by
  obtain ⟨p, l, e, R, s, m, args, below, meth, c, G, Q, nL, cs⟩ := J
  obtain ⟨hx, hb, hml, hown, hts, hKF, hHF, hcs⟩ := id g
  intro a hE H locs ls hP hS hl
  exact lv_goto hx hb hd ht (k a hE H locs ls hP hS hl)
theorem x_sub {L' : List (Nat × Value)} (ks : List Nat) (hk : ks.filterMap (fun k => L[k]?) = L') (k : X J pj E pc L' S M) : X J pj E pc L S M := by
  obtain ⟨p, l, e, R, s, m, args, below, meth, c, G, Q, nL, cs⟩ := J
  intro a hE H locs ls hP hS hl
  refine k a hE H locs ls hP hS (lv_sub hl ks ?_)
  rw [← hk]
  unfold lv_pick
  rw [List.map_filterMap]
  congr 1
  funext i
  rw [List.getElem?_map]
theorem x_none : X J pj (none : Option γ) pc L S M := by
  obtain ⟨p, l, e, R, s, m, args, below, meth, c, G, Q, nL, cs⟩ := J
  intro a hE
  cases hE
theorem x_if {C : Prop} [dc : Decidable C] {A B : Option γ} (ht : C → X J pj A pc L S M) (hf : ¬ C → X J pj B pc L S M) : X J pj (if C then A else B) pc L S M := by
  by_cases h : C
  · rw [if_pos h]; exact ht h
  · rw [if_neg h]; exact hf h
/-- a check that the machine would throw without -/
theorem x_ck {C : Prop} [dc : Decidable C] {A : Option γ} (ht : C → X J pj A pc L S M) : X J pj (if C then A else none) pc L S M := x_if ht (fun _ => x_none)
/-- what is bound goes on from some -/
theorem x_bind {β : Type} {F : Option β} {K : β → Option γ} (h : ∀ b, F = some b → X J pj (K b) pc L S M) : X J pj (F.bind K) pc L S M := by
  cases F with
  | none => exact x_none
  | some b => exact h b rfl
theorem x_if_eq (g : Gd J cc own) {x : Int32} {off : Int} {A B : Option γ} (tgt : Nat) (hd : decode cc pc = .ok (.ifCond .eq off, 3)) (ht : (pc : Int) + off = (tgt : Int)) (kt : x = 0 → X J pj A tgt L S M) (kf : ¬ x = 0 → X J pj B (pc + 3) L S M) : X J pj (if x = 0 then A else B) pc L (.int x :: S) M := by
  obtain ⟨p, l, e, R, s, m, args, below, meth, c, G, Q, nL, cs⟩ := J
  obtain ⟨hx, hb, hml, hown, hts, hKF, hHF, hcs⟩ := id g
  intro a hE H locs ls hP hS hl
  refine lv_if_eq hx hb hd ht (fun h => ?_) (fun h => ?_)
  · rw [if_pos h] at hE
    exact kt h a hE H locs ls hP hS hl
  · rw [if_neg h] at hE
    exact kf h a hE H locs ls hP hS hl
theorem x_icmp_eq (g : Gd J cc own) {x y : Int32} {off : Int} {A B : Option γ} (tgt : Nat) (hd : decode cc pc = .ok (.if_icmp .eq off, 3)) (ht : (pc : Int) + off = (tgt : Int)) (kt : x = y → X J pj A tgt L S M) (kf : ¬ x = y → X J pj B (pc + 3) L S M) : X J pj (if x = y then A else B) pc L (.int y :: .int x :: S) M := by
  obtain ⟨p, l, e, R, s, m, args, below, meth, c, G, Q, nL, cs⟩ := J
  obtain ⟨hx, hb, hml, hown, hts, hKF, hHF, hcs⟩ := id g
  intro a hE H locs ls hP hS hl
  refine lv_icmp_eq hx hb hd ht (fun h => ?_) (fun h => ?_)
  · rw [if_pos h] at hE
    exact kt h a hE H locs ls hP hS hl
  · rw [if_neg h] at hE
    exact kf h a hE H locs ls hP hS hl
theorem x_if_lt (g : Gd J cc own) {x : Int32} {off : Int} {A B : Option γ} (tgt : Nat) (hd : decode cc pc = .ok (.ifCond .lt off, 3)) (ht : (pc : Int) + off = (tgt : Int)) (kt : x < 0 → X J pj A tgt L S M) (kf : ¬ x < 0 → X J pj B (pc + 3) L S M) : X J pj (if x < 0 then A else B) pc L (.int x :: S) M := by
  obtain ⟨p, l, e, R, s, m, args, below, meth, c, G, Q, nL, cs⟩ := J
  obtain ⟨hx, hb, hml, hown, hts, hKF, hHF, hcs⟩ := id g
  intro a hE H locs ls hP hS hl
  refine lv_if_lt hx hb hd ht (fun h => ?_) (fun h => ?_)
  · rw [if_pos h] at hE
    exact kt h a hE H locs ls hP hS hl
  · rw [if_neg h] at hE
    exact kf h a hE H locs ls hP hS hl
theorem x_icmp_lt (g : Gd J cc own) {x y : Int32} {off : Int} {A B : Option γ} (tgt : Nat) (hd : decode cc pc = .ok (.if_icmp .lt off, 3)) (ht : (pc : Int) + off = (tgt : Int)) (kt : x < y → X J pj A tgt L S M) (kf : ¬ x < y → X J pj B (pc + 3) L S M) : X J pj (if x < y then A else B) pc L (.int y :: .int x :: S) M := by
  obtain ⟨p, l, e, R, s, m, args, below, meth, c, G, Q, nL, cs⟩ := J
  obtain ⟨hx, hb, hml, hown, hts, hKF, hHF, hcs⟩ := id g
  intro a hE H locs ls hP hS hl
  refine lv_icmp_lt hx hb hd ht (fun h => ?_) (fun h => ?_)
  · rw [if_pos h] at hE
    exact kt h a hE H locs ls hP hS hl
  · rw [if_neg h] at hE
    exact kf h a hE H locs ls hP hS hl
theorem x_if_ge (g : Gd J cc own) {x : Int32} {off : Int} {A B : Option γ} (tgt : Nat) (hd : decode cc pc = .ok (.ifCond .ge off, 3)) (ht : (pc : Int) + off = (tgt : Int)) (kt : 0 ≤ x → X J pj A tgt L S M) (kf : ¬ 0 ≤ x → X J pj B (pc + 3) L S M) : X J pj (if 0 ≤ x then A else B) pc L (.int x :: S) M := by
  obtain ⟨p, l, e, R, s, m, args, below, meth, c, G, Q, nL, cs⟩ := J
  obtain ⟨hx, hb, hml, hown, hts, hKF, hHF, hcs⟩ := id g
  intro a hE H locs ls hP hS hl
  refine lv_if_ge hx hb hd ht (fun h => ?_) (fun h => ?_)
  · rw [if_pos h] at hE
    exact kt h a hE H locs ls hP hS hl
  · rw [if_neg h] at hE
    exact kf h a hE H locs ls hP hS hl
theorem x_icmp_ge (g : Gd J cc own) {x y : Int32} {off : Int} {A B : Option γ} (tgt : Nat) (hd : decode cc pc = .ok (.if_icmp .ge off, 3)) (ht : (pc : Int) + off = (tgt : Int)) (kt : y ≤ x → X J pj A tgt L S M) (kf : ¬ y ≤ x → X J pj B (pc + 3) L S M) : X J pj (if y ≤ x then A else B) pc L (.int y :: .int x :: S) M := by
  obtain ⟨p, l, e, R, s, m, args, below, meth, c, G, Q, nL, cs⟩ := J
  obtain ⟨hx, hb, hml, hown, hts, hKF, hHF, hcs⟩ := id g
  intro a hE H locs ls hP hS hl
  refine lv_icmp_ge hx hb hd ht (fun h => ?_) (fun h => ?_)
  · rw [if_pos h] at hE
    exact kt h a hE H locs ls hP hS hl
  · rw [if_neg h] at hE
    exact kf h a hE H locs ls hP hS hl
theorem x_if_gt (g : Gd J cc own) {x : Int32} {off : Int} {A B : Option γ} (tgt : Nat) (hd : decode cc pc = .ok (.ifCond .gt off, 3)) (ht : (pc : Int) + off = (tgt : Int)) (kt : 0 < x → X J pj A tgt L S M) (kf : ¬ 0 < x → X J pj B (pc + 3) L S M) : X J pj (if 0 < x then A else B) pc L (.int x :: S) M := by
  obtain ⟨p, l, e, R, s, m, args, below, meth, c, G, Q, nL, cs⟩ := J
  obtain ⟨hx, hb, hml, hown, hts, hKF, hHF, hcs⟩ := id g
  intro a hE H locs ls hP hS hl
  refine lv_if_gt hx hb hd ht (fun h => ?_) (fun h => ?_)
  · rw [if_pos h] at hE
    exact kt h a hE H locs ls hP hS hl
  · rw [if_neg h] at hE
    exact kf h a hE H locs ls hP hS hl
theorem x_icmp_gt (g : Gd J cc own) {x y : Int32} {off : Int} {A B : Option γ} (tgt : Nat) (hd : decode cc pc = .ok (.if_icmp .gt off, 3)) (ht : (pc : Int) + off = (tgt : Int)) (kt : y < x → X J pj A tgt L S M) (kf : ¬ y < x → X J pj B (pc + 3) L S M) : X J pj (if y < x then A else B) pc L (.int y :: .int x :: S) M := by
  obtain ⟨p, l, e, R, s, m, args, below, meth, c, G, Q, nL, cs⟩ := J
  obtain ⟨hx, hb, hml, hown, hts, hKF, hHF, hcs⟩ := id g
  intro a hE H locs ls hP hS hl
  refine lv_icmp_gt hx hb hd ht (fun h => ?_) (fun h => ?_)
  · rw [if_pos h] at hE
    exact kt h a hE H locs ls hP hS hl
  · rw [if_neg h] at hE
    exact kf h a hE H locs ls hP hS hl
theorem x_if_le (g : Gd J cc own) {x : Int32} {off : Int} {A B : Option γ} (tgt : Nat) (hd : decode cc pc = .ok (.ifCond .le off, 3)) (ht : (pc : Int) + off = (tgt : Int)) (kt : x ≤ 0 → X J pj A tgt L S M) (kf : ¬ x ≤ 0 → X J pj B (pc + 3) L S M) : X J pj (if x ≤ 0 then A else B) pc L (.int x :: S) M := by
  obtain ⟨p, l, e, R, s, m, args, below, meth, c, G, Q, nL, cs⟩ := J
  obtain ⟨hx, hb, hml, hown, hts, hKF, hHF, hcs⟩ := id g
  intro a hE H locs ls hP hS hl
  refine lv_if_le hx hb hd ht (fun h => ?_) (fun h => ?_)
  · rw [if_pos h] at hE
    exact kt h a hE H locs ls hP hS hl
  · rw [if_neg h] at hE
    exact kf h a hE H locs ls hP hS hl
theorem x_icmp_le (g : Gd J cc own) {x y : Int32} {off : Int} {A B : Option γ} (tgt : Nat) (hd : decode cc pc = .ok (.if_icmp .le off, 3)) (ht : (pc : Int) + off = (tgt : Int)) (kt : x ≤ y → X J pj A tgt L S M) (kf : ¬ x ≤ y → X J pj B (pc + 3) L S M) : X J pj (if x ≤ y then A else B) pc L (.int y :: .int x :: S) M := by
  obtain ⟨p, l, e, R, s, m, args, below, meth, c, G, Q, nL, cs⟩ := J
  obtain ⟨hx, hb, hml, hown, hts, hKF, hHF, hcs⟩ := id g
  intro a hE H locs ls hP hS hl
  refine lv_icmp_le hx hb hd ht (fun h => ?_) (fun h => ?_)
  · rw [if_pos h] at hE
    exact kt h a hE H locs ls hP hS hl
  · rw [if_neg h] at hE
    exact kf h a hE H locs ls hP hS hl
theorem x_if_ne (g : Gd J cc own) {x : Int32} {off : Int} {A B : Option γ} (tgt : Nat) (hd : decode cc pc = .ok (.ifCond .ne off, 3)) (ht : (pc : Int) + off = (tgt : Int)) (kt : ¬ x = 0 → X J pj A tgt L S M) (kf : x = 0 → X J pj B (pc + 3) L S M) : X J pj (if x = 0 then B else A) pc L (.int x :: S) M := by
  obtain ⟨p, l, e, R, s, m, args, below, meth, c, G, Q, nL, cs⟩ := J
  obtain ⟨hx, hb, hml, hown, hts, hKF, hHF, hcs⟩ := id g
  intro a hE H locs ls hP hS hl
  refine lv_if_ne hx hb hd ht (fun h => ?_) (fun h => ?_)
  · rw [if_neg h] at hE
    exact kt h a hE H locs ls hP hS hl
  · rw [if_pos h] at hE
    exact kf h a hE H locs ls hP hS hl
theorem x_icmp_ne (g : Gd J cc own) {x y : Int32} {off : Int} {A B : Option γ} (tgt : Nat) (hd : decode cc pc = .ok (.if_icmp .ne off, 3)) (ht : (pc : Int) + off = (tgt : Int)) (kt : ¬ x = y → X J pj A tgt L S M) (kf : x = y → X J pj B (pc + 3) L S M) : X J pj (if x = y then B else A) pc L (.int y :: .int x :: S) M := by
  obtain ⟨p, l, e, R, s, m, args, below, meth, c, G, Q, nL, cs⟩ := J
  obtain ⟨hx, hb, hml, hown, hts, hKF, hHF, hcs⟩ := id g
  intro a hE H locs ls hP hS hl
  refine lv_icmp_ne hx hb hd ht (fun h => ?_) (fun h => ?_)
  · rw [if_neg h] at hE
    exact kt h a hE H locs ls hP hS hl
  · rw [if_pos h] at hE
    exact kf h a hE H locs ls hP hS hl
end XS
