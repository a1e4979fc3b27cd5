/-! constructors: cells come into being one behind another -/
abbrev Cm : Type := Nat → va_E
def Lin (G : GT) : Prop := ∀ g, g < NT → rh G g = bs G + g
def wc (G : GT) (n : Nat) (C : Cm) : va_W := (List.range n).map fun g => (rh G g, C g)
def upC (C : Cm) (g : Nat) (e : va_E) : Cm := fun j => if j = g then e else C j
def dM : Mem := (fun _ _ => 0, fun _ _ => 0, fun _ _ => none)
theorem wc_get {G : GT} {n : Nat} {C : Cm} {g : Nat} (h : g < n) : (wc G n C)[g]? = some (rh G g, C g) := by simp [wc, h]
theorem wc_set {G : GT} {n : Nat} {C : Cm} {g : Nat} {e : va_E} : (wc G n C).set g (rh G g, e) = wc G n (upC C g e) := by
  apply List.ext_getElem?
  intro i
  rw [List.getElem?_set]
  by_cases hi : g = i
  · subst hi
    by_cases hn : g < n
    · simp [wc, hn, upC]
    · simp [wc, hn]
  · rw [if_neg hi]
    by_cases hn : i < n
    · rw [wc_get hn, wc_get hn]
      unfold upC
      rw [if_neg (fun h => hi h.symm)]
    · simp [wc, hn]
theorem wc_push {G : GT} {n : Nat} {C : Cm} {e : va_E} : wc G n C ++ [(rh G n, e)] = wc G (n + 1) (upC C n e) := by
  unfold wc
  rw [List.range_succ, List.map_append]
  congr 1
  · refine List.map_congr_left fun g hg => ?_
    have := List.mem_range.mp hg
    unfold upC
    rw [if_neg (by omega)]
  · simp [upC]
theorem wc_D {G : GT} {n : Nat} {C : Cm} (hA : AD G) (hn : n ≤ NT) : va_D (Ar G) (wc G n C) := by
  have key : ∀ (k : Nat) (q : Nat × va_E), (wc G n C)[k]? = some q → k < n ∧ q.1 = rh G k := by
    intro k q h
    have hk : k < n := by
      have := (List.getElem?_eq_some_iff.mp h).1
      simpa [wc] using this
    rw [wc_get hk] at h
    cases h
    exact ⟨hk, rfl⟩
  refine ⟨fun i j p q hi hj hpq => ?_, fun k q h => ?_⟩
  · obtain ⟨a, b⟩ := key i p hi
    obtain ⟨c, d⟩ := key j q hj
    exact hA.1 i j (by omega) (by omega) (by rw [← b, ← d]; exact hpq)
  · obtain ⟨a, b⟩ := key k q h
    show bs G ≤ q.1
    rw [b]
    exact hA.2 k (by omega)
def Y (J : JT) (n ck sk pc : Nat) (L : List (Nat × Value)) (S : List Value) (C : Cm) : Prop := match J with
  | (p, l, e, R, s, m, args, below, meth, c, G, Q, nL, _) => ∀ (H : Heap) (locs : List Loc) (ls : Array Slot), va_P (gD G) vwCl (wc G n C) H → va_S (Ar G) s.heap H locs → lv_has ls nL L → W p l e R s m args below meth c H locs ck sk (Q none dM) (F0 m pc ls S)
def AOs (U : State) : Prop := va_AO "BoreDesk$Tray" U ∧ va_AO "BoreDesk$Ground" U ∧ va_AO "BoreDesk$Years" U
theorem AOs.moved {u U : State} (hvm : u.vm.Alike U.vm) (h : AOs u) : AOs U := ⟨h.1.moved hvm, h.2.1.moved hvm, h.2.2.moved hvm⟩
def Gy (J : JT) (cc : ByteArray) (own : String) (n0 : Nat) : Prop := Gd J cc own ∧ Lin (JG J) ∧ (match J with
  | (_, _, _, _, s, _, _, _, _, _, G, _, _, _) => s.heap.size = bs G + n0 ∧ AOs s)
theorem y_size {p : Program} {l : Launch} {e : Env} {R : Room} {s : State} {m : MethodId} {args : Array Value} {below : List Frame} {meth : Method} {c : Code} {T : State} {locs : List Loc} {ck sk n n0 : Nat} {G : GT} {C : Cm} {H : Heap} (X0 : Stand p l e R s m args below meth c T locs ck sk) (hT : T.heap = H) (hP : va_P (gD G) vwCl (wc G n C) H) (hS : va_S (Ar G) s.heap H locs) (hs : s.heap.size = bs G + n0) (hl : Lin G) (hn : n0 + ck = n) (hN : n ≤ NT) : H.size = bs G + n := by
  have h1 : T.heap.size ≤ s.heap.size + ck := X0.same.2.2.1
  rw [hT] at h1
  have h2 := hS.1
  rcases Nat.eq_zero_or_pos n with h0 | h0
  · omega
  · have h3 := (hP (n - 1) _ (wc_get (by omega))).lt
    rw [show ((rh G (n - 1), C (n - 1)) : Nat × va_E).1 = bs G + (n - 1) from hl _ (by omega)] at h3
    omega
section YS
variable {J : JT} {n ck sk pc n0 : Nat} {L : List (Nat × Value)} {S : List Value} {C : Cm} {cc : ByteArray} {own : String}
theorem y_iconst (g : Gy J cc own n0) {z : Int} {v : Int32} (hd : decode cc pc = .ok (.iconst z, 1)) (hv : Int32.ofInt z = v) (k : Y J n ck sk (pc + 1) L (.int v :: S) C) : Y J n ck sk pc L (S) C := by
  obtain ⟨p, l, e, R, s, m, args, below, meth, c, G, Q, nL, cs⟩ := J
  obtain ⟨⟨hx, hb, hml, hown, hts, hKF, hHF, hcs⟩, hlin, hs0, hao⟩ := id g
  intro H locs ls hP hS hl
  exact lv_iconst hx hb hd hv (k H locs ls hP hS hl)
theorem y_bipush (g : Gy J cc own n0) {z : Int} {v : Int32} (hd : decode cc pc = .ok (.bipush z, 2)) (hv : (Int8.ofInt z).toInt32 = v) (k : Y J n ck sk (pc + 2) L (.int v :: S) C) : Y J n ck sk pc L (S) C := by
  obtain ⟨p, l, e, R, s, m, args, below, meth, c, G, Q, nL, cs⟩ := J
  obtain ⟨⟨hx, hb, hml, hown, hts, hKF, hHF, hcs⟩, hlin, hs0, hao⟩ := id g
  intro H locs ls hP hS hl
  exact lv_bipush hx hb hd hv (k H locs ls hP hS hl)
theorem y_sipush (g : Gy J cc own n0) {z : Int} {v : Int32} (hd : decode cc pc = .ok (.sipush z, 3)) (hv : (Int16.ofInt z).toInt32 = v) (k : Y J n ck sk (pc + 3) L (.int v :: S) C) : Y J n ck sk pc L (S) C := by
  obtain ⟨p, l, e, R, s, m, args, below, meth, c, G, Q, nL, cs⟩ := J
  obtain ⟨⟨hx, hb, hml, hown, hts, hKF, hHF, hcs⟩, hlin, hs0, hao⟩ := id g
  intro H locs ls hP hS hl
  exact lv_sipush hx hb hd hv (k H locs ls hP hS hl)
theorem y_lconst (g : Gy J cc own n0) {z : Fin 2} {v : Int64} (hd : decode cc pc = .ok (.lconst z, 1)) (hv : Int64.ofNat (z : Nat) = v) (k : Y J n ck sk (pc + 1) L (.long v :: S) C) : Y J n ck sk pc L (S) C := by
  obtain ⟨p, l, e, R, s, m, args, below, meth, c, G, Q, nL, cs⟩ := J
  obtain ⟨⟨hx, hb, hml, hown, hts, hKF, hHF, hcs⟩, hlin, hs0, hao⟩ := id g
  intro H locs ls hP hS hl
  exact lv_lconst hx hb hd hv (k H locs ls hP hS hl)
theorem y_null (g : Gy J cc own n0)  (hd : decode cc pc = .ok (.aconst_null, 1)) (k : Y J n ck sk (pc + 1) L (.null :: S) C) : Y J n ck sk pc L (S) C := by
  obtain ⟨p, l, e, R, s, m, args, below, meth, c, G, Q, nL, cs⟩ := J
  obtain ⟨⟨hx, hb, hml, hown, hts, hKF, hHF, hcs⟩, hlin, hs0, hao⟩ := id g
  intro H locs ls hP hS hl
  exact lv_null hx hb hd (k H locs ls hP hS hl)
theorem y_dup (g : Gy J cc own n0) {v : Value} (hd : decode cc pc = .ok (.dup, 1)) (hv : v.category = 1) (k : Y J n ck sk (pc + 1) L (v :: v :: S) C) : Y J n ck sk pc L (v :: S) C := by
  obtain ⟨p, l, e, R, s, m, args, below, meth, c, G, Q, nL, cs⟩ := J
  obtain ⟨⟨hx, hb, hml, hown, hts, hKF, hHF, hcs⟩, hlin, hs0, hao⟩ := id g
  intro H locs ls hP hS hl
  exact lv_dup hx hb hd hv (k H locs ls hP hS hl)
theorem y_aload_n (g : Gy J cc own n0) {j : Fin 4} {i x : Nat} (q : Nat) (hd : decode cc pc = .ok (.aload_n j, 1)) (hi : (j : Nat) = i) (hq : L[q]? = some (i, .ref x)) (k : Y J n ck sk (pc + 1) L (.ref x :: S) C) : Y J n ck sk pc L S C := by
  obtain ⟨p, l, e, R, s, m, args, below, meth, c, G, Q, nL, cs⟩ := J
  obtain ⟨⟨hx, hb, hml, hown, hts, hKF, hHF, hcs⟩, hlin, hs0, hao⟩ := id g
  intro H locs ls hP hS hl
  exact lv_aload_n hx hb hd hi (lv_at hl q hq) (k H locs ls hP hS hl)
theorem y_iload_n (g : Gy J cc own n0) {j : Fin 4} {i : Nat} {x : Int32} (q : Nat) (hd : decode cc pc = .ok (.iload_n j, 1)) (hi : (j : Nat) = i) (hq : L[q]? = some (i, .int x)) (k : Y J n ck sk (pc + 1) L (.int x :: S) C) : Y J n ck sk pc L S C := by
  obtain ⟨p, l, e, R, s, m, args, below, meth, c, G, Q, nL, cs⟩ := J
  obtain ⟨⟨hx, hb, hml, hown, hts, hKF, hHF, hcs⟩, hlin, hs0, hao⟩ := id g
  intro H locs ls hP hS hl
  exact lv_iload_n hx hb hd hi (lv_at hl q hq) (k H locs ls hP hS hl)
theorem y_istore_n (g : Gy J cc own n0) {j : Fin 4} {i mL : Nat} {x : Int32} {L' : List (Nat × Value)} (hd : decode cc pc = .ok (.istore_n j, 1)) (hi : (j : Nat) = i) (hn : Jn J = mL) (hm : i < mL) (hL : (i, .int x) :: L.filter (fun q => !(q.1 == i) && !(q.1 + 1 == i && q.2.category == 2)) = L') (k : Y J n ck sk (pc + 1) L' S C) : Y J n ck sk pc L (.int x :: S) C := by
  obtain ⟨p, l, e, R, s, m, args, below, meth, c, G, Q, nL, cs⟩ := J
  obtain ⟨⟨hx, hb, hml, hown, hts, hKF, hHF, hcs⟩, hlin, hs0, hao⟩ := id g
  intro H locs ls hP hS hl
  exact lv_istore_n hx hb hd hi hl (Nat.lt_of_lt_of_eq hm (show mL = nL from hn.symm)) hL (fun ls' hl' => k H locs ls' hP hS hl')
theorem y_astore_n (g : Gy J cc own n0) {j : Fin 4} {i mL : Nat} {x : Nat} {L' : List (Nat × Value)} (hd : decode cc pc = .ok (.astore_n j, 1)) (hi : (j : Nat) = i) (hn : Jn J = mL) (hm : i < mL) (hL : (i, .ref x) :: L.filter (fun q => !(q.1 == i) && !(q.1 + 1 == i && q.2.category == 2)) = L') (k : Y J n ck sk (pc + 1) L' S C) : Y J n ck sk pc L (.ref x :: S) C := by
  obtain ⟨p, l, e, R, s, m, args, below, meth, c, G, Q, nL, cs⟩ := J
  obtain ⟨⟨hx, hb, hml, hown, hts, hKF, hHF, hcs⟩, hlin, hs0, hao⟩ := id g
  intro H locs ls hP hS hl
  exact lv_astore_n hx hb hd hi hl (Nat.lt_of_lt_of_eq hm (show mL = nL from hn.symm)) hL (fun ls' hl' => k H locs ls' hP hS hl')
theorem y_iinc (g : Gy J cc own n0) {i mL : Nat} {z : Int} {x v : Int32} {L' : List (Nat × Value)} (q : Nat) (hd : decode cc pc = .ok (.iinc i z, 3)) (hq : L[q]? = some (i, .int x)) (hv : x + Int32.ofInt z = v) (hn : Jn J = mL) (hm : i < mL) (hL : (i, .int v) :: L.filter (fun q => !(q.1 == i) && !(q.1 + 1 == i && q.2.category == 2)) = L') (k : Y J n ck sk (pc + 3) L' S C) : Y J n ck sk pc L S C := by
  obtain ⟨p, l, e, R, s, m, args, below, meth, c, G, Q, nL, cs⟩ := J
  obtain ⟨⟨hx, hb, hml, hown, hts, hKF, hHF, hcs⟩, hlin, hs0, hao⟩ := id g
  intro H locs ls hP hS hl
  exact lv_iinc hx hb hd hl hq hv (Nat.lt_of_lt_of_eq hm (show mL = nL from hn.symm)) hL (fun ls' hl' => k H locs ls' hP hS hl')
theorem y_goto (g : Gy J cc own n0) {off : Int} (tgt : Nat) (hd : decode cc pc = .ok (.goto off, 3)) (ht : (pc : Int) + off = (tgt : Int)) (k : Y J n ck sk tgt L S C) : Y J n ck sk pc L S C := by
  obtain ⟨p, l, e, R, s, m, args, below, meth, c, G, Q, nL, cs⟩ := J
  obtain ⟨⟨hx, hb, hml, hown, hts, hKF, hHF, hcs⟩, hlin, hs0, hao⟩ := id g
  intro H locs ls hP hS hl
  exact lv_goto hx hb hd ht (k H locs ls hP hS hl)
theorem y_ge_t (g : Gy J cc own n0) {x y : Int32} {off : Int} (tgt : Nat) (hd : decode cc pc = .ok (.if_icmp .ge off, 3)) (ht : (pc : Int) + off = (tgt : Int)) (h : y ≤ x) (k : Y J n ck sk tgt L S C) : Y J n ck sk pc L (.int y :: .int x :: S) C := by
  obtain ⟨p, l, e, R, s, m, args, below, meth, c, G, Q, nL, cs⟩ := J
  obtain ⟨⟨hx, hb, hml, hown, hts, hKF, hHF, hcs⟩, hlin, hs0, hao⟩ := id g
  intro H locs ls hP hS hl
  exact lv_icmp_ge hx hb hd ht (fun _ => k H locs ls hP hS hl) (fun q => absurd h q)
theorem y_ge_f (g : Gy J cc own n0) {x y : Int32} {off : Int} (tgt : Nat) (hd : decode cc pc = .ok (.if_icmp .ge off, 3)) (ht : (pc : Int) + off = (tgt : Int)) (h : ¬ y ≤ x) (k : Y J n ck sk (pc + 3) L S C) : Y J n ck sk pc L (.int y :: .int x :: S) C := by
  obtain ⟨p, l, e, R, s, m, args, below, meth, c, G, Q, nL, cs⟩ := J
  obtain ⟨⟨hx, hb, hml, hown, hts, hKF, hHF, hcs⟩, hlin, hs0, hao⟩ := id g
  intro H locs ls hP hS hl
  exact lv_icmp_ge hx hb hd ht (fun q => absurd q h) (fun _ => k H locs ls hP hS hl)
theorem y_objI (g : Gy J cc own n0) {idx x fr lo : Nat} (hR : (JR J).frames = fr ∧ (JR J).locals = lo) (hlk : Cond.methodLink own idx objectInit ∈ okT) (hin : Cond.instanceMethod objectInit ∈ okT) (hcd : Cond.code objectInit ⟨#[0xb1]⟩ 1 none ∈ okT) (hfr : 1 ≤ fr) (hlo : (S.map fun v => v.category).sum + 12 ≤ lo) (hd : decode cc pc = .ok (.invokespecial idx, 3)) (k : Y J n ck sk (pc + 3) L S C) : Y J n ck sk pc L (.ref x :: S) C := by
  obtain ⟨rfl, rfl⟩ := hR
  obtain ⟨p, l, e, R, s, m, args, below, meth, c, G, Q, nL, cs⟩ := J
  obtain ⟨⟨hx, hb, hml, hown, hts, hKF, hHF, hcs⟩, hlin, hs0, hao⟩ := id g
  intro H locs ls hP hS hl
  exact W.objInit hx hb hown (hts _ hlk) (hts _ hin) (hts _ hcd) rfl (by rw [hml]; exact hl.1) rfl hd hfr (by show 2 * 0 + _ + 12 ≤ _; rw [Nat.mul_zero, Nat.zero_add]; exact hlo) (k H locs ls hP hS hl)
theorem y_new_int (g : Gy J cc own n0) {i : Int32} {N rc rs : Nat} (hn : n0 + ck = n) (hNT : n < NT) (hRc : (JR J).cells = rc ∧ (JR J).slots = rs) (harr : Cond.arrayClass .int ∈ okT) (h0 : ¬ i < 0) (hN : i.toNatClampNeg = N) (hby : N * componentBytes .int ≤ 536870912) (hc1 : ck + 1 ≤ rc) (hc2 : sk + N ≤ rs) (hd : decode cc pc = .ok (.newarray .int, 2)) (k : Y J (n + 1) (ck + 1) (sk + N) (pc + 2) L (.ref (rh (JG J) n) :: S) (upC C n (.inl (cA (JG J) .int, (N, .inl (fun _ => 0)))))) : Y J n ck sk pc L (.int i :: S) C := by
  obtain ⟨rfl, rfl⟩ := hRc
  obtain ⟨p, l, e, R, s, m, args, below, meth, c, G, Q, nL, cs⟩ := J
  obtain ⟨⟨hx, hb, hml, hown, hts, hKF, hHF, hcs⟩, hlin, hs0, hao⟩ := id g
  intro H locs ls hP hS hl
  intro T hT X0
  have hz := y_size X0 hT hP hS hs0 hlin hn (by omega)
  have hfind : s.vm.findClass ("[" ++ (newarray.typeOf .int).toString) = some (cA G .int) := (hKF.2.1.2 0 (cA G .int, .int) rfl).2
  refine va_newaK (atype := .int) hx hb (hts _ harr) (g := F0 m pc ls (.int i :: S)) rfl hd rfl h0 hN hby hc1 hc2 hz (fun H1 c1 e1 z1 o1 hA hf => ?_) T hT X0
  obtain rfl := Option.some.inj (hf.symm.trans hfind)
  have hr : rh G n = bs G + n := hlin n hNT
  have hk : ∀ (k : Nat) (x : Nat × va_E), (wc G n C)[k]? = some x → H1[x.1]? = H[x.1]? := fun k x hx => o1 x.1 (by have := (hP k x hx).lt; omega)
  have hP1 : va_P (gD G) vwCl (wc G n C ++ [(rh G n, .inl (cA G .int, (N, .inl (fun _ => 0))))]) H1 := (hP.kept hk).app (fun j x hx => by
    have hj : j < 1 := (List.getElem?_eq_some_iff.mp hx).1
    rw [show j = 0 by omega] at hx
    cases hx
    show H1[rh G n]? = _
    rw [hr]
    exact e1)
  rw [wc_push] at hP1
  have h := k H1 locs ls hP1 ⟨Nat.le_trans hS.1 (by omega), fun x h1 h2 => (o1 x (by have := hS.1; omega)).trans (hS.2.1 x h1 h2), hS.2.2⟩ hl
  rw [show rh (JG (p, l, e, R, s, m, args, below, meth, c, G, Q, nL, cs)) n = bs G + n from hr] at h
  exact h
theorem y_new_long (g : Gy J cc own n0) {i : Int32} {N rc rs : Nat} (hn : n0 + ck = n) (hNT : n < NT) (hRc : (JR J).cells = rc ∧ (JR J).slots = rs) (harr : Cond.arrayClass .long ∈ okT) (h0 : ¬ i < 0) (hN : i.toNatClampNeg = N) (hby : N * componentBytes .long ≤ 536870912) (hc1 : ck + 1 ≤ rc) (hc2 : sk + N ≤ rs) (hd : decode cc pc = .ok (.newarray .long, 2)) (k : Y J (n + 1) (ck + 1) (sk + N) (pc + 2) L (.ref (rh (JG J) n) :: S) (upC C n (.inl (cA (JG J) .long, (N, .inr (.inl (fun _ => 0))))))) : Y J n ck sk pc L (.int i :: S) C := by
  obtain ⟨rfl, rfl⟩ := hRc
  obtain ⟨p, l, e, R, s, m, args, below, meth, c, G, Q, nL, cs⟩ := J
  obtain ⟨⟨hx, hb, hml, hown, hts, hKF, hHF, hcs⟩, hlin, hs0, hao⟩ := id g
  intro H locs ls hP hS hl
  intro T hT X0
  have hz := y_size X0 hT hP hS hs0 hlin hn (by omega)
  have hfind : s.vm.findClass ("[" ++ (newarray.typeOf .long).toString) = some (cA G .long) := (hKF.2.1.2 1 (cA G .long, .long) rfl).2
  refine va_newaK (atype := .long) hx hb (hts _ harr) (g := F0 m pc ls (.int i :: S)) rfl hd rfl h0 hN hby hc1 hc2 hz (fun H1 c1 e1 z1 o1 hA hf => ?_) T hT X0
  obtain rfl := Option.some.inj (hf.symm.trans hfind)
  have hr : rh G n = bs G + n := hlin n hNT
  have hk : ∀ (k : Nat) (x : Nat × va_E), (wc G n C)[k]? = some x → H1[x.1]? = H[x.1]? := fun k x hx => o1 x.1 (by have := (hP k x hx).lt; omega)
  have hP1 : va_P (gD G) vwCl (wc G n C ++ [(rh G n, .inl (cA G .long, (N, .inr (.inl (fun _ => 0)))))]) H1 := (hP.kept hk).app (fun j x hx => by
    have hj : j < 1 := (List.getElem?_eq_some_iff.mp hx).1
    rw [show j = 0 by omega] at hx
    cases hx
    show H1[rh G n]? = _
    rw [hr]
    exact e1)
  rw [wc_push] at hP1
  have h := k H1 locs ls hP1 ⟨Nat.le_trans hS.1 (by omega), fun x h1 h2 => (o1 x (by have := hS.1; omega)).trans (hS.2.1 x h1 h2), hS.2.2⟩ hl
  rw [show rh (JG (p, l, e, R, s, m, args, below, meth, c, G, Q, nL, cs)) n = bs G + n from hr] at h
  exact h
theorem y_new_byte (g : Gy J cc own n0) {i : Int32} {N rc rs : Nat} (hn : n0 + ck = n) (hNT : n < NT) (hRc : (JR J).cells = rc ∧ (JR J).slots = rs) (harr : Cond.arrayClass .byte ∈ okT) (h0 : ¬ i < 0) (hN : i.toNatClampNeg = N) (hby : N * componentBytes .byte ≤ 536870912) (hc1 : ck + 1 ≤ rc) (hc2 : sk + N ≤ rs) (hd : decode cc pc = .ok (.newarray .byte, 2)) (k : Y J (n + 1) (ck + 1) (sk + N) (pc + 2) L (.ref (rh (JG J) n) :: S) (upC C n (.inl (cA (JG J) .byte, (N, .inl (fun _ => 0)))))) : Y J n ck sk pc L (.int i :: S) C := by
  obtain ⟨rfl, rfl⟩ := hRc
  obtain ⟨p, l, e, R, s, m, args, below, meth, c, G, Q, nL, cs⟩ := J
  obtain ⟨⟨hx, hb, hml, hown, hts, hKF, hHF, hcs⟩, hlin, hs0, hao⟩ := id g
  intro H locs ls hP hS hl
  intro T hT X0
  have hz := y_size X0 hT hP hS hs0 hlin hn (by omega)
  have hfind : s.vm.findClass ("[" ++ (newarray.typeOf .byte).toString) = some (cA G .byte) := (hKF.2.1.2 2 (cA G .byte, .byte) rfl).2
  refine va_newaK (atype := .byte) hx hb (hts _ harr) (g := F0 m pc ls (.int i :: S)) rfl hd rfl h0 hN hby hc1 hc2 hz (fun H1 c1 e1 z1 o1 hA hf => ?_) T hT X0
  obtain rfl := Option.some.inj (hf.symm.trans hfind)
  have hr : rh G n = bs G + n := hlin n hNT
  have hk : ∀ (k : Nat) (x : Nat × va_E), (wc G n C)[k]? = some x → H1[x.1]? = H[x.1]? := fun k x hx => o1 x.1 (by have := (hP k x hx).lt; omega)
  have hP1 : va_P (gD G) vwCl (wc G n C ++ [(rh G n, .inl (cA G .byte, (N, .inl (fun _ => 0))))]) H1 := (hP.kept hk).app (fun j x hx => by
    have hj : j < 1 := (List.getElem?_eq_some_iff.mp hx).1
    rw [show j = 0 by omega] at hx
    cases hx
    show H1[rh G n]? = _
    rw [hr]
    exact e1)
  rw [wc_push] at hP1
  have h := k H1 locs ls hP1 ⟨Nat.le_trans hS.1 (by omega), fun x h1 h2 => (o1 x (by have := hS.1; omega)).trans (hS.2.1 x h1 h2), hS.2.2⟩ hl
  rw [show rh (JG (p, l, e, R, s, m, args, below, meth, c, G, Q, nL, cs)) n = bs G + n from hr] at h
  exact h
theorem y_new_boolean (g : Gy J cc own n0) {i : Int32} {N rc rs : Nat} (hn : n0 + ck = n) (hNT : n < NT) (hRc : (JR J).cells = rc ∧ (JR J).slots = rs) (harr : Cond.arrayClass .boolean ∈ okT) (h0 : ¬ i < 0) (hN : i.toNatClampNeg = N) (hby : N * componentBytes .boolean ≤ 536870912) (hc1 : ck + 1 ≤ rc) (hc2 : sk + N ≤ rs) (hd : decode cc pc = .ok (.newarray .boolean, 2)) (k : Y J (n + 1) (ck + 1) (sk + N) (pc + 2) L (.ref (rh (JG J) n) :: S) (upC C n (.inl (cA (JG J) .boolean, (N, .inl (fun _ => 0)))))) : Y J n ck sk pc L (.int i :: S) C := by
  obtain ⟨rfl, rfl⟩ := hRc
  obtain ⟨p, l, e, R, s, m, args, below, meth, c, G, Q, nL, cs⟩ := J
  obtain ⟨⟨hx, hb, hml, hown, hts, hKF, hHF, hcs⟩, hlin, hs0, hao⟩ := id g
  intro H locs ls hP hS hl
  intro T hT X0
  have hz := y_size X0 hT hP hS hs0 hlin hn (by omega)
  have hfind : s.vm.findClass ("[" ++ (newarray.typeOf .boolean).toString) = some (cA G .boolean) := (hKF.2.1.2 3 (cA G .boolean, .boolean) rfl).2
  refine va_newaK (atype := .boolean) hx hb (hts _ harr) (g := F0 m pc ls (.int i :: S)) rfl hd rfl h0 hN hby hc1 hc2 hz (fun H1 c1 e1 z1 o1 hA hf => ?_) T hT X0
  obtain rfl := Option.some.inj (hf.symm.trans hfind)
  have hr : rh G n = bs G + n := hlin n hNT
  have hk : ∀ (k : Nat) (x : Nat × va_E), (wc G n C)[k]? = some x → H1[x.1]? = H[x.1]? := fun k x hx => o1 x.1 (by have := (hP k x hx).lt; omega)
  have hP1 : va_P (gD G) vwCl (wc G n C ++ [(rh G n, .inl (cA G .boolean, (N, .inl (fun _ => 0))))]) H1 := (hP.kept hk).app (fun j x hx => by
    have hj : j < 1 := (List.getElem?_eq_some_iff.mp hx).1
    rw [show j = 0 by omega] at hx
    cases hx
    show H1[rh G n]? = _
    rw [hr]
    exact e1)
  rw [wc_push] at hP1
  have h := k H1 locs ls hP1 ⟨Nat.le_trans hS.1 (by omega), fun x h1 h2 => (o1 x (by have := hS.1; omega)).trans (hS.2.1 x h1 h2), hS.2.2⟩ hl
  rw [show rh (JG (p, l, e, R, s, m, args, below, meth, c, G, Q, nL, cs)) n = bs G + n from hr] at h
  exact h
theorem y_anew (g : Gy J cc own n0) {i : Int32} {Cn : String} {N rc rs idx : Nat} (t0 : Nat) (hty : ∀ G', (tyL G')[t0]? = some (cA G' (.object Cn), .object Cn)) (hn : n0 + ck = n) (hNT : n < NT) (hRc : (JR J).cells = rc ∧ (JR J).slots = rs) (hcl : Cond.classLink own idx Cn ∈ okT) (hov : ∀ U, AOs U → va_AO Cn U) (h0 : ¬ i < 0) (hN : i.toNatClampNeg = N) (hby : N * 4 ≤ 536870912) (hc1 : ck + 1 ≤ rc) (hc2 : sk + N ≤ rs) (hd : decode cc pc = .ok (.anewarray idx, 3)) (k : Y J (n + 1) (ck + 1) (sk + N) (pc + 3) L (.ref (rh (JG J) n) :: S) (upC C n (.inl (cA (JG J) (.object Cn), (N, .inr (.inr (.inr (.inr (fun _ => none))))))))) : Y J n ck sk pc L (.int i :: S) C := by
  obtain ⟨rfl, rfl⟩ := hRc
  subst hN
  obtain ⟨p, l, e, R, s, m, args, below, meth, c, G, Q, nL, cs⟩ := J
  obtain ⟨⟨hx, hb, hml, hown, hts, hKF, hHF, hcs⟩, hlin, hs0, hao⟩ := id g
  intro H locs ls hP hS hl
  intro T hT X0
  have hz := y_size X0 hT hP hS hs0 hlin hn (by omega)
  obtain ⟨kA0, comp0, q1, q2, q3, hfind⟩ : va_RA s (cA G (.object Cn)) (.object Cn) := (hKF.2.1.2 t0 _ (hty G)).2
  refine W.anew hx hb hown (hts _ hcl) (va_AO.use (hov _ hao)) (g := F0 m pc ls (.int i :: S)) rfl hd rfl h0 hby hc1 hc2 (fun c1 kA comp f1 f2 f3 f4 => ?_) T hT X0
  obtain rfl := Option.some.inj (f1.symm.trans hfind)
  generalize hH1 : H.push ({ cls := cA G (.object Cn), slots := Array.replicate i.toNatClampNeg .null, vm := .none } : Cell) = H1
  have z1 : H1.size = H.size + 1 := by rw [← hH1, Array.size_push]
  have e1 : H1[H.size]? = some (arrV (cA G (.object Cn)) i.toNatClampNeg (fun _ => .null)) := by rw [← hH1, Array.getElem?_push_size, ← arrV_new]
  have o1 : ∀ q : Nat, q < H.size → H1[q]? = H[q]? := fun q hq => by rw [← hH1, Array.getElem?_push, if_neg (Nat.ne_of_lt hq)]
  have hr : rh G n = bs G + n := hlin n hNT
  have hk : ∀ (k : Nat) (x : Nat × va_E), (wc G n C)[k]? = some x → H1[x.1]? = H[x.1]? := fun k x hx => o1 x.1 ((hP k x hx).lt)
  have hP1 : va_P (gD G) vwCl (wc G n C ++ [(rh G n, .inl (cA G (.object Cn), (i.toNatClampNeg, .inr (.inr (.inr (.inr (fun _ => none)))))))]) H1 := (hP.kept hk).app (fun j x hx => by
    have hj : j < 1 := (List.getElem?_eq_some_iff.mp hx).1
    rw [show j = 0 by omega] at hx
    cases hx
    show H1[rh G n]? = _
    rw [hr, ← hz]
    exact e1)
  rw [wc_push] at hP1
  have h := k H1 locs ls hP1 ⟨Nat.le_trans hS.1 (by omega), fun x h1 h2 => (o1 x (Nat.lt_of_lt_of_le h1 hS.1)).trans (hS.2.1 x h1 h2), hS.2.2⟩ hl
  rw [show rh (JG (p, l, e, R, s, m, args, below, meth, c, G, Q, nL, cs)) n = H.size from hr.trans hz.symm] at h
  exact h
theorem y_new (g : Gy J cc own n0) {Cn : String} {T1 : u_T} {tf : Nat → FieldType} {ci rc rs idx : Nat} {fs : List Value} (hcs : CLS ci Cn T1 tf) (hn : n0 + ck = n) (hNT : n < NT) (hRc : (JR J).cells = rc ∧ (JR J).slots = rs) (hcl : Cond.classLink own idx Cn ∈ okT) (hinst : Cond.instantiable Cn (nfs ci) ∈ okT) (hini : Cond.initialized Cn ∈ okT) (hfs : ∀ j, j < nfs ci → defaultValue (tf j) = vp_V fs j) (hc1 : ck + 1 ≤ rc) (hc2 : sk + nfs ci ≤ rs) (hd : decode cc pc = .ok (.new idx, 3)) (k : Y J (n + 1) (ck + 1) (sk + nfs ci) (pc + 3) L (.ref (rh (JG J) n) :: S) (upC C n (.inr (ci, fs)))) : Y J n ck sk pc L S C := by
  obtain ⟨rfl, rfl⟩ := hRc
  obtain ⟨hc, hin, hty, hnm⟩ := hcs
  obtain ⟨p, l, e, R, s, m, args, below, meth, c, G, Q, nL, cs⟩ := J
  obtain ⟨⟨hx, hb, hml, hown, hts, hKF, hHF, hcs⟩, hlin, hs0, hao⟩ := id g
  intro H locs ls hP hS hl
  intro T hT X0
  have hz := y_size X0 hT hP hS hs0 hlin hn (by omega)
  have hKn := hKF.2.1.1 ci _ hc
  refine W.newcK hx hb hown (hts _ hcl) (hts _ hinst) (hts _ hini) (g := F0 m pc ls S) rfl hd hc1 hc2 hKn.2.1 hz (fun H1 kC hkC e1 z1 o1 => ?_) T hT X0
  have hr : rh G n = bs G + n := hlin n hNT
  have hk : ∀ (k : Nat) (x : Nat × va_E), (wc G n C)[k]? = some x → H1[x.1]? = H[x.1]? := fun k x hx => o1 x.1 (by have := (hP k x hx).lt; omega)
  have hP1 : va_P (gD G) vwCl (wc G n C ++ [(rh G n, .inr (ci, fs))]) H1 := (hP.kept hk).app (fun j x hx => by
    have hj : j < 1 := (List.getElem?_eq_some_iff.mp hx).1
    rw [show j = 0 by omega] at hx
    cases hx
    rw [← hr] at e1
    exact ⟨_, hc, (u_born tf hts hin hKn hkC e1 hty).to hfs⟩)
  rw [wc_push] at hP1
  have h := k H1 locs ls hP1 ⟨Nat.le_trans hS.1 (by omega), fun x h1 h2 => (o1 x (by have := hS.1; omega)).trans (hS.2.1 x h1 h2), hS.2.2⟩ hl
  rw [show rh (JG (p, l, e, R, s, m, args, below, meth, c, G, Q, nL, cs)) n = bs G + n from hr] at h
  exact h
def IN (J : JT) : Prop := match J with
  | (_, _, _, _, _, _, _, _, meth, _, _, _, _, _) => meth.name = "<init>"
def FY (own : String) (idx ci k : Nat) (ty : FieldType) (fin : Bool) : Prop := ∃ T tf, CLS ci own T tf ∧ k < nfs ci ∧ (T k).2.2.2 = fin ∧ (T k).1 = own ∧ tf k = ty ∧ Cond.fieldLink own idx (T k).1 (T k).2.1 (T k).2.2.1 ∈ okT
theorem y_put (g : Gy J cc own n0) (hI : IN J) {fin : Bool} {idx ci kf t : Nat} {v : Value} {ty : FieldType} {fs : List Value} (f : FY own idx ci kf ty fin) (hN : n ≤ NT) (ht : t < n) (hC : C t = .inr (ci, fs)) (hl2 : kf < fs.length) (hn : narrow ty v = v) (hfit : fits ty v = true) (hd : decode cc pc = .ok (.putfield idx, 3)) (k : Y J n ck sk (pc + 3) L S (upC C t (.inr (ci, fs.set kf v)))) : Y J n ck sk pc L (v :: .ref (rh (JG J) t) :: S) C := by
  obtain ⟨p, l, e, R, s, m, args, below, meth, c, G, Q, nL, cs⟩ := J
  obtain ⟨⟨hx, hb, hml, hown, hts, hKF, hHF, hcs⟩, hlin, hs0, hao⟩ := id g
  intro H locs ls hP hS hl
  obtain ⟨T, tf, ⟨hc, hw, hp, hnm⟩, hk, hfin, hdc, hty, hlk⟩ := f
  have he : (wc G n C)[t]? = some (rh G t, .inr (ci, fs)) := by rw [wc_get ht, hC]
  have hpk : parseFieldDescriptor (T kf).2.2.1 = some ty := by rw [hp kf hk, hty]
  cases fin with
  | false => exact va_put hx hb (Ts := okT) hts hw tf hp hnm hown hKF.2.1 hP (wc_D hKF.1 hN) hS t he hc kf hk (hts _ hlk) (fun _ h => h) hfin hpk hn hfit hl2 hd (fun H1 locs1 hP1 _ hS1 => k H1 locs1 ls (by rw [← wc_set]; exact hP1) hS1 hl)
  | true => exact va_putF hx hb (Ts := okT) hts hw tf hp hnm hown hKF.2.1 hP (wc_D hKF.1 hN) hS t he hc kf hk (hts _ hlk) (fun _ h => h) hfin hI hdc hpk hn hfit hl2 hd (fun H1 locs1 hP1 _ hS1 => k H1 locs1 ls (by rw [← wc_set]; exact hP1) hS1 hl)
theorem y_get (g : Gy J cc own n0) {idx ci kf t : Nat} {v : Value} {fs : List Value} (f : FL own idx ci kf) (ht : t < n) (hC : C t = .inr (ci, fs)) (hv : fs[kf]? = some v) (hd : decode cc pc = .ok (.getfield idx, 3)) (k : Y J n ck sk (pc + 3) L (v :: S) C) : Y J n ck sk pc L (.ref (rh (JG J) t) :: S) C := by
  obtain ⟨p, l, e, R, s, m, args, below, meth, c, G, Q, nL, cs⟩ := J
  obtain ⟨⟨hx, hb, hml, hown, hts, hKF, hHF, hcs⟩, hlin, hs0, hao⟩ := id g
  intro H locs ls hP hS hl
  obtain ⟨C1, T, tf, ⟨hc, hw, hp, hn⟩, hk, hlk⟩ := f
  have he : (wc G n C)[t]? = some (rh G t, .inr (ci, fs)) := by rw [wc_get ht, hC]
  rcases hlk with hlk | ⟨host, hlk⟩
  · exact va_get hx hb (Ts := okT) hts hw hown hKF.2.1 hP t he hc kf hk (hts _ hlk) (fun _ h => h) hv hd (k H locs ls hP hS hl)
  · exact va_getN hx hb (Ts := okT) hts hw hown hKF.2.1 hP t he hc kf hk (va_Nw.use rfl (hKF.2.2.1 _ hlk)) (fun _ h => h) hv hd (k H locs ls hP hS hl)
theorem y_aast (g : Gy J cc own n0) {i : Int32} {t z N ci : Nat} {r : vw_C} {fs : List Value} {f : Nat → Option Nat} (t0 : Nat) (hty : ∀ G', (tyL G')[t0]? = some (cA G' (.object r.1), .object r.1)) (hN : n ≤ NT) (ht : t < n) (hz : z < n) (hC : C t = .inl (cA (JG J) (.object r.1), (N, .inr (.inr (.inr (.inr f)))))) (hCz : C z = .inr (ci, fs)) (hc : vwCl[ci]? = some r) (hin : vp_in i N) (hd : decode cc pc = .ok (.aastore, 1)) (k : Y J n ck sk (pc + 1) L S (upC C t (.inl (cA (JG J) (.object r.1), (N, .inr (.inr (.inr (.inr (va_up f i.toNatClampNeg (some (rh (JG J) z))))))))))) : Y J n ck sk pc L (.ref (rh (JG J) z) :: .int i :: .ref (rh (JG J) t) :: S) C := by
  obtain ⟨p, l, e, R, s, m, args, below, meth, c, G, Q, nL, cs⟩ := J
  obtain ⟨⟨hx, hb, hml, hown, hts, hKF, hHF, hcs⟩, hlin, hs0, hao⟩ := id g
  intro H locs ls hP hS hl
  have he : (wc G n C)[t]? = some (rh G t, .inl (cA G (.object r.1), (N, .inr (.inr (.inr (.inr f)))))) := by rw [wc_get ht, hC]; rfl
  have hez : (wc G n C)[z]? = some (rh G z, .inr (ci, fs)) := by rw [wc_get hz, hCz]
  exact va_astq hx hb hKF.2.1 hP (wc_D hKF.1 hN) hS t t0 z ci he (hty G) hez hc hin hd (fun H1 locs1 hP1 _ hS1 => k H1 locs1 ls (by rw [← wc_set]; exact hP1) hS1 hl)
theorem y_iast (g : Gy J cc own n0) {i x : Int32} {t N : Nat} {f : Nat → Int32} (hN : n ≤ NT) (ht : t < n) (hC : C t = .inl (cA (JG J) .int, (N, .inl f))) (hin : vp_in i N) (hd : decode cc pc = .ok (.iastore, 1)) (k : Y J n ck sk (pc + 1) L S (upC C t (.inl (cA (JG J) .int, (N, .inl (upd f i.toNatClampNeg x)))))) : Y J n ck sk pc L (.int x :: .int i :: .ref (rh (JG J) t) :: S) C := by
  obtain ⟨p, l, e, R, s, m, args, below, meth, c, G, Q, nL, cs⟩ := J
  obtain ⟨⟨hx, hb, hml, hown, hts, hKF, hHF, hcs⟩, hlin, hs0, hao⟩ := id g
  intro H locs ls hP hS hl
  have he : (wc G n C)[t]? = some (rh G t, .inl (cA G .int, (N, .inl f))) := by rw [wc_get ht, hC]; rfl
  exact va_iast hx hb hKF.2.1 hP (wc_D hKF.1 hN) hS t 0 he rfl hin hd (fun H1 locs1 hP1 _ hS1 => k H1 locs1 ls (by rw [← wc_set]; exact hP1) hS1 hl)
theorem upC_upC {C : Cm} {t : Nat} {e e2 : va_E} : upC (upC C t e) t e2 = upC C t e2 := by
  funext j
  unfold upC
  by_cases h : j = t
  · rw [if_pos h, if_pos h]
  · rw [if_neg h, if_neg h, if_neg h]
theorem upC_sw {C : Cm} {t u : Nat} {e e2 : va_E} (h : u ≠ t) : upC (upC C t e) u e2 = upC (upC C u e2) t e := by
  funext j
  unfold upC
  by_cases h1 : j = u
  · rw [if_pos h1, if_neg (by omega), if_pos h1]
  · rw [if_neg h1]
    by_cases h2 : j = t
    · rw [if_pos h2, if_pos h2]
    · rw [if_neg h2, if_neg h2, if_neg h1]
theorem upC_same {C : Cm} {t : Nat} {e : va_E} : upC C t e t = e := if_pos rfl
theorem y_putN {D : Cm} (g : Gy J cc own n0) (hI : IN J) {fin : Bool} {idx ci kf t : Nat} {v : Value} {ty : FieldType} {fs fs2 : List Value} (f : FY own idx ci kf ty fin) (hN : n ≤ NT) (ht : t < n) (hf : fs.set kf v = fs2) (hl2 : kf < fs.length) (hn : narrow ty v = v) (hfit : fits ty v = true) (hd : decode cc pc = .ok (.putfield idx, 3)) (k : Y J n ck sk (pc + 3) L S (upC D t (.inr (ci, fs2)))) : Y J n ck sk pc L (v :: .ref (rh (JG J) t) :: S) (upC D t (.inr (ci, fs))) := by
  subst hf
  exact y_put g hI f hN ht upC_same hl2 hn hfit hd (by rw [upC_upC]; exact k)
theorem y_swN {D : Cm} {t u : Nat} {e e2 : va_E} (h : u ≠ t) (k : Y J n ck sk pc L S (upC (upC D u e2) t e)) : Y J n ck sk pc L S (upC (upC D t e) u e2) := by
  rw [upC_sw h]
  exact k
/-- the world at a constructor's start and end -/
def PC (G : GT) (n : Nat) (C : Cm) (U : State) : Prop := KF G U ∧ HF G U U.heap ∧ va_P (gD G) vwCl (wc G n C) U.heap ∧ U.heap.size = bs G + n ∧ AOs U
def QC (G : GT) (n : Nat) (C : Cm) : Array Value → State → Outcome → State → Prop := fun _ st o t => o = .returned none ∧ PC G n C t ∧ st.heap.size ≤ t.heap.size ∧ ∀ q : Nat, q < bs G → t.heap[q]? = st.heap[q]?
def OkC (l : Launch) (G : GT) (y : MethodName) (c : ByteArray) (mL fr lo mc ms h n : Nat) (C : Cm) (n' : Nat) (C' : Cm) : Prop := Met l y (.code y c mL none :: okT) { frames := fr, cells := mc, slots := ms, locals := lo } (fun a U => a = #[.ref (rh G h)] ∧ PC G n C U) (QC G n' C') mc ms (fun q => bs G ≤ q)
def RtC (J : JT) (n : Nat) (C : Cm) (mc ms : Nat) : Prop := match J with
  | (_, _, _, _, s, _, args, below, meth, _, G, Q, _, _) => meth.sig.returnType = none ∧ meth.locks = false ∧ Q none dM = MQ below (QC G n C) args s mc ms (fun q => bs G ≤ q)
theorem y_vret (g : Gy J cc own n0) (hr : RtC J n C ck sk) (hn : n0 + ck = n) (hN : n ≤ NT) (hd : decode cc pc = .ok (.return_, 1)) : Y J n ck sk pc L [] C := by
  obtain ⟨p, l, e, R, s, m, args, below, meth, c, G, Q, nL, cs⟩ := J
  obtain ⟨⟨hx, hb, hml, hown, hts, hKF, hHF, hcs⟩, hlin, hs0, hao⟩ := id g
  intro H locs ls hP hS hl
  obtain ⟨h1, h2, h3⟩ := hr
  intro T hT X0
  have hz := y_size X0 hT hP hS hs0 hlin hn hN
  rw [h3]
  refine W.vret hx hb h1 (fun t ht hW => ?_) hS.2.2 hd h2 T hT X0
  have hq : ∀ q : Nat, q < bs G → H[q]? = s.heap[q]? := fun q h => hS.2.1 q (Nat.lt_of_lt_of_le h hHF.2.2.2.2.2) (Nat.not_le.mpr h)
  refine ⟨rfl, ⟨hKF.warm hW, ?_, by rw [ht]; exact hP, by rw [ht]; exact hz, hao.moved hW.alike⟩, by rw [ht]; exact hS.1, fun q h => by rw [ht]; exact hq q h⟩
  rw [ht]
  exact (hHF.moved hW.alike).kept (Nat.le_trans hHF.2.2.2.2.2 hS.1) hq
theorem pc_blind {G : GT} {n h : Nat} {C : Cm} : FrameBlind (fun a U => a = #[.ref (rh G h)] ∧ PC G n C U) := by
  intro a U g mk ⟨h1, h2, h3, h4, h5, h6⟩
  exact ⟨h1, KF.same (u := U) (U := U.calling g mk a) rfl h2, h3.moved (U := U.calling g mk a) (Vm.Alike.refl U.vm), h4, h5, h6.moved (U := U.calling g mk a) (Vm.Alike.refl U.vm)⟩
theorem y_callI (g : Gy J cc own n0) {y : MethodName} {c2 : ByteArray} {mL2 fr lo mc ms idx h n' fr1 lo1 rc rs : Nat} {C' : Cm} (mv : MV y c2 mL2 none 0) (hnm : y.name = "<init>") (hin : Cond.instanceMethod y ∈ okT) (hlk : Cond.methodLink own idx y ∈ okT ∨ ∃ host, Cond.methodLinkNest own idx y host ∈ nestW) (hok : OkC (Jl J) (JG J) y c2 mL2 fr lo mc ms h n C n' C') (hn : n0 + ck = n) (hN : n ≤ NT) (hR : (JR J).frames = fr1 ∧ (JR J).locals = lo1) (hRc : (JR J).cells = rc ∧ (JR J).slots = rs) (hroom : fr + 1 ≤ fr1 ∧ 8 + (mL2 + 11) + lo ≤ lo1) (hc1 : ck + mc ≤ rc) (hc2 : sk + ms ≤ rs) (hcat : (S.map fun v => v.category).sum ≤ 8) (hd : decode cc pc = .ok (.invokespecial idx, 3)) (k : Y J n' (ck + mc) (sk + ms) (pc + 3) L S C') : Y J n ck sk pc L (.ref (rh (JG J) h) :: S) C := by
  obtain ⟨rfl, rfl⟩ := hR
  obtain ⟨rfl, rfl⟩ := hRc
  obtain ⟨p, l, e, R, s, m, args, below, meth, c, G, Q, nL, cs⟩ := J
  obtain ⟨⟨hx, hb, hml, hown, hts, hKF, hHF, hcs⟩, hlin, hs0, hao⟩ := id g
  intro H locs ls hP hS hl
  intro T hT X0
  have hz := y_size X0 hT hP hS hs0 hlin hn hN
  have hM : OkC l G y c2 mL2 fr lo mc ms h n C n' C' := hok
  obtain ⟨m1, m2, m3, m4⟩ := mv
  have hq0 : ∀ q : Nat, q < bs G → H[q]? = s.heap[q]? := fun q h => hS.2.1 q (Nat.lt_of_lt_of_le h hHF.2.2.2.2.2) (Nat.not_le.mpr h)
  have hlen : ∀ sig, parseMethodDescriptor y.desc = some sig → 0 = sig.parameters.length := fun sig h => by
    rw [h] at m4
    exact (Option.some.inj m4).symm
  have hpre : PreS s H (fun a U => a = #[.ref (rh G h)] ∧ PC G n C U) [.ref (rh G h)] := ⟨pc_blind, fun U hU hW => ⟨rfl, hKF.warm hW, by rw [hU]; exact (hHF.moved hW.alike).kept (Nat.le_trans hHF.2.2.2.2.2 hS.1) hq0, by rw [hU]; exact hP, by rw [hU]; exact hz, hao.moved hW.alike⟩⟩
  have fin : va_Run p l e R s m args below meth c H locs ck sk mc ms (F0 m pc ls (.ref (rh G h) :: S)) S (QC G n' C' #[.ref (rh G h)]) (fun q => bs G ≤ q) := by
    rcases hlk with hlk | ⟨host, hlk⟩
    · exact va_runI (As := []) (nL := nL) (n := 0) (Ts := okT) ⟨hx, hb, hml, hown, hts⟩ hM ⟨⟨rfl, rfl, hroom.1, hroom.2, ws_of hts m1, List.mem_cons_self, hts _ m1, hts _ m2, m3, hlen, hts _ hlk⟩, hnm, hts _ hin⟩ hpre rfl rfl hl.1 rfl (lv_room (rest := []) (pc := 0) (m := m) (ls := ls) hcat) hd ⟨hc1, hc2⟩
    · exact va_runIN (host := host) (As := []) (nL := nL) (n := 0) (Ts := okT) ⟨hx, hb, hml, hown, hts⟩ hM ⟨⟨⟨rfl, rfl, hroom.1, hroom.2, ws_of hts m1, List.mem_cons_self⟩, hts _ m1, hts _ m2, m3, hlen, va_Nw.use rfl (hKF.2.2.1 _ hlk)⟩, hnm, hts _ hin⟩ hpre rfl rfl hl.1 rfl (lv_room (rest := []) (pc := 0) (m := m) (ls := ls) hcat) hd ⟨hc1, hc2⟩
  obtain ⟨v, st₀, t, T', L1, h0, X', hL, e1, e2, ⟨hv, ⟨-, -, hP1, -, -⟩, hsz, hq⟩, hst⟩ := fin T hT X0
  cases hv
  rw [h0] at hsz hq
  have hS' : va_S (Ar G) s.heap T'.heap (locs ++ L1) := by
    refine ⟨by rw [e1]; exact Nat.le_trans hS.1 hsz, fun q h1 h2 => ?_, fun q hq1 => ?_⟩
    · rw [e1, hq q (Nat.lt_of_not_le h2)]
      exact hS.2.1 q h1 h2
    · rcases List.mem_append.mp hq1 with h | h
      · exact hS.2.2 q h
      · exact hL q h
  obtain ⟨t2, a1, b1⟩ := k T'.heap (locs ++ L1) ls (by rw [e1]; exact hP1) hS' hl T' rfl X'
  exact ⟨t2, hst t2 a1, b1⟩
theorem OkC.ofY {l : Launch} {G : GT} {y : MethodName} {c : ByteArray} {mL fr lo mc ms h n n' : Nat} {C C' : Cm} (hy : plainName y.cls = true) (hnm : y.name = "<init>") (hmL : 1 ≤ mL) (hG : Lin G) (body : ∀ J : JT, Gy J c y.cls n → IN J → RtC J n' C' mc ms → JG J = G → Jl J = l → ((JR J).frames = fr ∧ (JR J).locals = lo) → ((JR J).cells = mc ∧ (JR J).slots = ms) → Jn J = mL → Y J n 0 0 0 [(0, .ref (rh G h))] [] C) : OkC l G y c mL fr lo mc ms h n C n' C' := by
  refine Met.ofW (cc := c) (maxL := mL) (ret := none) hy rfl ?_
  intro p e s m args below meth c1 s₁ B hml hpre
  obtain ⟨rfl, hKF, hHF, hP, hz, hao⟩ := hpre
  have hts0 := atoms_spec (ws := Cond.code y c mL none :: okT) B.pre
  have hts : ∀ w ∈ okT, w.before #[.ref (rh G h)] s = true := fun w hw => hts0 w (List.mem_cons_of_mem _ hw)
  have hY := body (p, l, e, { frames := fr, cells := mc, slots := ms, locals := lo }, s, m, #[.ref (rh G h)], below, meth, c1, G, fun _ _ => MQ below (QC G n' C') #[.ref (rh G h)] s mc ms (fun q => bs G ≤ q), mL, (0, 0)) ⟨⟨B.exec, B.bytes, hml, findClass_of_methodNamed B.named, hts, hKF, hHF, Nat.zero_le _, Nat.zero_le _⟩, hG, hz, hao⟩ ((name_of_methodNamed B.named B.method).1.trans hnm) ⟨B.returns, B.notSynchronized, rfl⟩ rfl rfl ⟨rfl, rfl⟩ ⟨rfl, rfl⟩ rfl
  have hl := lv_entry ([.ref (rh G h)]) (n := mL) hmL
  rw [show (#[.ref (rh G h)] : Array Value) = ([.ref (rh G h)] : List Value).toArray from rfl, lg_entry_eq]
  exact hY s.heap [] _ hP va_S.rf hl
end YS
