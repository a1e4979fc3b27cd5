/-! answers, calls, a method's contract out of X -/
def bd {β γ : Type} (F : Option (β × Mem)) (K : β → Mem → Option γ) : Option γ := F.bind fun q => K q.1 q.2
theorem bd_some {β γ : Type} (b : β) (M1 : Mem) (K : β → Mem → Option γ) : bd (some (b, M1)) K = K b M1 := rfl
theorem bd_none {β γ : Type} (K : β → Mem → Option γ) : bd (none : Option (β × Mem)) K = none := rfl
def QR (G : GT) (r : Option Value) (M : Mem) : Array Value → State → Outcome → State → Prop := fun _ st o t => o = .returned (r.map (cv G)) ∧ PIC G M t ∧ st.heap.size ≤ t.heap.size ∧ ∀ q : Nat, q < bs G → t.heap[q]? = st.heap[q]?
theorem Ok_eq {l : Launch} {G : GT} {y : MethodName} {c : ByteArray} {mL : Nat} {ret : Option FieldType} {fr lo : Nat} {args : List Value} {M : Mem} {r : Option Value} {M' : Mem} : Ok l G y c mL ret fr lo args M r M' = Met l y (.code y c mL ret :: okT) { frames := fr, cells := 0, slots := 0, locals := lo } (fun a U => a = (args.map (cv G)).toArray ∧ PIC G M U) (QR G r M') 0 0 (fun q => bs G ≤ q) := rfl
def Rt (J : JT) (ret : Option FieldType) : Prop := match J with
  | (_, _, _, _, s, _, args, below, meth, _, G, Q, _, cs) => cs = (0, 0) ∧ meth.sig.returnType = ret ∧ meth.locks = false ∧ Q = fun r M' => MQ below (QR G r M') args s 0 0 (fun q => bs G ≤ q)
theorem qr_fin {G : GT} {s t : State} {H : Heap} {locs : List Loc} {M : Mem} {r : Option Value} {args : Array Value} (hKF : KF G s) (hHF : HF G s s.heap) (hP : va_P (gD G) vwCl (wl G NT M) H) (hS : va_S (Ar G) s.heap H locs) (ht : t.heap = H) (hW : s.WarmedH t.vm) : QR G r M args s (.returned (r.map (cv G))) t := by
  have hq : ∀ q : Nat, q < bs G → H[q]? = s.heap[q]? := fun q h => hS.2.1 q (Nat.lt_of_lt_of_le h hHF.2.2.2.2.2) (Nat.not_le.mpr h)
  refine ⟨rfl, ⟨hKF.warm hW, ?_, by rw [ht]; exact hP⟩, by rw [ht]; exact hS.1, fun q h => by rw [ht]; exact hq q h⟩
  rw [ht]
  exact (hHF.moved hW.alike).kept (Nat.le_trans hHF.2.2.2.2.2 hS.1) hq
section XC
variable {γ : Type} {J : JT} {pj : γ → Option Value × Mem} {E : Option γ} {pc : Nat} {L : List (Nat × Value)} {S : List Value} {M : Mem} {cc : ByteArray} {own : String}
theorem x_iret (g : Gd J cc own) {ty : FieldType} (hr : Rt J (some ty)) {a : γ} {v : Int32} (hn : narrow ty (.int v) = .int v) (ha : pj a = (some (.int v), M)) (hd : decode cc pc = .ok (.ireturn, 1)) : X J pj (some a) pc L [.int v] M := by
  obtain ⟨p, l, e, R, s, m, args, below, meth, c, G, Q, nL, cs⟩ := J
  obtain ⟨hx, hb, hml, hown, hts, hKF, hHF, hcs⟩ := id g
  obtain ⟨rfl, h1, h2, h3⟩ := hr
  intro a' hE H locs ls hP hS hl
  cases hE
  rw [h3, ha]
  exact W.zret hx hb h1 hn (fun t ht hW => qr_fin hKF hHF hP hS ht hW) hS.2.2 hd h2
theorem x_lret (g : Gd J cc own) (hr : Rt J (some .long)) {a : γ} {v : Int64} (ha : pj a = (some (.long v), M)) (hd : decode cc pc = .ok (.lreturn, 1)) : X J pj (some a) pc L [.long v] M := by
  obtain ⟨p, l, e, R, s, m, args, below, meth, c, G, Q, nL, cs⟩ := J
  obtain ⟨hx, hb, hml, hown, hts, hKF, hHF, hcs⟩ := id g
  obtain ⟨rfl, h1, h2, h3⟩ := hr
  intro a' hE H locs ls hP hS hl
  cases hE
  rw [h3, ha]
  exact W.lret hx hb h1 (fun t ht hW => qr_fin hKF hHF hP hS ht hW) hS.2.2 hd h2
theorem x_vret (g : Gd J cc own) (hr : Rt J none) {a : γ} (ha : pj a = (none, M)) (hd : decode cc pc = .ok (.return_, 1)) : X J pj (some a) pc L [] M := by
  obtain ⟨p, l, e, R, s, m, args, below, meth, c, G, Q, nL, cs⟩ := J
  obtain ⟨hx, hb, hml, hown, hts, hKF, hHF, hcs⟩ := id g
  obtain ⟨rfl, h1, h2, h3⟩ := hr
  intro a' hE H locs ls hP hS hl
  cases hE
  rw [h3, ha]
  exact W.vret hx hb h1 (fun t ht hW => qr_fin (r := none) hKF hHF hP hS ht hW) hS.2.2 hd h2
/-! calls -/
def MV (y : MethodName) (c : ByteArray) (mL : Nat) (ret : Option FieldType) (np : Nat) : Prop := Cond.code y c mL ret ∈ okT ∧ Cond.initialized y.cls ∈ okT ∧ (y.cls ≠ "java/lang/invoke/MethodHandle" ∧ y.cls ≠ "java/lang/invoke/VarHandle") ∧ (parseMethodDescriptor y.desc).map (fun d => d.parameters.length) = some np
def MI (y : MethodName) (ci : Nat) : Prop := Cond.instanceMethod y ∈ okT ∧ Cond.selects y.cls y y ∈ okT ∧ ∃ T N, vwCl[ci]? = some (y.cls, T, N)
theorem pic_blind {G : GT} {M : Mem} {As : List Value} : FrameBlind (fun a U => a = (As.map (cv G)).toArray ∧ PIC G M U) := by
  intro a U g mk ⟨h1, h2, h3, h4⟩
  exact ⟨h1, KF.same (u := U) (U := U.calling g mk a) rfl h2, h3.moved (U := U.calling g mk a) (Vm.Alike.refl U.vm), h4⟩
theorem run_on {p : Program} {l : Launch} {e : Env} {R : Room} {s : State} {m : MethodId} {args : Array Value} {below : List Frame} {meth : Method} {c : Code} {G : GT} {Q : Option Value → Mem → State → Prop} {nL : Nat} {cs : Nat × Nat} {H : Heap} {locs : List Loc} {ls : Array Slot} {st : List Value} {r : Option Value} {M1 : Mem} {a : γ} {a0 : Array Value}
    (hKF : KF G s) (hHF : HF G s s.heap) (hS : va_S (Ar G) s.heap H locs) (hl : lv_has ls nL (L.map fun q => (q.1, cv G q.2))) (hE : E = some a)
    (hr : va_Run p l e R s m args below meth c H locs cs.1 cs.2 0 0 (F0 m pc ls st) (S.map (cv G)) (QR G r M1 a0) (fun q => bs G ≤ q))
    (k : X (p, l, e, R, s, m, args, below, meth, c, G, Q, nL, cs) pj E (pc + 3) L (r.toList ++ S) M1) : W p l e R s m args below meth c H locs cs.1 cs.2 (Q (pj a).1 (pj a).2) (F0 m pc ls st) := by
  intro T hT X0
  obtain ⟨v, st₀, t, T', L1, h0, X', hL, e1, e2, ⟨hv, hPI, hsz, hq⟩, hst⟩ := hr T hT X0
  cases hv
  obtain ⟨-, -, hP⟩ := hPI
  rw [h0] at hsz hq
  have hS' : va_S (Ar G) s.heap T'.heap (locs ++ L1) := by
    refine ⟨by rw [e1]; exact Nat.le_trans hS.1 hsz, fun q h1 h2 => ?_, fun q hq1 => ?_⟩
    · rw [e1, hq q (Nat.lt_of_not_le h2)]
      exact hS.2.1 q h1 h2
    · rcases List.mem_append.mp hq1 with h | h
      · exact hS.2.2 q h
      · exact hL q h
  have hst2 : (r.toList ++ S).map (cv G) = (r.map (cv G)).toList ++ S.map (cv G) := by cases r <;> rfl
  obtain ⟨t2, a1, b1⟩ := k a hE T'.heap (locs ++ L1) ls (by rw [e1]; exact hP) hS' hl T' rfl X'
  refine ⟨t2, hst t2 ?_, b1⟩
  rw [hst2] at a1
  exact a1
theorem ws_of {s : State} {args : Array Value} (hts : ∀ w ∈ okT, w.before args s = true) {y : MethodName} {c : ByteArray} {mL : Nat} {ret : Option FieldType} (hc : Cond.code y c mL ret ∈ okT) : ∀ w ∈ (Cond.code y c mL ret :: okT), ∀ (a' : Array Value) (U : State), s.WarmedH U.vm → w.before a' U = true := by
  intro w hw a' U hW
  have hw' : w ∈ okT := (List.mem_cons.mp hw).elim (fun h => h ▸ hc) id
  exact word_at hW (ok_good hw') (hts w hw')
theorem x_callV {β : Type} {F : Option β} {K : β → Option γ} (pj2 : β → Option Value × Mem) (g : Gd J cc own) {y : MethodName} {c2 : ByteArray} {mL2 : Nat} {ret2 : Option FieldType} {fr lo np ci idx t : Nat} {As st : List Value} (mv : MV y c2 mL2 ret2 np) (mi : MI y ci) (hlk : Cond.methodLink own idx y ∈ okT) (ho : isO ci t) (hok : ∀ b, F = some b → Ok (Jl J) (JG J) y c2 mL2 ret2 fr lo (.ref t :: As) M (pj2 b).1 (pj2 b).2) (hnp : As.length = np) (hst : st = As.reverse ++ .ref t :: S) {fr1 lo1 : Nat} (hR : (JR J).frames = fr1 ∧ (JR J).locals = lo1) (hroom : fr + 1 ≤ fr1 ∧ 8 + (mL2 + 11) + lo ≤ lo1) (hcat : (S.map fun v => v.category).sum ≤ 8) (hd : decode cc pc = .ok (.invokevirtual idx, 3)) (k : ∀ b, X J pj (K b) (pc + 3) L ((pj2 b).1.toList ++ S) (pj2 b).2) : X J pj (F.bind K) pc L st M := by
  subst hst
  obtain ⟨rfl, rfl⟩ := hR
  obtain ⟨p, l, e, R, s, m, args, below, meth, c, G, Q, nL, cs⟩ := J
  obtain ⟨hx, hb, hml, hown, hts, hKF, hHF, hcs⟩ := id g
  intro a hE H locs ls hP hS hl
  cases hF : F with
  | none => rw [hF] at hE; cases hE
  | some b =>
    rw [hF] at hE
    have hM : Ok l G y c2 mL2 ret2 fr lo (.ref t :: As) M (pj2 b).1 (pj2 b).2 := hok b hF
    rw [Ok_eq] at hM
    obtain ⟨m1, m2, m3, m4⟩ := mv
    obtain ⟨i1, i2, Tc, Nc, i3⟩ := mi
    have he : (wl G NT M)[t]? = some (rh G t, .inr (ci, fvs G M t ci)) := by rw [wl_get (shp_lt ho), el_O ho]
    have hq0 : ∀ q : Nat, q < bs G → H[q]? = s.heap[q]? := fun q h => hS.2.1 q (Nat.lt_of_lt_of_le h hHF.2.2.2.2.2) (Nat.not_le.mpr h)
    refine run_on hKF hHF hS hl hE (a0 := (Value.ref (rh G t) :: As.map (cv G)).toArray) (va_runV (As := As.map (cv G)) (C := y.cls) (nL := nL) (n := np) (Ts := okT) ⟨hx, hb, hml, hown, hts⟩ hM ⟨⟨rfl, rfl, hroom.1, hroom.2, ws_of hts m1, List.mem_cons_self, hts _ m1, hts _ m2, m3, fun sig h => ?_, hts _ hlk⟩, hts _ i1, hts _ i2⟩ ⟨pic_blind, va_recv hKF.2.1 hP i3 he, fun U hU hW => ⟨by simp [cv], hKF.warm hW, ?_, by rw [hU]; exact hP⟩⟩ rfl (by rw [List.length_map]; exact hnp) hl.1 (by simp [cv]) (lv_room (rest := []) (pc := 0) (m := m) (ls := ls) ?_) hd ⟨hcs.1, hcs.2⟩) (k b)
    · rw [h] at m4
      exact (Option.some.inj m4).symm
    · rw [hU]
      exact (hHF.moved hW.alike).kept (Nat.le_trans hHF.2.2.2.2.2 hS.1) hq0
    · rw [List.map_map]
      refine Nat.le_trans (Nat.le_of_eq ?_) hcat
      congr 2
      funext v
      exact cv_cat G v
theorem x_callS {β : Type} {F : Option β} {K : β → Option γ} (pj2 : β → Option Value × Mem) (g : Gd J cc own) {y : MethodName} {c2 : ByteArray} {mL2 : Nat} {ret2 : Option FieldType} {fr lo np idx : Nat} {As st : List Value} (mv : MV y c2 mL2 ret2 np) (mi : Cond.static y ∈ okT) (hlk : Cond.methodLink own idx y ∈ okT ∨ ∃ host, Cond.methodLinkNest own idx y host ∈ nestW) (hok : ∀ b, F = some b → Ok (Jl J) (JG J) y c2 mL2 ret2 fr lo As M (pj2 b).1 (pj2 b).2) (hnp : As.length = np) (hst : st = As.reverse ++ S) {fr1 lo1 : Nat} (hR : (JR J).frames = fr1 ∧ (JR J).locals = lo1) (hroom : fr + 1 ≤ fr1 ∧ 8 + (mL2 + 11) + lo ≤ lo1) (hcat : (S.map fun v => v.category).sum ≤ 8) (hd : decode cc pc = .ok (.invokestatic idx, 3)) (k : ∀ b, X J pj (K b) (pc + 3) L ((pj2 b).1.toList ++ S) (pj2 b).2) : X J pj (F.bind K) pc L st M := by
  subst hst
  obtain ⟨rfl, rfl⟩ := hR
  obtain ⟨p, l, e, R, s, m, args, below, meth, c, G, Q, nL, cs⟩ := J
  obtain ⟨hx, hb, hml, hown, hts, hKF, hHF, hcs⟩ := id g
  intro a hE H locs ls hP hS hl
  cases hF : F with
  | none => rw [hF] at hE; cases hE
  | some b =>
    rw [hF] at hE
    have hM : Ok l G y c2 mL2 ret2 fr lo As M (pj2 b).1 (pj2 b).2 := hok b hF
    rw [Ok_eq] at hM
    obtain ⟨m1, m2, m3, m4⟩ := mv
    have hq0 : ∀ q : Nat, q < bs G → H[q]? = s.heap[q]? := fun q h => hS.2.1 q (Nat.lt_of_lt_of_le h hHF.2.2.2.2.2) (Nat.not_le.mpr h)
    have hlen : ∀ sig, parseMethodDescriptor y.desc = some sig → np = sig.parameters.length := fun sig h => by
      rw [h] at m4
      exact (Option.some.inj m4).symm
    have hpre : PreS s H (fun a U => a = (As.map (cv G)).toArray ∧ PIC G M U) (As.map (cv G)) := ⟨pic_blind, fun U hU hW => ⟨rfl, hKF.warm hW, by rw [hU]; exact (hHF.moved hW.alike).kept (Nat.le_trans hHF.2.2.2.2.2 hS.1) hq0, by rw [hU]; exact hP⟩⟩
    have hcat2 : ((S.map (cv G)).map fun v => v.category).sum ≤ 8 := by
      rw [List.map_map]
      refine Nat.le_trans (Nat.le_of_eq ?_) hcat
      congr 2
      funext v
      exact cv_cat G v
    rcases hlk with hlk | ⟨host, hlk⟩
    · exact run_on hKF hHF hS hl hE (a0 := (As.map (cv G)).toArray) (va_runS (As := As.map (cv G)) (nL := nL) (n := np) (Ts := okT) ⟨hx, hb, hml, hown, hts⟩ hM ⟨⟨rfl, rfl, hroom.1, hroom.2, ws_of hts m1, List.mem_cons_self, hts _ m1, hts _ m2, m3, hlen, hts _ hlk⟩, hts _ mi⟩ hpre rfl (by rw [List.length_map]; exact hnp) hl.1 (by simp) (lv_room (rest := []) (pc := 0) (m := m) (ls := ls) hcat2) hd ⟨hcs.1, hcs.2⟩) (k b)
    · exact run_on hKF hHF hS hl hE (a0 := (As.map (cv G)).toArray) (va_runSN (host := host) (As := As.map (cv G)) (nL := nL) (n := np) (Ts := okT) ⟨hx, hb, hml, hown, hts⟩ hM ⟨⟨⟨rfl, rfl, hroom.1, hroom.2, ws_of hts m1, List.mem_cons_self⟩, hts _ m1, hts _ m2, m3, hlen, va_Nw.use rfl (hKF.2.2.1 _ hlk)⟩, hts _ mi, trivial⟩ hpre rfl (by rw [List.length_map]; exact hnp) hl.1 (by simp) (lv_room (rest := []) (pc := 0) (m := m) (ls := ls) hcat2) hd ⟨hcs.1, hcs.2⟩) (k b)
theorem x_callVi {F : Option (Int32 × Mem)} {K : Int32 → Mem → Option γ} (g : Gd J cc own) {y : MethodName} {c2 : ByteArray} {mL2 : Nat} {ret2 : Option FieldType} {fr lo np ci idx t : Nat} {As st : List Value} (mv : MV y c2 mL2 ret2 np) (mi : MI y ci) (hlk : Cond.methodLink own idx y ∈ okT) (ho : isO ci t) (hok : ∀ b M1, F = some (b, M1) → Ok (Jl J) (JG J) y c2 mL2 ret2 fr lo (.ref t :: As) M (some (.int b)) M1) (hnp : As.length = np) (hst : st = As.reverse ++ .ref t :: S) {fr1 lo1 : Nat} (hR : (JR J).frames = fr1 ∧ (JR J).locals = lo1) (hroom : fr + 1 ≤ fr1 ∧ 8 + (mL2 + 11) + lo ≤ lo1) (hcat : (S.map fun v => v.category).sum ≤ 8) (hd : decode cc pc = .ok (.invokevirtual idx, 3)) (k : ∀ (b : Int32) (M1 : Mem), X J pj (K b M1) (pc + 3) L (.int b :: S) M1) : X J pj (bd F K) pc L st M := x_callV (K := fun q => K q.1 q.2) (fun q : Int32 × Mem => (some (.int q.1), q.2)) g mv mi hlk ho (fun q h => hok q.1 q.2 h) hnp hst hR hroom hcat hd (fun q => k q.1 q.2)
theorem x_callVip {F : Option Int32} {K : Int32 → Option γ} (g : Gd J cc own) {y : MethodName} {c2 : ByteArray} {mL2 : Nat} {ret2 : Option FieldType} {fr lo np ci idx t : Nat} {As st : List Value} (mv : MV y c2 mL2 ret2 np) (mi : MI y ci) (hlk : Cond.methodLink own idx y ∈ okT) (ho : isO ci t) (hok : ∀ b, F = some b → Ok (Jl J) (JG J) y c2 mL2 ret2 fr lo (.ref t :: As) M (some (.int b)) M) (hnp : As.length = np) (hst : st = As.reverse ++ .ref t :: S) {fr1 lo1 : Nat} (hR : (JR J).frames = fr1 ∧ (JR J).locals = lo1) (hroom : fr + 1 ≤ fr1 ∧ 8 + (mL2 + 11) + lo ≤ lo1) (hcat : (S.map fun v => v.category).sum ≤ 8) (hd : decode cc pc = .ok (.invokevirtual idx, 3)) (k : ∀ b : Int32, X J pj (K b) (pc + 3) L (.int b :: S) M) : X J pj (F.bind K) pc L st M := x_callV (fun b => (some (.int b), M)) g mv mi hlk ho hok hnp hst hR hroom hcat hd k
theorem x_callVl {F : Option (Int64 × Mem)} {K : Int64 → Mem → Option γ} (g : Gd J cc own) {y : MethodName} {c2 : ByteArray} {mL2 : Nat} {ret2 : Option FieldType} {fr lo np ci idx t : Nat} {As st : List Value} (mv : MV y c2 mL2 ret2 np) (mi : MI y ci) (hlk : Cond.methodLink own idx y ∈ okT) (ho : isO ci t) (hok : ∀ b M1, F = some (b, M1) → Ok (Jl J) (JG J) y c2 mL2 ret2 fr lo (.ref t :: As) M (some (.long b)) M1) (hnp : As.length = np) (hst : st = As.reverse ++ .ref t :: S) {fr1 lo1 : Nat} (hR : (JR J).frames = fr1 ∧ (JR J).locals = lo1) (hroom : fr + 1 ≤ fr1 ∧ 8 + (mL2 + 11) + lo ≤ lo1) (hcat : (S.map fun v => v.category).sum ≤ 8) (hd : decode cc pc = .ok (.invokevirtual idx, 3)) (k : ∀ (b : Int64) (M1 : Mem), X J pj (K b M1) (pc + 3) L (.long b :: S) M1) : X J pj (bd F K) pc L st M := x_callV (K := fun q => K q.1 q.2) (fun q : Int64 × Mem => (some (.long q.1), q.2)) g mv mi hlk ho (fun q h => hok q.1 q.2 h) hnp hst hR hroom hcat hd (fun q => k q.1 q.2)
theorem x_callVlp {F : Option Int64} {K : Int64 → Option γ} (g : Gd J cc own) {y : MethodName} {c2 : ByteArray} {mL2 : Nat} {ret2 : Option FieldType} {fr lo np ci idx t : Nat} {As st : List Value} (mv : MV y c2 mL2 ret2 np) (mi : MI y ci) (hlk : Cond.methodLink own idx y ∈ okT) (ho : isO ci t) (hok : ∀ b, F = some b → Ok (Jl J) (JG J) y c2 mL2 ret2 fr lo (.ref t :: As) M (some (.long b)) M) (hnp : As.length = np) (hst : st = As.reverse ++ .ref t :: S) {fr1 lo1 : Nat} (hR : (JR J).frames = fr1 ∧ (JR J).locals = lo1) (hroom : fr + 1 ≤ fr1 ∧ 8 + (mL2 + 11) + lo ≤ lo1) (hcat : (S.map fun v => v.category).sum ≤ 8) (hd : decode cc pc = .ok (.invokevirtual idx, 3)) (k : ∀ b : Int64, X J pj (K b) (pc + 3) L (.long b :: S) M) : X J pj (F.bind K) pc L st M := x_callV (fun b => (some (.long b), M)) g mv mi hlk ho hok hnp hst hR hroom hcat hd k
theorem x_callVv {F : Option (Unit × Mem)} {K : Unit → Mem → Option γ} (g : Gd J cc own) {y : MethodName} {c2 : ByteArray} {mL2 : Nat} {ret2 : Option FieldType} {fr lo np ci idx t : Nat} {As st : List Value} (mv : MV y c2 mL2 ret2 np) (mi : MI y ci) (hlk : Cond.methodLink own idx y ∈ okT) (ho : isO ci t) (hok : ∀ b M1, F = some (b, M1) → Ok (Jl J) (JG J) y c2 mL2 ret2 fr lo (.ref t :: As) M (none) M1) (hnp : As.length = np) (hst : st = As.reverse ++ .ref t :: S) {fr1 lo1 : Nat} (hR : (JR J).frames = fr1 ∧ (JR J).locals = lo1) (hroom : fr + 1 ≤ fr1 ∧ 8 + (mL2 + 11) + lo ≤ lo1) (hcat : (S.map fun v => v.category).sum ≤ 8) (hd : decode cc pc = .ok (.invokevirtual idx, 3)) (k : ∀ (b : Unit) (M1 : Mem), X J pj (K b M1) (pc + 3) L (S) M1) : X J pj (bd F K) pc L st M := x_callV (K := fun q => K q.1 q.2) (fun q : Unit × Mem => (none, q.2)) g mv mi hlk ho (fun q h => hok q.1 q.2 h) hnp hst hR hroom hcat hd (fun q => k q.1 q.2)
theorem x_callVvp {F : Option Unit} {K : Unit → Option γ} (g : Gd J cc own) {y : MethodName} {c2 : ByteArray} {mL2 : Nat} {ret2 : Option FieldType} {fr lo np ci idx t : Nat} {As st : List Value} (mv : MV y c2 mL2 ret2 np) (mi : MI y ci) (hlk : Cond.methodLink own idx y ∈ okT) (ho : isO ci t) (hok : ∀ b, F = some b → Ok (Jl J) (JG J) y c2 mL2 ret2 fr lo (.ref t :: As) M (none) M) (hnp : As.length = np) (hst : st = As.reverse ++ .ref t :: S) {fr1 lo1 : Nat} (hR : (JR J).frames = fr1 ∧ (JR J).locals = lo1) (hroom : fr + 1 ≤ fr1 ∧ 8 + (mL2 + 11) + lo ≤ lo1) (hcat : (S.map fun v => v.category).sum ≤ 8) (hd : decode cc pc = .ok (.invokevirtual idx, 3)) (k : ∀ b : Unit, X J pj (K b) (pc + 3) L (S) M) : X J pj (F.bind K) pc L st M := x_callV (fun b => (none, M)) g mv mi hlk ho hok hnp hst hR hroom hcat hd k
theorem x_callSi {F : Option (Int32 × Mem)} {K : Int32 → Mem → Option γ} (g : Gd J cc own) {y : MethodName} {c2 : ByteArray} {mL2 : Nat} {ret2 : Option FieldType} {fr lo np idx : Nat} {As st : List Value} (mv : MV y c2 mL2 ret2 np) (mi : Cond.static y ∈ okT) (hlk : Cond.methodLink own idx y ∈ okT ∨ ∃ host, Cond.methodLinkNest own idx y host ∈ nestW) (hok : ∀ b M1, F = some (b, M1) → Ok (Jl J) (JG J) y c2 mL2 ret2 fr lo As M (some (.int b)) M1) (hnp : As.length = np) (hst : st = As.reverse ++ S) {fr1 lo1 : Nat} (hR : (JR J).frames = fr1 ∧ (JR J).locals = lo1) (hroom : fr + 1 ≤ fr1 ∧ 8 + (mL2 + 11) + lo ≤ lo1) (hcat : (S.map fun v => v.category).sum ≤ 8) (hd : decode cc pc = .ok (.invokestatic idx, 3)) (k : ∀ (b : Int32) (M1 : Mem), X J pj (K b M1) (pc + 3) L (.int b :: S) M1) : X J pj (bd F K) pc L st M := x_callS (K := fun q => K q.1 q.2) (fun q : Int32 × Mem => (some (.int q.1), q.2)) g mv mi hlk (fun q h => hok q.1 q.2 h) hnp hst hR hroom hcat hd (fun q => k q.1 q.2)
theorem x_callSip {F : Option Int32} {K : Int32 → Option γ} (g : Gd J cc own) {y : MethodName} {c2 : ByteArray} {mL2 : Nat} {ret2 : Option FieldType} {fr lo np idx : Nat} {As st : List Value} (mv : MV y c2 mL2 ret2 np) (mi : Cond.static y ∈ okT) (hlk : Cond.methodLink own idx y ∈ okT ∨ ∃ host, Cond.methodLinkNest own idx y host ∈ nestW) (hok : ∀ b, F = some b → Ok (Jl J) (JG J) y c2 mL2 ret2 fr lo As M (some (.int b)) M) (hnp : As.length = np) (hst : st = As.reverse ++ S) {fr1 lo1 : Nat} (hR : (JR J).frames = fr1 ∧ (JR J).locals = lo1) (hroom : fr + 1 ≤ fr1 ∧ 8 + (mL2 + 11) + lo ≤ lo1) (hcat : (S.map fun v => v.category).sum ≤ 8) (hd : decode cc pc = .ok (.invokestatic idx, 3)) (k : ∀ b : Int32, X J pj (K b) (pc + 3) L (.int b :: S) M) : X J pj (F.bind K) pc L st M := x_callS (fun b => (some (.int b), M)) g mv mi hlk hok hnp hst hR hroom hcat hd k
theorem x_callSl {F : Option (Int64 × Mem)} {K : Int64 → Mem → Option γ} (g : Gd J cc own) {y : MethodName} {c2 : ByteArray} {mL2 : Nat} {ret2 : Option FieldType} {fr lo np idx : Nat} {As st : List Value} (mv : MV y c2 mL2 ret2 np) (mi : Cond.static y ∈ okT) (hlk : Cond.methodLink own idx y ∈ okT ∨ ∃ host, Cond.methodLinkNest own idx y host ∈ nestW) (hok : ∀ b M1, F = some (b, M1) → Ok (Jl J) (JG J) y c2 mL2 ret2 fr lo As M (some (.long b)) M1) (hnp : As.length = np) (hst : st = As.reverse ++ S) {fr1 lo1 : Nat} (hR : (JR J).frames = fr1 ∧ (JR J).locals = lo1) (hroom : fr + 1 ≤ fr1 ∧ 8 + (mL2 + 11) + lo ≤ lo1) (hcat : (S.map fun v => v.category).sum ≤ 8) (hd : decode cc pc = .ok (.invokestatic idx, 3)) (k : ∀ (b : Int64) (M1 : Mem), X J pj (K b M1) (pc + 3) L (.long b :: S) M1) : X J pj (bd F K) pc L st M := x_callS (K := fun q => K q.1 q.2) (fun q : Int64 × Mem => (some (.long q.1), q.2)) g mv mi hlk (fun q h => hok q.1 q.2 h) hnp hst hR hroom hcat hd (fun q => k q.1 q.2)
theorem x_callSlp {F : Option Int64} {K : Int64 → Option γ} (g : Gd J cc own) {y : MethodName} {c2 : ByteArray} {mL2 : Nat} {ret2 : Option FieldType} {fr lo np idx : Nat} {As st : List Value} (mv : MV y c2 mL2 ret2 np) (mi : Cond.static y ∈ okT) (hlk : Cond.methodLink own idx y ∈ okT ∨ ∃ host, Cond.methodLinkNest own idx y host ∈ nestW) (hok : ∀ b, F = some b → Ok (Jl J) (JG J) y c2 mL2 ret2 fr lo As M (some (.long b)) M) (hnp : As.length = np) (hst : st = As.reverse ++ S) {fr1 lo1 : Nat} (hR : (JR J).frames = fr1 ∧ (JR J).locals = lo1) (hroom : fr + 1 ≤ fr1 ∧ 8 + (mL2 + 11) + lo ≤ lo1) (hcat : (S.map fun v => v.category).sum ≤ 8) (hd : decode cc pc = .ok (.invokestatic idx, 3)) (k : ∀ b : Int64, X J pj (K b) (pc + 3) L (.long b :: S) M) : X J pj (F.bind K) pc L st M := x_callS (fun b => (some (.long b), M)) g mv mi hlk hok hnp hst hR hroom hcat hd k
theorem x_callSv {F : Option (Unit × Mem)} {K : Unit → Mem → Option γ} (g : Gd J cc own) {y : MethodName} {c2 : ByteArray} {mL2 : Nat} {ret2 : Option FieldType} {fr lo np idx : Nat} {As st : List Value} (mv : MV y c2 mL2 ret2 np) (mi : Cond.static y ∈ okT) (hlk : Cond.methodLink own idx y ∈ okT ∨ ∃ host, Cond.methodLinkNest own idx y host ∈ nestW) (hok : ∀ b M1, F = some (b, M1) → Ok (Jl J) (JG J) y c2 mL2 ret2 fr lo As M (none) M1) (hnp : As.length = np) (hst : st = As.reverse ++ S) {fr1 lo1 : Nat} (hR : (JR J).frames = fr1 ∧ (JR J).locals = lo1) (hroom : fr + 1 ≤ fr1 ∧ 8 + (mL2 + 11) + lo ≤ lo1) (hcat : (S.map fun v => v.category).sum ≤ 8) (hd : decode cc pc = .ok (.invokestatic idx, 3)) (k : ∀ (b : Unit) (M1 : Mem), X J pj (K b M1) (pc + 3) L (S) M1) : X J pj (bd F K) pc L st M := x_callS (K := fun q => K q.1 q.2) (fun q : Unit × Mem => (none, q.2)) g mv mi hlk (fun q h => hok q.1 q.2 h) hnp hst hR hroom hcat hd (fun q => k q.1 q.2)
theorem x_callSvp {F : Option Unit} {K : Unit → Option γ} (g : Gd J cc own) {y : MethodName} {c2 : ByteArray} {mL2 : Nat} {ret2 : Option FieldType} {fr lo np idx : Nat} {As st : List Value} (mv : MV y c2 mL2 ret2 np) (mi : Cond.static y ∈ okT) (hlk : Cond.methodLink own idx y ∈ okT ∨ ∃ host, Cond.methodLinkNest own idx y host ∈ nestW) (hok : ∀ b, F = some b → Ok (Jl J) (JG J) y c2 mL2 ret2 fr lo As M (none) M) (hnp : As.length = np) (hst : st = As.reverse ++ S) {fr1 lo1 : Nat} (hR : (JR J).frames = fr1 ∧ (JR J).locals = lo1) (hroom : fr + 1 ≤ fr1 ∧ 8 + (mL2 + 11) + lo ≤ lo1) (hcat : (S.map fun v => v.category).sum ≤ 8) (hd : decode cc pc = .ok (.invokestatic idx, 3)) (k : ∀ b : Unit, X J pj (K b) (pc + 3) L (S) M) : X J pj (F.bind K) pc L st M := x_callS (fun b => (none, M)) g mv mi hlk hok hnp hst hR hroom hcat hd k
theorem lv_args_cv (G : GT) : ∀ (vs : List Value) (i : Nat), lv_args i (vs.map (cv G)) = (lv_args i vs).map fun q => (q.1, cv G q.2) := by
  intro vs
  induction vs with
  | nil => intro i; rfl
  | cons v vs ih =>
    intro i
    show (i, cv G v) :: lv_args _ _ = (i, cv G v) :: _
    rw [cv_cat, ih]
theorem lg_sl_cv (G : GT) (vs : List Value) : (lg_sl (vs.map (cv G))).length = (lg_sl vs).length := by
  induction vs with
  | nil => rfl
  | cons v vs ih =>
    simp only [lg_sl, List.map_cons, List.flatMap_cons, List.length_append, cv_cat] at ih ⊢
    rw [ih]
    by_cases h : v.category = 2 <;> simp [h]
/-- what has a name -/
def nm {β γ : Type} (v : β) (K : β → γ) : γ := K v
def jn {β γ : Type} (k : β) (f : β → γ) : γ := f k
theorem x_nmM {K : Mem → Option γ} (h : ∀ M1, X J pj (K M1) pc L S M1) : X J pj (nm M K) pc L S M := h M
theorem x_nmI {v : Int32} {K : Int32 → Option γ} (h : ∀ y, X J pj (K y) pc L (.int y :: S) M) : X J pj (nm v K) pc L (.int v :: S) M := h v
theorem x_nmL {v : Int64} {K : Int64 → Option γ} (h : ∀ y, X J pj (K y) pc L (.long y :: S) M) : X J pj (nm v K) pc L (.long v :: S) M := h v
theorem x_jn {β : Type} {k : β} {f : β → Option γ} (P : β → Prop) (hk : P k) (h : ∀ j, P j → X J pj (f j) pc L S M) : X J pj (jn k f) pc L S M := h k hk
theorem nbz {v : Int32} (h : v = 0 ∨ v = 1) : narrow .boolean (.int v) = .int v := by rcases h with rfl | rfl <;> rfl
theorem Ok.ofX {l : Launch} {G : GT} {y : MethodName} {c : ByteArray} {mL : Nat} {ret : Option FieldType} {fr lo : Nat} {As : List Value} {M : Mem} {a : γ} (hy : plainName y.cls = true) (hlen : (lg_sl As).length ≤ mL) (hE : E = some a) (body : ∀ J : JT, Gd J c y.cls → Rt J ret → JG J = G → Jl J = l → ((JR J).frames = fr ∧ (JR J).locals = lo) → Jn J = mL → X J pj E 0 (lv_args 0 As) [] M) : Ok l G y c mL ret fr lo As M (pj a).1 (pj a).2 := by
  rw [Ok_eq]
  refine Met.ofW (cc := c) (maxL := mL) (ret := ret) hy rfl ?_
  intro p e s m args below meth c1 s₁ B hml hpre
  obtain ⟨rfl, hKF, hHF, hP⟩ := hpre
  have hts0 := atoms_spec (ws := Cond.code y c mL ret :: okT) B.pre
  have hts : ∀ w ∈ okT, w.before ((As.map (cv G)).toArray) s = true := fun w hw => hts0 w (List.mem_cons_of_mem _ hw)
  have hX := body (p, l, e, { frames := fr, cells := 0, slots := 0, locals := lo }, s, m, (As.map (cv G)).toArray, below, meth, c1, G, fun r M' => MQ below (QR G r M') (As.map (cv G)).toArray s 0 0 (fun q => bs G ≤ q), mL, (0, 0)) ⟨B.exec, B.bytes, hml, findClass_of_methodNamed B.named, hts, hKF, hHF, Nat.zero_le _, Nat.zero_le _⟩ ⟨rfl, B.returns, B.notSynchronized, rfl⟩ rfl rfl ⟨rfl, rfl⟩ rfl
  have hl := lv_entry (As.map (cv G)) (n := mL) (by rw [lg_sl_cv]; exact hlen)
  rw [lv_args_cv] at hl
  rw [lg_entry_eq]
  exact hX a hE s.heap [] _ hP va_S.rf hl
end XC
