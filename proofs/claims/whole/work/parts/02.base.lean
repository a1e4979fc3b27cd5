/-! the abstract memory of the fixed cells, and what it says of a heap -/
abbrev Mem : Type := (Nat → Nat → Int32) × (Nat → Nat → Int64) × (Nat → Nat → Option Nat)
abbrev GT : Type := va_G × (FieldType → ClassId) × Nat × (Nat → Nat) × Nat × (Nat → Int32)
def gD (G : GT) : va_G := G.1
def cA (G : GT) : FieldType → ClassId := G.2.1
def bs (G : GT) : Nat := G.2.2.1
def rh (G : GT) : Nat → Nat := G.2.2.2.1
def sa (G : GT) (k : Nat) : Nat := rh G (1000 + k)
def xL (G : GT) : Nat := G.2.2.2.2.1
def xS (G : GT) : Nat → Int32 := G.2.2.2.2.2
def AD (G : GT) : Prop := (∀ i j : Nat, i < NT → j < NT → rh G i = rh G j → i = j) ∧ ∀ i : Nat, i < NT → bs G ≤ rh G i
def shp (g : Nat) : Option (Nat ⊕ (FieldType × Nat)) := shpL[g]?
def fkd (ci k : Nat) : Nat := (fkL.getD ci []).getD k 0
def srf (g j : Nat) : Nat := if g = 1 then 78 + 2 * j else if g = 52 then 86 + 20 * j else 100 + 20 * j
def isO (ci g : Nat) : Prop := shp g = some (.inl ci)
def isA (ty : FieldType) (n g : Nat) : Prop := shp g = some (.inr (ty, n))
def fv (G : GT) (M : Mem) (g k : Nat) (kd : Nat) : Value := match kd with
  | 0 => .int (M.1 g k)
  | 1 => .long (M.2.1 g k)
  | 2 => va_rf ((M.2.2 g k).map (rh G))
  | o + 3 => .ref (rh G (g + o))
def nfs (ci : Nat) : Nat := (fkL.getD ci []).length
def fvs (G : GT) (M : Mem) (g ci : Nat) : List Value := (List.range (nfs ci)).map fun k => fv G M g k (fkd ci k)
def av (G : GT) (M : Mem) (g : Nat) (ty : FieldType) : (Nat → Int32) ⊕ (Nat → Int64) ⊕ (Nat → UInt32) ⊕ (Nat → UInt64) ⊕ (Nat → Option Nat) := match ty with
  | .long => .inr (.inl (M.2.1 g))
  | .object _ => .inr (.inr (.inr (.inr fun j => some (rh G (srf g j)))))
  | _ => .inl (M.1 g)
def el (G : GT) (M : Mem) (g : Nat) : va_E := match shp g with
  | some (.inl ci) => .inr (ci, fvs G M g ci)
  | some (.inr (ty, n)) => .inl (cA G ty, (n, av G M g ty))
  | none => .inr (0, [])
def wl (G : GT) (n : Nat) (M : Mem) : va_W := (List.range n).map fun g => (rh G g, el G M g)
theorem wl_get {G : GT} {n : Nat} {M : Mem} {g : Nat} (h : g < n) : (wl G n M)[g]? = some (rh G g, el G M g) := by simp [wl, h]
theorem wl_set {G : GT} {n : Nat} {M M' : Mem} {g : Nat} {e : va_E} (he : el G M' g = e) (ho : ∀ j, j ≠ g → el G M' j = el G M j) : (wl G n M).set g (rh G g, e) = wl G n M' := by
  apply List.ext_getElem?
  intro i
  rw [List.getElem?_set]
  by_cases hi : g = i
  · subst hi
    by_cases hn : g < n
    · simp [wl, hn, he]
    · simp [wl, hn]
  · rw [if_neg hi]
    by_cases hn : i < n
    · rw [wl_get hn, wl_get hn, ho i (fun h => hi h.symm)]
    · simp [wl, hn]
theorem shp_lt {g : Nat} {x : Nat ⊕ (FieldType × Nat)} (h : shp g = some x) : g < NT := by
  have : g < shpL.length := (List.getElem?_eq_some_iff.mp h).1
  exact Nat.lt_of_lt_of_le this (by decide +kernel)
theorem wl_D {G : GT} {M : Mem} (hA : AD G) : va_D (fun q => bs G ≤ q) (wl G NT M) := by
  have key : ∀ (k : Nat) (q : Nat × va_E), (wl G NT M)[k]? = some q → k < NT ∧ q.1 = rh G k := by
    intro k q h
    have hk : k < NT := by
      have := (List.getElem?_eq_some_iff.mp h).1
      simpa [wl] using this
    rw [wl_get hk] at h
    cases h
    exact ⟨hk, rfl⟩
  refine ⟨fun i j p q hi hj hpq => ?_, fun k q h => ?_⟩
  · obtain ⟨a, b⟩ := key i p hi
    obtain ⟨c, d⟩ := key j q hj
    exact hA.1 i j a c (by rw [← b, ← d]; exact hpq)
  · obtain ⟨a, b⟩ := key k q h
    show bs G ≤ q.1
    rw [b]
    exact hA.2 k a
def stI (M : Mem) (g k : Nat) (v : Int32) : Mem := (fun a b => if a = g ∧ b = k then v else M.1 a b, M.2.1, M.2.2)
def stL (M : Mem) (g k : Nat) (v : Int64) : Mem := (M.1, fun a b => if a = g ∧ b = k then v else M.2.1 a b, M.2.2)
def stR (M : Mem) (g k : Nat) (v : Nat) : Mem := (M.1, M.2.1, fun a b => if a = g ∧ b = k then some v else M.2.2 a b)
def cpI (M : Mem) (src dst sp dp n : Nat) : Mem := (fun a b => if a = dst ∧ dp ≤ b ∧ b < dp + n then M.1 src (sp + (b - dp)) else M.1 a b, M.2.1, M.2.2)
def cpL (M : Mem) (src dst sp dp n : Nat) : Mem := (M.1, fun a b => if a = dst ∧ dp ≤ b ∧ b < dp + n then M.2.1 src (sp + (b - dp)) else M.2.1 a b, M.2.2)
theorem stI_1 (M : Mem) (g k : Nat) (v : Int32) (a b : Nat) : (stI M g k v).1 a b = if a = g ∧ b = k then v else M.1 a b := rfl
theorem stI_2 (M : Mem) (g k : Nat) (v : Int32) : (stI M g k v).2 = M.2 := rfl
theorem stL_1 (M : Mem) (g k : Nat) (v : Int64) : (stL M g k v).1 = M.1 := rfl
theorem stL_2 (M : Mem) (g k : Nat) (v : Int64) (a b : Nat) : (stL M g k v).2.1 a b = if a = g ∧ b = k then v else M.2.1 a b := rfl
theorem stL_3 (M : Mem) (g k : Nat) (v : Int64) : (stL M g k v).2.2 = M.2.2 := rfl
theorem stR_1 (M : Mem) (g k : Nat) (v : Nat) : (stR M g k v).1 = M.1 := rfl
theorem stR_2 (M : Mem) (g k : Nat) (v : Nat) : (stR M g k v).2.1 = M.2.1 := rfl
theorem stR_3 (M : Mem) (g k : Nat) (v : Nat) (a b : Nat) : (stR M g k v).2.2 a b = if a = g ∧ b = k then some v else M.2.2 a b := rfl
theorem cpI_1 (M : Mem) (src dst sp dp n : Nat) (a b : Nat) : (cpI M src dst sp dp n).1 a b = if a = dst ∧ dp ≤ b ∧ b < dp + n then M.1 src (sp + (b - dp)) else M.1 a b := rfl
theorem cpI_2 (M : Mem) (src dst sp dp n : Nat) : (cpI M src dst sp dp n).2 = M.2 := rfl
theorem cpL_1 (M : Mem) (src dst sp dp n : Nat) : (cpL M src dst sp dp n).1 = M.1 := rfl
theorem cpL_2 (M : Mem) (src dst sp dp n : Nat) (a b : Nat) : (cpL M src dst sp dp n).2.1 a b = if a = dst ∧ dp ≤ b ∧ b < dp + n then M.2.1 src (sp + (b - dp)) else M.2.1 a b := rfl
theorem cpL_3 (M : Mem) (src dst sp dp n : Nat) : (cpL M src dst sp dp n).2.2 = M.2.2 := rfl
/-! how single changes of the memory change a cell's picture -/
theorem el_off {G : GT} {M M' : Mem} {j : Nat} (h1 : M'.1 j = M.1 j) (h2 : M'.2.1 j = M.2.1 j) (h3 : M'.2.2 j = M.2.2 j) : el G M' j = el G M j := by
  have hf : ∀ ci, fvs G M' j ci = fvs G M j ci := by
    intro ci
    refine List.map_congr_left fun k _ => ?_
    generalize fkd ci k = kd
    match kd with
    | 0 => show Value.int (M'.1 j k) = Value.int (M.1 j k); rw [h1]
    | 1 => show Value.long (M'.2.1 j k) = Value.long (M.2.1 j k); rw [h2]
    | 2 => show va_rf ((M'.2.2 j k).map (rh G)) = va_rf ((M.2.2 j k).map (rh G)); rw [h3]
    | o + 3 => rfl
  have ha : ∀ ty, av G M' j ty = av G M j ty := by
    intro ty
    cases ty <;> simp only [av, h1, h2]
  unfold el
  split <;> simp only [hf, ha]
theorem stI_off {G : GT} {M : Mem} {g k : Nat} {v : Int32} : ∀ j, j ≠ g → el G (stI M g k v) j = el G M j := by
  intro j hj
  refine el_off ?_ rfl rfl
  funext b
  rw [stI_1, if_neg (fun h => hj h.1)]
theorem stL_off {G : GT} {M : Mem} {g k : Nat} {v : Int64} : ∀ j, j ≠ g → el G (stL M g k v) j = el G M j := by
  intro j hj
  refine el_off rfl ?_ rfl
  funext b
  rw [stL_2, if_neg (fun h => hj h.1)]
theorem stR_off {G : GT} {M : Mem} {g k : Nat} {v : Nat} : ∀ j, j ≠ g → el G (stR M g k v) j = el G M j := by
  intro j hj
  refine el_off rfl rfl ?_
  funext b
  rw [stR_3, if_neg (fun h => hj h.1)]
theorem cpI_off {G : GT} {M : Mem} {src dst sp dp n : Nat} : ∀ j, j ≠ dst → el G (cpI M src dst sp dp n) j = el G M j := by
  intro j hj
  refine el_off ?_ rfl rfl
  funext b
  rw [cpI_1, if_neg (fun h => hj h.1)]
theorem cpL_off {G : GT} {M : Mem} {src dst sp dp n : Nat} : ∀ j, j ≠ dst → el G (cpL M src dst sp dp n) j = el G M j := by
  intro j hj
  refine el_off rfl ?_ rfl
  funext b
  rw [cpL_2, if_neg (fun h => hj h.1)]
theorem el_O {G : GT} {M : Mem} {g ci : Nat} (h : isO ci g) : el G M g = .inr (ci, fvs G M g ci) := by
  unfold el
  rw [show shp g = some (.inl ci) from h]
theorem el_A {G : GT} {M : Mem} {g n : Nat} {ty : FieldType} (h : isA ty n g) : el G M g = .inl (cA G ty, (n, av G M g ty)) := by
  unfold el
  rw [show shp g = some (.inr (ty, n)) from h]
theorem fvs_get {G : GT} {M : Mem} {g ci k : Nat} (h : k < nfs ci) : (fvs G M g ci)[k]? = some (fv G M g k (fkd ci k)) := by simp [fvs, h]
theorem fvs_len {G : GT} {M : Mem} {g ci : Nat} : (fvs G M g ci).length = nfs ci := by simp [fvs]
theorem fvs_set {G : GT} {M M' : Mem} {g ci k : Nat} {v : Value} (hk : k < nfs ci) (hv : fv G M' g k (fkd ci k) = v) (ho : ∀ j, j ≠ k → fv G M' g j (fkd ci j) = fv G M g j (fkd ci j)) : fvs G M' g ci = (fvs G M g ci).set k v := by
  apply List.ext_getElem?
  intro i
  rw [List.getElem?_set]
  by_cases hi : k = i
  · subst hi
    rw [if_pos rfl, if_pos (by rw [fvs_len]; exact hk), fvs_get hk, hv]
  · rw [if_neg hi]
    by_cases hn : i < nfs ci
    · rw [fvs_get hn, fvs_get hn, ho i (fun h => hi h.symm)]
    · rw [List.getElem?_eq_none (by rw [fvs_len]; omega), List.getElem?_eq_none (by rw [fvs_len]; omega)]
theorem fvs_stI {G : GT} {M : Mem} {g ci k : Nat} {v : Int32} (hk : k < nfs ci) (h0 : fkd ci k = 0) : fvs G (stI M g k v) g ci = (fvs G M g ci).set k (.int v) := by
  refine fvs_set hk (by rw [h0]; show Value.int _ = _; rw [stI_1, if_pos ⟨rfl, rfl⟩]) fun j hj => ?_
  generalize fkd ci j = kd
  match kd with
  | 0 => show Value.int _ = Value.int _; rw [stI_1, if_neg (fun h => hj h.2)]
  | 1 => rfl
  | 2 => rfl
  | o + 3 => rfl
theorem fvs_stL {G : GT} {M : Mem} {g ci k : Nat} {v : Int64} (hk : k < nfs ci) (h0 : fkd ci k = 1) : fvs G (stL M g k v) g ci = (fvs G M g ci).set k (.long v) := by
  refine fvs_set hk (by rw [h0]; show Value.long _ = _; rw [stL_2, if_pos ⟨rfl, rfl⟩]) fun j hj => ?_
  generalize fkd ci j = kd
  match kd with
  | 0 => rfl
  | 1 => show Value.long _ = Value.long _; rw [stL_2, if_neg (fun h => hj h.2)]
  | 2 => rfl
  | o + 3 => rfl
theorem fvs_stR {G : GT} {M : Mem} {g ci k : Nat} {v : Nat} (hk : k < nfs ci) (h0 : fkd ci k = 2) : fvs G (stR M g k v) g ci = (fvs G M g ci).set k (.ref (rh G v)) := by
  refine fvs_set hk (by rw [h0]; show va_rf (Option.map _ _) = _; rw [stR_3, if_pos ⟨rfl, rfl⟩]; rfl) fun j hj => ?_
  generalize fkd ci j = kd
  match kd with
  | 0 => rfl
  | 1 => rfl
  | 2 => show va_rf (Option.map _ _) = va_rf (Option.map _ _); rw [stR_3, if_neg (fun h => hj h.2)]
  | o + 3 => rfl
/-! what is known of the machine beside the cells -/
def okT : List Cond := lw_tbl.filter goodWord
def isNest : Cond → Bool
  | .fieldLinkNest .. => true
  | .methodLinkNest .. => true
  | _ => false
def nestW : List Cond := lw_tbl.filter isNest
theorem ok_at (i : Nat) {w : Cond} (h : lw_tbl[i]? = some w) (hg : goodWord w = true) : w ∈ okT := List.mem_filter.mpr ⟨List.mem_of_getElem? h, hg⟩
theorem nest_at (i : Nat) {w : Cond} (h : lw_tbl[i]? = some w) (hg : isNest w = true) : w ∈ nestW := List.mem_filter.mpr ⟨List.mem_of_getElem? h, hg⟩
theorem ok_good {w : Cond} (h : w ∈ okT) : (w.onTables && w.keeps) = true ∨ ∃ ty, w = .arrayClass ty := good_of_word (List.mem_filter.mp h).2
def tx1 : String := "rock skip unlike costs hole at bed thick triangle fault from to throws lay wear storm move when deep has top loop end stop "
def tx2 : String := " rock unlike hole triangle fault skip costs at bed thick from to throws lay wear storm move when loop end stop deep has top "
def tyL (G : GT) : List (ClassId × FieldType) := [(cA G .int, .int), (cA G .long, .long), (cA G .byte, .byte), (cA G .boolean, .boolean), (cA G (.object "BoreDesk$Tray"), .object "BoreDesk$Tray"), (cA G (.object "BoreDesk$Ground"), .object "BoreDesk$Ground"), (cA G (.object "BoreDesk$Years"), .object "BoreDesk$Years")]
def strL : List Nat := [tx1.length, tx2.length]
def strB : List (List Int32) := [tx1.toList.map fun c => Int32.ofNat c.toNat, tx2.toList.map fun c => Int32.ofNat c.toNat]
def Ar (G : GT) : Nat → Prop := fun q => bs G ≤ q
def KF (G : GT) (U : State) : Prop := AD G ∧ va_K (gD G) vwCl (tyL G) U ∧ (∀ w ∈ nestW, va_Nw w U) ∧ vk_R "BoreDesk$Reader" 78 tx1 (sa G 1) U ∧ vk_R "BoreDeskModel" 196 tx2 (sa G 2) U
def HF (G : GT) (U : State) (H : Heap) : Prop := va_X (sa G 0) (xL G) (xS G) U H ∧ sa G 0 < bs G ∧ vk_S 2 strL strB (fun i => sa G (i + 1)) (fun i => sa G (i + 11)) (Ar G) U H ∧ va_Z "java/lang/String" "COMPACT_STRINGS" "Z" (.int 1) (Ar G) U H ∧ (va_Z "jdk/internal/util/Preconditions" "SIOOBE_FORMATTER" "Ljava/util/function/BiFunction;" .null (Ar G) U H ∨ va_Z "jdk/internal/util/Preconditions" "SIOOBE_FORMATTER" "Ljava/util/function/BiFunction;" (.ref (rh G 1005)) (Ar G) U H) ∧ bs G ≤ H.size
theorem KF.same {G : GT} {u U : State} (hv : U.vm = u.vm) (h : KF G u) : KF G U := by
  obtain ⟨h0, h1, h2, h3, h4⟩ := h
  refine ⟨h0, va_K.moved (u := u) (U := U) (by rw [hv]; exact Vm.Alike.refl _) h1, fun w hw => ?_, h3.same hv, h4.same hv⟩
  have hz := h2 w hw
  have hn : isNest w = true := (List.mem_filter.mp hw).2
  cases w <;> first | exact va_Nw.same rfl hv.symm hz | exact (by cases hn)
theorem KF.warm {G : GT} {s U : State} (hW : s.WarmedH U.vm) (h : KF G s) : KF G U := by
  obtain ⟨h0, h1, h2, h3, h4⟩ := h
  refine ⟨h0, va_K.moved hW.alike h1, fun w hw => ?_, h3.warm hW, h4.warm hW⟩
  have hz := h2 w hw
  have hn : isNest w = true := (List.mem_filter.mp hw).2
  cases w <;> first | exact va_Nw.warmF hW hz | exact va_Nw.warmM hW hz | exact (by cases hn)
theorem HF.moved {G : GT} {u U : State} {H : Heap} (hvm : u.vm.Alike U.vm) (h : HF G u H) : HF G U H := ⟨h.1.moved hvm, h.2.1, h.2.2.1.moved hvm, h.2.2.2.1.moved hvm, h.2.2.2.2.1.elim (fun z => Or.inl (z.moved hvm)) (fun z => Or.inr (z.moved hvm)), h.2.2.2.2.2⟩
theorem HF.kept {G : GT} {U : State} {H H1 : Heap} (h : HF G U H) (hz : bs G ≤ H1.size) (hq : ∀ a : Nat, a < bs G → H1[a]? = H[a]?) : HF G U H1 := by
  obtain ⟨h1, h2, h3, h4, h6, h5⟩ := h
  have hq' : ∀ a : Nat, a < H.size → ¬ Ar G a → H1[a]? = H[a]? := fun a _ g => hq a (Nat.lt_of_not_le g)
  exact ⟨h1.kept (hq _ h2), h2, h3.kept hq', h4.kept hq', h6.elim (fun z => Or.inl (z.kept hq')) (fun z => Or.inr (z.kept hq')), hz⟩
def PIC (G : GT) (M : Mem) (U : State) : Prop := KF G U ∧ HF G U U.heap ∧ va_P (gD G) vwCl (wl G NT M) U.heap
def cv (G : GT) (v : Value) : Value := match v with
  | .ref a => .ref (rh G a)
  | w => w
theorem cv_cat (G : GT) (v : Value) : (cv G v).category = v.category := by cases v <;> rfl
/-- a method's contract at one start -/
def Ok (l : Launch) (G : GT) (y : MethodName) (c : ByteArray) (mL : Nat) (ret : Option FieldType) (fr lo : Nat) (args : List Value) (M : Mem) (r : Option Value) (M' : Mem) : Prop :=
  Met l y (.code y c mL ret :: okT) { frames := fr, cells := 0, slots := 0, locals := lo } (fun a U => a = (args.map (cv G)).toArray ∧ PIC G M U) (fun _ st o t => o = .returned (r.map (cv G)) ∧ PIC G M' t ∧ st.heap.size ≤ t.heap.size ∧ ∀ q : Nat, q < bs G → t.heap[q]? = st.heap[q]?) 0 0 (fun q => bs G ≤ q)
