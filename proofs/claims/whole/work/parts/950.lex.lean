/-! tokens; kept words; names as numbers -/
def cwL : List Int := [605291, 634160, 719725925, 3657363, 277893, 52, 2212, 21242987, 706825624965, 6346132, 215533, 655, 680083187, 12345, 758834, 20594253, 442053, 762030, 136368, 8243, 20976, 409072, 5572, 643568]
/-- the class's kept word w as a number, five bits a letter -/
def cw (w : Int) : Int := cwL.getD w.toNat (-1)
def pmL : List Int := [0, 2, 4, 8, 9, 1, 3, 5, 6, 7, 10, 11, 12, 13, 14, 15, 16, 17, 21, 22, 23, 18, 19, 20]
/-- the reference's word k is the class's word pm k -/
def pm (k : Int) : Int := pmL.getD k.toNat (-1)
def prL : List Int := [0, 5, 1, 6, 2, 7, 8, 9, 3, 4, 10, 11, 12, 13, 14, 15, 16, 17, 21, 22, 23, 18, 19, 20]
def pr (w : Int) : Int := if w = -1 then -1 else prL.getD w.toNat (-1)
def csL : List Int := [0, 5, 10, 17, 23, 28, 31, 35, 41, 50, 56, 61, 64, 71, 75, 80, 86, 91, 96, 101, 105, 109, 114, 118, 123]
def msL : List Int := [1, 6, 13, 18, 27, 33, 38, 44, 47, 51, 57, 62, 65, 72, 76, 81, 87, 92, 97, 102, 106, 111, 116, 120, 124]
def cS (w : Int) : Int := csL.getD w.toNat 0
def mSt (w : Int) : Int := msL.getD w.toNat 0
def chI (q : Nat) (i : Int) : Int := ((strB.getD (q - 1001) []).getD i.toNat 0).toInt
def rnN (P : Int → Bool) : Nat → Int → Int
  | 0, i => i
  | d + 1, i => if P i = true then rnN P d (i + 1) else i
/-- the first place from i on, up to n, that has not P -/
def rn (P : Int → Bool) (n i : Int) : Int := rnN P (n - i).toNat i
section RN
variable {P : Int → Bool} {n i : Int}
theorem rn_e (h : n ≤ i) : rn P n i = i := by
  unfold rn
  rw [show (n - i).toNat = 0 from by omega]
  rfl
theorem rn_s (h : i < n) : rn P n i = if P i = true then rn P n (i + 1) else i := by
  unfold rn
  rw [show (n - i).toNat = (n - (i + 1)).toNat + 1 from by omega]
  rfl
theorem rn_t (h : i < n) (hP : P i = true) : rn P n i = rn P n (i + 1) := by rw [rn_s h, if_pos hP]
theorem rn_f (h : i < n) (hP : P i = false) : rn P n i = i := by rw [rn_s h, hP, if_neg (by decide)]
theorem rn_rng : ∀ (d : Nat) (i : Int), n - i = d → i ≤ rn P n i ∧ rn P n i ≤ n ∧ (∀ k, i ≤ k → k < rn P n i → P k = true) ∧ (rn P n i < n → P (rn P n i) = false) := by
  intro d
  induction d with
  | zero =>
    intro i h
    rw [rn_e (by omega)]
    exact ⟨by omega, by omega, fun k a b => by omega, fun q => by omega⟩
  | succ d ih =>
    intro i h
    cases hP : P i with
    | true =>
      rw [rn_t (by omega) hP]
      obtain ⟨a, b, c, e⟩ := ih (i + 1) (by omega)
      refine ⟨by omega, b, fun k k0 k1 => ?_, e⟩
      by_cases q : k = i
      · rw [q]; exact hP
      · exact c k (by omega) k1
    | false =>
      rw [rn_f (by omega) hP]
      exact ⟨by omega, by omega, fun k a b => by omega, fun _ => hP⟩
theorem rn_r (h : i ≤ n) : i ≤ rn P n i ∧ rn P n i ≤ n ∧ (∀ k, i ≤ k → k < rn P n i → P k = true) ∧ (rn P n i < n → P (rn P n i) = false) := rn_rng (n - i).toNat i (by omega)
end RN
def lx_L (c : Int) : Bool := decide (97 ≤ c ∧ c ≤ 122)
def lx_D (c : Int) : Bool := decide (48 ≤ c ∧ c ≤ 57)
def lx_B (c : Int) : Bool := decide (c = 32 ∨ c = 10)
def lx_S (c : Int) : Bool := decide (c = 59 ∨ c = 60 ∨ c = 62 ∨ c = 61)
/-- letters as a number, five bits each; digits as a number; letters, eight bits each -/
def cdN (a : Int → Int) : Nat → Int
  | 0 => 0
  | k + 1 => 32 * cdN a k + (a k - 96)
def dcN (a : Int → Int) : Nat → Int
  | 0 => 0
  | k + 1 => 10 * dcN a k + (a k - 48)
def bcN (a : Int → Int) : Nat → Int
  | 0 => 0
  | k + 1 => 256 * bcN a k + a k
/-- which kept word it is: the class's number -/
def kwC (c : Int) : Int := ff (fun w => c == cw w) 24 0
def kwM (c : Int) : Int := ff (fun k => c == cw (pm k)) 24 0
theorem kw_pr (c : Int) : kwM c = pr (kwC c) := by
  rcases ff_rng (fun w => c == cw w) 24 0 (by omega) (by omega) with ⟨h, h2⟩ | ⟨h0, h1, h2, h3⟩
  · have e : kwC c = -1 := h
    rw [e]
    rcases ff_rng (fun k => c == cw (pm k)) 24 0 (by omega) (by omega) with ⟨g, g2⟩ | ⟨g0, g1, g2, g3⟩
    · exact g
    · exfalso
      have hp : ∀ k : Fin 24, 0 ≤ pm (k.1 : Int) ∧ pm (k.1 : Int) < 24 := by decide +kernel
      obtain ⟨k, hk⟩ : ∃ k : Nat, ff (fun k => c == cw (pm k)) 24 0 = (k : Int) := ⟨_, (Int.toNat_of_nonneg g0).symm⟩
      rw [hk] at g1 g2
      have p := hp ⟨k, by omega⟩
      have q := h2 (pm k) p.1 p.2
      rw [q] at g2
      cases g2
  · have hc : c = cw (kwC c) := by
      have : (c == cw (ff (fun w => c == cw w) 24 0)) = true := h2
      exact eq_of_beq this
    have h0 : 0 ≤ kwC c := h0
    have h1 : kwC c < 24 := h1
    obtain ⟨k, hk⟩ : ∃ k : Nat, kwC c = (k : Int) := ⟨_, (Int.toNat_of_nonneg h0).symm⟩
    have hp : ∀ k : Fin 24, kwM (cw (k.1 : Int)) = pr (k.1 : Int) := by decide +kernel
    rw [hk] at h1 hc ⊢
    rw [hc]
    exact hp ⟨k, by omega⟩
theorem kw_rng (c : Int) : (kwC c = -1 ∧ ∀ w, 0 ≤ w → w < 24 → c ≠ cw w) ∨ (0 ≤ kwC c ∧ kwC c < 24 ∧ c = cw (kwC c)) := by
  rcases ff_rng (fun w => c == cw w) 24 0 (by omega) (by omega) with ⟨h, h2⟩ | ⟨h0, h1, h2, h3⟩
  · exact Or.inl ⟨h, fun w a b q => by
      have := h2 w a b
      rw [q] at this
      rw [beq_self_eq_true] at this
      cases this⟩
  · exact Or.inr ⟨h0, h1, eq_of_beq h2⟩
/-! letters and numbers -/
def LD (a : Int → Int) (k : Nat) : Prop := ∀ i : Nat, i < k → 97 ≤ a i ∧ a i ≤ 122
theorem cd_nn {a : Int → Int} : ∀ k, LD a k → 0 ≤ cdN a k ∧ (0 < k → 0 < cdN a k) := by
  intro k
  induction k with
  | zero => intro _; exact ⟨Int.le_refl _, fun h => by omega⟩
  | succ k ih =>
    intro h
    have h1 := ih (fun i hi => h i (by omega))
    have h2 := h k (by omega)
    have e : cdN a (k + 1) = 32 * cdN a k + (a k - 96) := rfl
    omega
theorem cd_inj {a b : Int → Int} : ∀ k l, LD a k → LD b l → cdN a k = cdN b l → k = l ∧ ∀ i : Nat, i < k → a i = b i := by
  intro k
  induction k with
  | zero =>
    intro l _ hb h
    cases l with
    | zero => exact ⟨rfl, fun i hi => by omega⟩
    | succ l =>
      have := (cd_nn (l + 1) hb).2 (by omega)
      have e : cdN a 0 = 0 := rfl
      omega
  | succ k ih =>
    intro l ha hb h
    cases l with
    | zero =>
      have := (cd_nn (k + 1) ha).2 (by omega)
      have e : cdN b 0 = 0 := rfl
      omega
    | succ l =>
      have e1 : cdN a (k + 1) = 32 * cdN a k + (a k - 96) := rfl
      have e2 : cdN b (l + 1) = 32 * cdN b l + (b l - 96) := rfl
      have h1 := ha k (by omega)
      have h2 := hb l (by omega)
      obtain ⟨p, q⟩ := ih l (fun i hi => ha i (by omega)) (fun i hi => hb i (by omega)) (by omega)
      subst p
      refine ⟨rfl, fun i hi => ?_⟩
      by_cases z : i = k
      · subst z; omega
      · exact q i (by omega)
theorem cd_cg {a b : Int → Int} : ∀ k, (∀ i : Nat, i < k → a i = b i) → cdN a k = cdN b k := by
  intro k
  induction k with
  | zero => intro _; rfl
  | succ k ih =>
    intro h
    show 32 * cdN a k + (a k - 96) = 32 * cdN b k + (b k - 96)
    rw [ih (fun i hi => h i (by omega)), h k (by omega)]
/-! names: five bits, eight bits -/
theorem w8_cd {a : Int → Int} : ∀ (j k : Nat), k ≤ j → LD a k → w8N j (cdN a k) = bcN a k := by
  intro j
  induction j with
  | zero =>
    intro k hk _
    obtain rfl : k = 0 := by omega
    rfl
  | succ j ih =>
    intro k hk h
    cases k with
    | zero => exact if_pos (Int.le_refl _)
    | succ k =>
      have e : cdN a (k + 1) = 32 * cdN a k + (a k - 96) := rfl
      have h1 := (cd_nn k (fun i hi => h i (by omega))).1
      have h2 := h k (by omega)
      have h3 := ih k (by omega) (fun i hi => h i (by omega))
      show (if cdN a (k + 1) ≤ 0 then 0 else 256 * w8N j (cdN a (k + 1) / 32) + (cdN a (k + 1) % 32 + 96)) = 256 * bcN a k + a k
      rw [if_neg (by omega), show cdN a (k + 1) / 32 = cdN a k from by omega, h3]
      omega
def u5N : Nat → Int → Int
  | 0, _ => 0
  | k + 1, b => if b ≤ 0 then 0 else 32 * u5N k (b / 256) + (b % 256 - 96)
theorem bc_nn {a : Int → Int} : ∀ k, LD a k → 0 ≤ bcN a k := by
  intro k
  induction k with
  | zero => intro _; exact Int.le_refl _
  | succ k ih =>
    intro h
    have h1 := ih (fun i hi => h i (by omega))
    have h2 := h k (by omega)
    show 0 ≤ 256 * bcN a k + a k
    omega
theorem u5_bc {a : Int → Int} : ∀ (j k : Nat), k ≤ j → LD a k → u5N j (bcN a k) = cdN a k := by
  intro j
  induction j with
  | zero =>
    intro k hk _
    obtain rfl : k = 0 := by omega
    rfl
  | succ j ih =>
    intro k hk h
    cases k with
    | zero => exact if_pos (Int.le_refl _)
    | succ k =>
      have e : bcN a (k + 1) = 256 * bcN a k + a k := rfl
      have h1 := bc_nn k (fun i hi => h i (by omega))
      have h2 := h k (by omega)
      have h3 := ih k (by omega) (fun i hi => h i (by omega))
      show (if bcN a (k + 1) ≤ 0 then 0 else 32 * u5N j (bcN a (k + 1) / 256) + (bcN a (k + 1) % 256 - 96)) = 32 * cdN a k + (a k - 96)
      rw [if_neg (by omega), show bcN a (k + 1) / 256 = bcN a k from by omega, h3]
      omega
def x5N : Nat → Int
  | 0 => 1
  | k + 1 => 32 * x5N k
def x8N : Nat → Int
  | 0 => 1
  | k + 1 => 256 * (x8N k - 1) + 123
theorem cd_bd {a : Int → Int} : ∀ k, LD a k → cdN a k < x5N k := by
  intro k
  induction k with
  | zero => intro _; exact (by decide : (0 : Int) < 1)
  | succ k ih =>
    intro h
    have h1 := ih (fun i hi => h i (by omega))
    have h2 := h k (by omega)
    show 32 * cdN a k + (a k - 96) < 32 * x5N k
    omega
theorem bc_bd {a : Int → Int} : ∀ k, LD a k → bcN a k < x8N k := by
  intro k
  induction k with
  | zero => intro _; exact (by decide : (0 : Int) < 1)
  | succ k ih =>
    intro h
    have h1 := ih (fun i hi => h i (by omega))
    have h2 := h k (by omega)
    show 256 * bcN a k + a k < 256 * (x8N k - 1) + 123
    omega
/-- a name's number -/
def LN (c : Int) : Prop := ∃ (a : Int → Int) (k : Nat), 1 ≤ k ∧ k ≤ 8 ∧ LD a k ∧ c = cdN a k
theorem LN.bd {c : Int} (h : LN c) : (0 < c ∧ c < 1099511627777) ∧ 0 ≤ w8 c ∧ w8 c < 9223372036854775808 := by
  obtain ⟨a, k, k1, k8, l, rfl⟩ := h
  have h1 := (cd_nn k l).2 (by omega)
  have h2 := cd_bd k l
  have h3 := bc_nn k l
  have h4 := bc_bd k l
  have h5 : x5N k ≤ 1099511627777 ∧ x8N k ≤ 9223372036854775808 := (by decide +kernel : ∀ k : Fin 9, x5N k.1 ≤ 1099511627777 ∧ x8N k.1 ≤ 9223372036854775808) ⟨k, by omega⟩
  unfold w8
  rw [w8_cd 8 k k8 l]
  omega
theorem LN.w8i {c c' : Int} (h : LN c) (h' : LN c') (e : w8 c = w8 c') : c = c' := by
  obtain ⟨a, k, k1, k8, l, rfl⟩ := h
  obtain ⟨b, j, j1, j8, l', rfl⟩ := h'
  unfold w8 at e
  rw [w8_cd 8 k k8 l, w8_cd 8 j j8 l'] at e
  rw [← u5_bc 8 k k8 l, ← u5_bc 8 j j8 l', e]
def okN (c : Int) : Prop := LN c ∧ kwC c = -1
/-! tokens: kind (0 end, 1 word, 2 number, 3 sign, 4 nothing), start, value, end, name -/
abbrev Tk : Type := Int × Int × Int × Int × Int
def tokS (B : Int → Int) (n s : Int) : Tk := if n ≤ s then (0, n, 0, n, 0) else if lx_L (B s) = true then (1, s, kwC (cdN (fun k => B (s + k)) (rn (fun k => lx_L (B k)) n s - s).toNat), rn (fun k => lx_L (B k)) n s, if rn (fun k => lx_L (B k)) n s - s ≤ 8 then cdN (fun k => B (s + k)) (rn (fun k => lx_L (B k)) n s - s).toNat else 0) else if lx_D (B s) = true then (if rn (fun k => lx_D (B k)) n s - s ≤ 4 then 2 else 4, s, dcN (fun k => B (s + k)) (rn (fun k => lx_D (B k)) n s - s).toNat, rn (fun k => lx_D (B k)) n s, 0) else (if lx_S (B s) = true then 3 else 4, s, B s, s + 1, 0)
def tok (B : Int → Int) (n p : Int) : Tk := tokS B n (rn (fun k => lx_B (B k)) n p)
/-- what a token is like -/
def WT5 (n kd st vl en nc : Int) : Prop := (0 ≤ kd ∧ kd ≤ 4) ∧ (0 ≤ st ∧ st ≤ n) ∧ (kd = 1 → -1 ≤ vl ∧ vl < 24) ∧ (kd = 2 → 0 ≤ vl ∧ vl ≤ 9999) ∧ (kd = 3 → 0 ≤ vl ∧ vl ≤ 127) ∧ (kd = 0 → st = n ∧ en = n) ∧ (kd ≠ 0 → st < en) ∧ en ≤ n ∧ (nc ≠ 0 → kd = 1 ∧ LN nc ∧ vl = kwC nc) ∧ (kd = 1 → 0 ≤ vl → nc ≠ 0)
def WTk (n : Int) (T : Tk) : Prop := WT5 n T.1 T.2.1 T.2.2.1 T.2.2.2.1 T.2.2.2.2
def t10 : Nat → Int
  | 0 => 1
  | k + 1 => 10 * t10 k
theorem dc_bd {a : Int → Int} : ∀ k, (∀ i : Nat, i < k → 48 ≤ a i ∧ a i ≤ 57) → 0 ≤ dcN a k ∧ dcN a k < t10 k := by
  intro k
  induction k with
  | zero => intro _; exact ⟨Int.le_refl _, (by decide : (0 : Int) < 1)⟩
  | succ k ih =>
    intro h
    have h1 := ih (fun i hi => h i (by omega))
    have h2 := h k (by omega)
    show 0 ≤ 10 * dcN a k + (a k - 48) ∧ 10 * dcN a k + (a k - 48) < 10 * t10 k
    omega
theorem dc_4 {a : Int → Int} {k : Nat} (h : ∀ i : Nat, i < k → 48 ≤ a i ∧ a i ≤ 57) (h4 : k ≤ 4) : 0 ≤ dcN a k ∧ dcN a k ≤ 9999 := by
  have h1 := dc_bd k h
  have h2 : t10 k ≤ 10000 := (by decide +kernel : ∀ k : Fin 5, t10 k.1 ≤ 10000) ⟨k, by omega⟩
  omega
theorem lx_Lt {c : Int} (h : lx_L c = true) : 97 ≤ c ∧ c ≤ 122 := of_decide_eq_true h
theorem lx_Dt {c : Int} (h : lx_D c = true) : 48 ≤ c ∧ c ≤ 57 := of_decide_eq_true h
theorem cw_bd : ∀ w : Fin 24, 0 < cw (w.1 : Int) ∧ cw (w.1 : Int) < 1099511627776 := by decide +kernel
theorem cd_lo {a : Int → Int} : ∀ k, LD a (k + 1) → x5N k ≤ cdN a (k + 1) := by
  intro k
  induction k with
  | zero =>
    intro h
    have h2 := h 0 (by omega)
    have e : cdN a (0 + 1) = 32 * 0 + (a ((0 : Nat) : Int) - 96) := rfl
    have e2 : x5N 0 = 1 := rfl
    omega
  | succ k ih =>
    intro h
    have h1 := ih (fun i hi => h i (by omega))
    have h2 := h (k + 1) (by omega)
    have e : cdN a (k + 1 + 1) = 32 * cdN a (k + 1) + (a ((k + 1 : Nat) : Int) - 96) := rfl
    have e2 : x5N (k + 1) = 32 * x5N k := rfl
    omega
theorem x5_up : ∀ k, 1099511627776 ≤ x5N (8 + k) := by
  intro k
  induction k with
  | zero => decide +kernel
  | succ k ih =>
    have e2 : x5N (8 + k + 1) = 32 * x5N (8 + k) := rfl
    rw [show 8 + (k + 1) = 8 + k + 1 from by omega]
    omega
/-- no kept word is longer than a name -/
theorem kw_long {a : Int → Int} {k : Nat} (l : LD a k) (h : 8 < k) : kwC (cdN a k) = -1 := by
  rcases kw_rng (cdN a k) with ⟨e, _⟩ | ⟨h0, h1, h2⟩
  · exact e
  · exfalso
    obtain ⟨j, rfl⟩ : ∃ j, k = 8 + j + 1 := ⟨k - 9, by omega⟩
    have b1 := cd_lo (8 + j) l
    have b2 := x5_up j
    have b3 := (cw_bd ⟨(kwC (cdN a (8 + j + 1))).toNat, by omega⟩).2
    have b4 : cw ((kwC (cdN a (8 + j + 1))).toNat : Int) = cw (kwC (cdN a (8 + j + 1))) := by rw [Int.toNat_of_nonneg h0]
    have b3 : cw ((kwC (cdN a (8 + j + 1))).toNat : Int) < 1099511627776 := b3
    omega
theorem wtk_s {B : Int → Int} {n s : Int} (hs : 0 ≤ s ∧ s ≤ n) (hB : ∀ k, B k ≤ 127) : WTk n (tokS B n s) := by
  unfold tokS
  by_cases h0 : n ≤ s
  · rw [if_pos h0]
    show WT5 n 0 n 0 n 0
    unfold WT5
    exact ⟨by omega, by omega, fun h => by omega, fun h => by omega, fun h => by omega, fun _ => ⟨rfl, rfl⟩, fun h => by omega, by omega, fun h => by omega, fun h => by omega⟩
  rw [if_neg h0]
  by_cases h1 : lx_L (B s) = true
  · rw [if_pos h1]
    obtain ⟨e, he⟩ : ∃ e, e = rn (fun k => lx_L (B k)) n s := ⟨_, rfl⟩
    obtain ⟨a1, a2, a3, a4⟩ := rn_r (P := fun k => lx_L (B k)) (n := n) (i := s) (by omega)
    have h2 : s < rn (fun k => lx_L (B k)) n s := by
      rw [rn_t (P := fun k => lx_L (B k)) (by omega) h1]
      have := (rn_r (P := fun k => lx_L (B k)) (n := n) (i := s + 1) (by omega)).1
      omega
    rw [← he] at a2 a3 h2 ⊢
    have l : LD (fun k => B (s + k)) (e - s).toNat := fun i hi => lx_Lt (a3 (s + i) (by omega) (by omega))
    obtain ⟨C, hC⟩ : ∃ C, C = cdN (fun k => B (s + k)) (e - s).toNat := ⟨_, rfl⟩
    have hk := kw_rng C
    rw [← hC]
    show WT5 n 1 s (kwC C) e (if e - s ≤ 8 then C else 0)
    unfold WT5
    refine ⟨by omega, by omega, fun _ => ?_, fun h => by omega, fun h => by omega, fun h => by omega, fun _ => h2, a2, fun h => ?_, fun _ h => ?_⟩
    · rcases hk with ⟨q, _⟩ | ⟨q, q2, _⟩ <;> omega
    · by_cases q : e - s ≤ 8
      · rw [if_pos q]
        exact ⟨rfl, ⟨_, (e - s).toNat, by omega, by omega, l, hC⟩, rfl⟩
      · rw [if_neg q] at h
        exact absurd rfl h
    · by_cases q : e - s ≤ 8
      · rw [if_pos q, hC]
        have := (cd_nn _ l).2 (by omega)
        omega
      · exfalso
        have := kw_long l (by omega)
        rw [← hC] at this
        omega
  rw [if_neg h1]
  by_cases h2 : lx_D (B s) = true
  · rw [if_pos h2]
    obtain ⟨e, he⟩ : ∃ e, e = rn (fun k => lx_D (B k)) n s := ⟨_, rfl⟩
    obtain ⟨a1, a2, a3, a4⟩ := rn_r (P := fun k => lx_D (B k)) (n := n) (i := s) (by omega)
    have h3 : s < rn (fun k => lx_D (B k)) n s := by
      rw [rn_t (P := fun k => lx_D (B k)) (by omega) h2]
      have := (rn_r (P := fun k => lx_D (B k)) (n := n) (i := s + 1) (by omega)).1
      omega
    rw [← he] at a2 a3 h3 ⊢
    have l := dc_4 (a := fun k => B (s + k)) (k := (e - s).toNat) (fun i hi => lx_Dt (a3 (s + i) (by omega) (by omega)))
    show WT5 n (if e - s ≤ 4 then 2 else 4) s (dcN (fun k => B (s + k)) (e - s).toNat) e 0
    unfold WT5
    by_cases q : e - s ≤ 4
    · rw [if_pos q]
      have l := l (by omega)
      exact ⟨by omega, by omega, fun h => by omega, fun _ => l, fun h => by omega, fun h => by omega, fun _ => h3, a2, fun h => by omega, fun h => by omega⟩
    · rw [if_neg q]
      exact ⟨by omega, by omega, fun h => by omega, fun h => by omega, fun h => by omega, fun h => by omega, fun _ => h3, a2, fun h => by omega, fun h => by omega⟩
  rw [if_neg h2]
  have hBs := hB s
  show WT5 n (if lx_S (B s) = true then 3 else 4) s (B s) (s + 1) 0
  unfold WT5
  by_cases h3 : lx_S (B s) = true
  · rw [if_pos h3]
    have h4 : B s = 59 ∨ B s = 60 ∨ B s = 62 ∨ B s = 61 := of_decide_eq_true h3
    exact ⟨by omega, by omega, fun h => by omega, fun h => by omega, fun _ => by omega, fun h => by omega, fun _ => by omega, by omega, fun h => by omega, fun h => by omega⟩
  · rw [if_neg h3]
    exact ⟨by omega, by omega, fun h => by omega, fun h => by omega, fun h => by omega, fun h => by omega, fun _ => by omega, by omega, fun h => by omega, fun h => by omega⟩
theorem wtk {B : Int → Int} {n p : Int} (hp : 0 ≤ p ∧ p ≤ n) (hB : ∀ k, B k ≤ 127) : WTk n (tok B n p) := by
  have := rn_r (P := fun k => lx_B (B k)) (n := n) (i := p) hp.2
  exact wtk_s ⟨by omega, this.2.1⟩ hB
/-- where the k-th token is looked for -/
def tpN (B : Int → Int) (n : Int) : Nat → Int
  | 0 => 0
  | k + 1 => (tok B n (tpN B n k)).2.2.2.1
theorem tpN_bd {B : Int → Int} {n : Int} (hn : 0 ≤ n) (hB : ∀ k, B k ≤ 127) : ∀ k, 0 ≤ tpN B n k ∧ tpN B n k ≤ n := by
  intro k
  induction k with
  | zero => exact ⟨Int.le_refl _, hn⟩
  | succ k ih =>
    have h := wtk (B := B) ih hB
    show 0 ≤ (tok B n (tpN B n k)).2.2.2.1 ∧ (tok B n (tpN B n k)).2.2.2.1 ≤ n
    obtain ⟨h1, h2, h3, h4, h5, h6, h7, h8, h9⟩ := h
    by_cases q : (tok B n (tpN B n k)).1 = 0
    · have := h6 q
      omega
    · have := h7 q
      omega
/-- the k-th token -/
def tkN (B : Int → Int) (n : Int) (k : Nat) : Tk := tok B n (tpN B n k)
theorem tkN_w {B : Int → Int} {n : Int} (hn : 0 ≤ n) (hB : ∀ k, B k ≤ 127) (k : Nat) : WTk n (tkN B n k) := wtk (tpN_bd hn hB k) hB
