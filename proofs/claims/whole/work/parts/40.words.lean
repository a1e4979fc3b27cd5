/-! words as whole numbers; loops; sums -/
def iI (n : Int) : Int32 := Int32.ofInt n
def lI (n : Int) : Int64 := Int64.ofInt n
theorem iI_add (a b : Int) : iI a + iI b = iI (a + b) := (Int32.ofInt_add a b).symm
theorem iI_sub (a b : Int) : iI a - iI b = iI (a - b) := (Int32.ofInt_sub a b).symm
theorem iI_mul (a b : Int) : iI a * iI b = iI (a * b) := (Int32.ofInt_mul a b).symm
theorem iI_neg (a : Int) : -iI a = iI (-a) := (Int32.ofInt_neg a).symm
theorem lI_add (a b : Int) : lI a + lI b = lI (a + b) := (Int64.ofInt_add a b).symm
theorem lI_sub (a b : Int) : lI a - lI b = lI (a - b) := (Int64.ofInt_sub a b).symm
theorem lI_mul (a b : Int) : lI a * lI b = lI (a * b) := (Int64.ofInt_mul a b).symm
theorem lI_neg (a : Int) : -lI a = lI (-a) := (Int64.ofInt_neg a).symm
theorem iI_int {a : Int} (h : -2147483648 ≤ a ∧ a < 2147483648) : (iI a).toInt = a := Int32.toInt_ofInt_of_le (by omega) (by omega)
theorem lI_int {a : Int} (h : -9223372036854775808 ≤ a ∧ a < 9223372036854775808) : (lI a).toInt = a := Int64.toInt_ofInt_of_le (by omega) (by omega)
theorem iI_of (x : Int32) : iI x.toInt = x := Int32.ofInt_toInt x
theorem lI_of (x : Int64) : lI x.toInt = x := Int64.ofInt_toInt x
theorem iI_rng (x : Int32) : -2147483648 ≤ x.toInt ∧ x.toInt < 2147483648 := ⟨Int32.le_toInt x, Int32.toInt_lt x⟩
theorem iI_ex (x : Int32) : ∃ a : Int, (-2147483648 ≤ a ∧ a < 2147483648) ∧ x = iI a := ⟨x.toInt, iI_rng x, (iI_of x).symm⟩
theorem iI_nat {a : Int} (h : -2147483648 ≤ a ∧ a < 2147483648) : (iI a).toNatClampNeg = a.toNat := by
  show (iI a).toInt.toNat = a.toNat
  rw [iI_int h]
theorem iI_lt {a b : Int} (ha : -2147483648 ≤ a ∧ a < 2147483648) (hb : -2147483648 ≤ b ∧ b < 2147483648) : (iI a < iI b) = (a < b) := by rw [Int32.lt_iff_toInt_lt, iI_int ha, iI_int hb]
theorem iI_le {a b : Int} (ha : -2147483648 ≤ a ∧ a < 2147483648) (hb : -2147483648 ≤ b ∧ b < 2147483648) : (iI a ≤ iI b) = (a ≤ b) := by rw [Int32.le_iff_toInt_le, iI_int ha, iI_int hb]
theorem iI_eq {a b : Int} (ha : -2147483648 ≤ a ∧ a < 2147483648) (hb : -2147483648 ≤ b ∧ b < 2147483648) : (iI a = iI b) = (a = b) := by rw [← Int32.toInt_inj, iI_int ha, iI_int hb]
theorem lI_lt {a b : Int} (ha : -9223372036854775808 ≤ a ∧ a < 9223372036854775808) (hb : -9223372036854775808 ≤ b ∧ b < 9223372036854775808) : (lI a < lI b) = (a < b) := by rw [Int64.lt_iff_toInt_lt, lI_int ha, lI_int hb]
theorem lI_le {a b : Int} (ha : -9223372036854775808 ≤ a ∧ a < 9223372036854775808) (hb : -9223372036854775808 ≤ b ∧ b < 9223372036854775808) : (lI a ≤ lI b) = (a ≤ b) := by rw [Int64.le_iff_toInt_le, lI_int ha, lI_int hb]
theorem lI_eq {a b : Int} (ha : -9223372036854775808 ≤ a ∧ a < 9223372036854775808) (hb : -9223372036854775808 ≤ b ∧ b < 9223372036854775808) : (lI a = lI b) = (a = b) := by rw [← Int64.toInt_inj, lI_int ha, lI_int hb]
theorem iI_l {a : Int} (h : -2147483648 ≤ a ∧ a < 2147483648) : (iI a).toInt64 = lI a := by
  rw [← Int64.toInt_inj, Int32.toInt_toInt64, iI_int h, lI_int (by omega)]
theorem k_0 : (0 : Int32) = iI 0 := id rfl
theorem k_1 : (1 : Int32) = iI 1 := id rfl
theorem k_2 : (2 : Int32) = iI 2 := id rfl
theorem k_3 : (3 : Int32) = iI 3 := id rfl
theorem k_4 : (4 : Int32) = iI 4 := id rfl
theorem k_5 : (5 : Int32) = iI 5 := id rfl
theorem k_6 : (6 : Int32) = iI 6 := id rfl
theorem k_7 : (7 : Int32) = iI 7 := id rfl
theorem k_8 : (8 : Int32) = iI 8 := id rfl
theorem k_9 : (9 : Int32) = iI 9 := id rfl
theorem k_10 : (10 : Int32) = iI 10 := id rfl
theorem k_11 : (11 : Int32) = iI 11 := id rfl
theorem k_12 : (12 : Int32) = iI 12 := id rfl
theorem k_13 : (13 : Int32) = iI 13 := id rfl
theorem k_14 : (14 : Int32) = iI 14 := id rfl
theorem k_15 : (15 : Int32) = iI 15 := id rfl
theorem k_16 : (16 : Int32) = iI 16 := id rfl
theorem k_17 : (17 : Int32) = iI 17 := id rfl
theorem k_18 : (18 : Int32) = iI 18 := id rfl
theorem k_19 : (19 : Int32) = iI 19 := id rfl
theorem k_20 : (20 : Int32) = iI 20 := id rfl
theorem k_21 : (21 : Int32) = iI 21 := id rfl
theorem k_22 : (22 : Int32) = iI 22 := id rfl
theorem k_23 : (23 : Int32) = iI 23 := id rfl
theorem k_24 : (24 : Int32) = iI 24 := id rfl
theorem k_27 : (27 : Int32) = iI 27 := id rfl
theorem k_30 : (30 : Int32) = iI 30 := id rfl
theorem k_32 : (32 : Int32) = iI 32 := id rfl
theorem k_48 : (48 : Int32) = iI 48 := id rfl
theorem k_57 : (57 : Int32) = iI 57 := id rfl
theorem k_59 : (59 : Int32) = iI 59 := id rfl
theorem k_60 : (60 : Int32) = iI 60 := id rfl
theorem k_61 : (61 : Int32) = iI 61 := id rfl
theorem k_62 : (62 : Int32) = iI 62 := id rfl
theorem k_63 : (63 : Int32) = iI 63 := id rfl
theorem k_64 : (64 : Int32) = iI 64 := id rfl
theorem k_72 : (72 : Int32) = iI 72 := id rfl
theorem k_78 : (78 : Int32) = iI 78 := id rfl
theorem k_80 : (80 : Int32) = iI 80 := id rfl
theorem k_82 : (82 : Int32) = iI 82 := id rfl
theorem k_97 : (97 : Int32) = iI 97 := id rfl
theorem k_99 : (99 : Int32) = iI 99 := id rfl
theorem k_100 : (100 : Int32) = iI 100 := id rfl
theorem k_122 : (122 : Int32) = iI 122 := id rfl
theorem k_244 : (244 : Int32) = iI 244 := id rfl
theorem k_255 : (255 : Int32) = iI 255 := id rfl
theorem k_268 : (268 : Int32) = iI 268 := id rfl
theorem k_280 : (280 : Int32) = iI 280 := id rfl
theorem k_300 : (300 : Int32) = iI 300 := id rfl
theorem k_432 : (432 : Int32) = iI 432 := id rfl
theorem k_650 : (650 : Int32) = iI 650 := id rfl
theorem k_900 : (900 : Int32) = iI 900 := id rfl
theorem k_901 : (901 : Int32) = iI 901 := id rfl
theorem k_999 : (999 : Int32) = iI 999 := id rfl
theorem k_1700 : (1700 : Int32) = iI 1700 := id rfl
theorem k_2600 : (2600 : Int32) = iI 2600 := id rfl
theorem k_2601 : (2601 : Int32) = iI 2601 := id rfl
theorem k_2602 : (2602 : Int32) = iI 2602 := id rfl
theorem k_2603 : (2603 : Int32) = iI 2603 := id rfl
theorem k_2604 : (2604 : Int32) = iI 2604 := id rfl
theorem k_2610 : (2610 : Int32) = iI 2610 := id rfl
theorem k_2618 : (2618 : Int32) = iI 2618 := id rfl
theorem k_2682 : (2682 : Int32) = iI 2682 := id rfl
theorem k_2777 : (2777 : Int32) = iI 2777 := id rfl
theorem k_2844 : (2844 : Int32) = iI 2844 := id rfl
theorem k_2868 : (2868 : Int32) = iI 2868 := id rfl
theorem k_2880 : (2880 : Int32) = iI 2880 := id rfl
theorem k_3245 : (3245 : Int32) = iI 3245 := id rfl
theorem k_3250 : (3250 : Int32) = iI 3250 := id rfl
theorem k_9551 : (9551 : Int32) = iI 9551 := id rfl
theorem k_9999 : (9999 : Int32) = iI 9999 := id rfl
theorem k_65536 : (65536 : Int32) = iI 65536 := id rfl
theorem k_100000 : (100000 : Int32) = iI 100000 := id rfl
theorem k_999999 : (999999 : Int32) = iI 999999 := id rfl
theorem k_1000000 : (1000000 : Int32) = iI 1000000 := id rfl
theorem k_2147483647 : (2147483647 : Int32) = iI 2147483647 := id rfl
theorem kl_0 : (0 : Int64) = lI 0 := id rfl
theorem kl_1 : (1 : Int64) = lI 1 := id rfl
theorem kl_2 : (2 : Int64) = lI 2 := id rfl
theorem kl_6 : (6 : Int64) = lI 6 := id rfl
theorem kl_9 : (9 : Int64) = lI 9 := id rfl
theorem kl_10 : (10 : Int64) = lI 10 := id rfl
theorem kl_32 : (32 : Int64) = lI 32 := id rfl
theorem kl_99 : (99 : Int64) = lI 99 := id rfl
theorem kl_999 : (999 : Int64) = lI 999 := id rfl
theorem kl_9999 : (9999 : Int64) = lI 9999 := id rfl
theorem kl_999999 : (999999 : Int64) = lI 999999 := id rfl

theorem ixkI {β : Type} {i : Int} {n : Nat} {E : Option β} (h : 0 ≤ i ∧ i < (n : Int) ∧ i < 2147483648) : ixk (iI i) n E = E := by
  unfold ixk
  rw [iI_int (by omega), if_pos ⟨h.1, h.2.1⟩]
theorem sbind {α β : Type} (a : α) (f : α → Option β) : (some a).bind f = f a := id rfl
theorem bdS {β γ : Type} (q : β × Mem) (K : β → Mem → Option γ) : bd (some q) K = K q.1 q.2 := id rfl
theorem nm_eq {β γ : Type} (v : β) (K : β → γ) : nm v K = K v := id rfl
theorem jn_eq {β γ : Type} (k : β) (f : β → γ) : jn k f = f k := id rfl
theorem addm1 (a : Int) : a + -1 = a - 1 := by omega
theorem lt_T {a b : Int} (h : a < b) : (a < b) = True := eq_true h
theorem lt_F {a b : Int} (h : ¬ a < b) : (a < b) = False := eq_false h
theorem le_T {a b : Int} (h : a ≤ b) : (a ≤ b) = True := eq_true h
theorem le_F {a b : Int} (h : ¬ a ≤ b) : (a ≤ b) = False := eq_false h
theorem eq_T {a b : Int} (h : a = b) : (a = b) = True := eq_true h
theorem eq_F {a b : Int} (h : ¬ a = b) : (a = b) = False := eq_false h
/-! answers yes and no -/
def bI (b : Bool) : Int32 := if b then iI 1 else iI 0
theorem bI_0 (b : Bool) : (bI b = iI 0) = (b = false) := by cases b <;> decide
theorem bI_1 (b : Bool) : (bI b = iI 1) = (b = true) := by cases b <;> decide
theorem bI_01 (b : Bool) : (bI b = iI 0 ∨ bI b = iI 1) = True := by cases b <;> decide
theorem bI_t : bI true = iI 1 := rfl
theorem bI_f : bI false = iI 0 := rfl
theorem bI_eq (a b : Bool) : (bI a = bI b) = (a = b) := by cases a <;> cases b <;> decide
theorem i01_a : (iI 0 = iI 0 ∨ iI 0 = iI 1) = True := by decide
theorem i01_b : (iI 1 = iI 0 ∨ iI 1 = iI 1) = True := by decide
/-! what single changes leave -/
theorem rI_eq (M : Mem) (g k : Nat) (v : Int32) : (stI M g k v).1 g k = v := by rw [stI_1, if_pos ⟨rfl, rfl⟩]
theorem rI_at {M : Mem} {a b g k : Nat} {v : Int32} (h : a = g) (h' : b = k) : (stI M g k v).1 a b = v := by rw [stI_1, if_pos ⟨h, h'⟩]
theorem rI_ng {M : Mem} {a b g k : Nat} {v : Int32} (h : a ≠ g) : (stI M g k v).1 a b = M.1 a b := by rw [stI_1, if_neg (fun q => h q.1)]
theorem rI_nk {M : Mem} {a b g k : Nat} {v : Int32} (h : b ≠ k) : (stI M g k v).1 a b = M.1 a b := by rw [stI_1, if_neg (fun q => h q.2)]
theorem rI_2 (M : Mem) (g k : Nat) (v : Int32) (a b : Nat) : (stI M g k v).2.1 a b = M.2.1 a b := rfl
theorem rI_3 (M : Mem) (g k : Nat) (v : Int32) (a b : Nat) : (stI M g k v).2.2 a b = M.2.2 a b := rfl
theorem rL_1 (M : Mem) (g k : Nat) (v : Int64) (a b : Nat) : (stL M g k v).1 a b = M.1 a b := rfl
theorem rL_at {M : Mem} {a b g k : Nat} {v : Int64} (h : a = g) (h' : b = k) : (stL M g k v).2.1 a b = v := by rw [stL_2, if_pos ⟨h, h'⟩]
theorem rL_ng {M : Mem} {a b g k : Nat} {v : Int64} (h : a ≠ g) : (stL M g k v).2.1 a b = M.2.1 a b := by rw [stL_2, if_neg (fun q => h q.1)]
theorem rL_nk {M : Mem} {a b g k : Nat} {v : Int64} (h : b ≠ k) : (stL M g k v).2.1 a b = M.2.1 a b := by rw [stL_2, if_neg (fun q => h q.2)]
theorem rL_3 (M : Mem) (g k : Nat) (v : Int64) (a b : Nat) : (stL M g k v).2.2 a b = M.2.2 a b := rfl
theorem rR_1 (M : Mem) (g k v a b : Nat) : (stR M g k v).1 a b = M.1 a b := rfl
theorem rR_2 (M : Mem) (g k v a b : Nat) : (stR M g k v).2.1 a b = M.2.1 a b := rfl
theorem rR_at {M : Mem} {a b g k v : Nat} (h : a = g) (h' : b = k) : (stR M g k v).2.2 a b = some v := by rw [stR_3, if_pos ⟨h, h'⟩]
theorem rR_ng {M : Mem} {a b g k v : Nat} (h : a ≠ g) : (stR M g k v).2.2 a b = M.2.2 a b := by rw [stR_3, if_neg (fun q => h q.1)]
theorem rR_nk {M : Mem} {a b g k v : Nat} (h : b ≠ k) : (stR M g k v).2.2 a b = M.2.2 a b := by rw [stR_3, if_neg (fun q => h q.2)]
theorem ci_2 (M : Mem) (s d sp dp n a b : Nat) : (cpI M s d sp dp n).2.1 a b = M.2.1 a b := rfl
theorem ci_3 (M : Mem) (s d sp dp n a b : Nat) : (cpI M s d sp dp n).2.2 a b = M.2.2 a b := rfl
theorem ci_ng {M : Mem} {s d sp dp n a b : Nat} (h : a ≠ d) : (cpI M s d sp dp n).1 a b = M.1 a b := by rw [cpI_1, if_neg (fun q => h q.1)]
theorem ci_nb {M : Mem} {s d sp dp n a b : Nat} (h : b < dp ∨ dp + n ≤ b) : (cpI M s d sp dp n).1 a b = M.1 a b := by rw [cpI_1, if_neg (fun q => by omega)]
theorem ci_at {M : Mem} {s d sp dp n a b : Nat} (h : a = d) (h' : dp ≤ b ∧ b < dp + n) : (cpI M s d sp dp n).1 a b = M.1 s (sp + (b - dp)) := by rw [cpI_1, if_pos ⟨h, h'⟩]
theorem cl_1 (M : Mem) (s d sp dp n a b : Nat) : (cpL M s d sp dp n).1 a b = M.1 a b := rfl
theorem cl_3 (M : Mem) (s d sp dp n a b : Nat) : (cpL M s d sp dp n).2.2 a b = M.2.2 a b := rfl
theorem cl_ng {M : Mem} {s d sp dp n a b : Nat} (h : a ≠ d) : (cpL M s d sp dp n).2.1 a b = M.2.1 a b := by rw [cpL_2, if_neg (fun q => h q.1)]
theorem cl_nb {M : Mem} {s d sp dp n a b : Nat} (h : b < dp ∨ dp + n ≤ b) : (cpL M s d sp dp n).2.1 a b = M.2.1 a b := by rw [cpL_2, if_neg (fun q => by omega)]
theorem cl_at {M : Mem} {s d sp dp n a b : Nat} (h : a = d) (h' : dp ≤ b ∧ b < dp + n) : (cpL M s d sp dp n).2.1 a b = M.2.1 s (sp + (b - dp)) := by rw [cpL_2, if_pos ⟨h, h'⟩]
theorem cpk_in {β : Type} {sp dp n : Int} {n0 n1 : Nat} {E : Option β} (h : 0 ≤ sp ∧ 0 ≤ dp ∧ 0 ≤ n ∧ sp + n ≤ (n0 : Int) ∧ dp + n ≤ (n1 : Int) ∧ sp < 2147483648 ∧ dp < 2147483648 ∧ n < 2147483648) : cpk (iI sp) (iI dp) (iI n) n0 n1 E = E := by
  unfold cpk
  rw [if_pos]
  rw [iI_nat (by omega), iI_nat (by omega), iI_nat (by omega), k_0, iI_lt (by omega) (by omega), iI_lt (by omega) (by omega), iI_lt (by omega) (by omega)]
  omega
/-- only cells of S differ -/
def Fr (S : Nat → Prop) (M M' : Mem) : Prop := ∀ g, ¬ S g → M'.1 g = M.1 g ∧ M'.2.1 g = M.2.1 g ∧ M'.2.2 g = M.2.2 g
abbrev Rg (lo hi : Nat) : Nat → Prop := fun x => lo ≤ x ∧ x ≤ hi
theorem Fr.refl {S : Nat → Prop} (M : Mem) : Fr S M M := fun _ _ => ⟨rfl, rfl, rfl⟩
theorem Fr.mono {S T : Nat → Prop} {M M' : Mem} (hF : Fr S M M') (h : ∀ g, S g → T g) : Fr T M M' := fun g hg => hF g (fun q => hg (h g q))
theorem Fr.trans {S : Nat → Prop} {M M1 M2 : Mem} (h1 : Fr S M M1) (h2 : Fr S M1 M2) : Fr S M M2 := fun g hg => by
  obtain ⟨a, b, c⟩ := h1 g hg
  obtain ⟨a', b', c'⟩ := h2 g hg
  exact ⟨a'.trans a, b'.trans b, c'.trans c⟩
theorem Fr.stI {S : Nat → Prop} {M M1 : Mem} {g k : Nat} {v : Int32} (h : S g) (hF : Fr S M M1) : Fr S M (stI M1 g k v) := hF.trans fun a ha => ⟨by funext b; exact rI_ng (fun q => ha (q ▸ h)), rfl, rfl⟩
theorem Fr.stL {S : Nat → Prop} {M M1 : Mem} {g k : Nat} {v : Int64} (h : S g) (hF : Fr S M M1) : Fr S M (stL M1 g k v) := hF.trans fun a ha => ⟨rfl, by funext b; exact rL_ng (fun q => ha (q ▸ h)), rfl⟩
theorem Fr.stR {S : Nat → Prop} {M M1 : Mem} {g k v : Nat} (h : S g) (hF : Fr S M M1) : Fr S M (stR M1 g k v) := hF.trans fun a ha => ⟨rfl, rfl, by funext b; exact rR_ng (fun q => ha (q ▸ h))⟩
theorem Fr.cpI {S : Nat → Prop} {M M1 : Mem} {s g sp dp n : Nat} (h : S g) (hF : Fr S M M1) : Fr S M (cpI M1 s g sp dp n) := hF.trans fun a ha => ⟨by funext b; exact ci_ng (fun q => ha (q ▸ h)), rfl, rfl⟩
theorem Fr.cpL {S : Nat → Prop} {M M1 : Mem} {s g sp dp n : Nat} (h : S g) (hF : Fr S M M1) : Fr S M (cpL M1 s g sp dp n) := hF.trans fun a ha => ⟨rfl, by funext b; exact cl_ng (fun q => ha (q ▸ h)), rfl⟩
/-! loops up and down -/
theorem lup {P : Nat → Int → Prop} {N : Int} (he : ∀ n, P (n + 1) N) (hs : ∀ n i, 0 ≤ i → i < N → P n (i + 1) → P (n + 1) i) : ∀ (n : Nat) (i : Int), 0 ≤ i → i ≤ N → N < n + i → P n i := by
  intro n
  induction n with
  | zero => intro i _ h1 h2; omega
  | succ n ih =>
    intro i h0 h1 h2
    by_cases hi : i = N
    · subst hi; exact he n
    · exact hs n i h0 (by omega) (ih (i + 1) (by omega) (by omega) (by omega))
theorem ldn {P : Nat → Int → Prop} (he : ∀ n, P (n + 1) (-1)) (hs : ∀ n i, 0 ≤ i → P n (i - 1) → P (n + 1) i) : ∀ (n : Nat) (i : Int), -1 ≤ i → i + 1 < n → P n i := by
  intro n
  induction n with
  | zero => intro i h1 h2; omega
  | succ n ih =>
    intro i h1 h2
    by_cases hi : i = -1
    · subst hi; exact he n
    · exact hs n i (by omega) (ih (i - 1) (by omega) (by omega))
/-! sums, first finds -/
def smN (f : Int → Int) : Nat → Int
  | 0 => 0
  | n + 1 => smN f n + f n
def sm (f : Int → Int) (i : Int) : Int := smN f i.toNat
theorem sm_0 (f : Int → Int) : sm f 0 = 0 := rfl
theorem sm_s (f : Int → Int) {i : Int} (h : 0 ≤ i) : sm f (i + 1) = sm f i + f i := by
  unfold sm
  rw [show (i + 1).toNat = i.toNat + 1 from by omega]
  show smN f i.toNat + f (i.toNat : Int) = _
  rw [show ((i.toNat : Nat) : Int) = i from by omega]
theorem sm_ind {f : Int → Int} {Q : Int → Int → Prop} (h0 : Q 0 0) {N : Int} (hs : ∀ i s, 0 ≤ i → i < N → Q i s → Q (i + 1) (s + f i)) : ∀ i, 0 ≤ i → i ≤ N → Q i (sm f i) := by
  intro i hi hN
  obtain ⟨k, rfl⟩ : ∃ k : Nat, i = k := ⟨i.toNat, by omega⟩
  induction k with
  | zero => exact h0
  | succ k ih =>
    have := hs k _ (by omega) (by omega) (ih (by omega) (by omega))
    rw [← sm_s f (by omega)] at this
    exact this
theorem sm_bd {f : Int → Int} {N B : Int} (h : ∀ i, 0 ≤ i → i < N → 0 ≤ f i ∧ f i ≤ B) (i : Int) (hi : 0 ≤ i) (hN : i ≤ N) : 0 ≤ sm f i ∧ sm f i ≤ i * B := by
  refine sm_ind (Q := fun i s => 0 ≤ s ∧ s ≤ i * B) (by omega) (fun i s h0 h1 hQ => ?_) i hi hN
  have := h i h0 h1
  rw [Int.add_mul, Int.one_mul]
  omega
theorem sm_cg {f g : Int → Int} {N : Int} (h : ∀ i, 0 ≤ i → i < N → f i = g i) (i : Int) (hi : 0 ≤ i) (hN : i ≤ N) : sm f i = sm g i := by
  refine sm_ind (f := f) (Q := fun i s => s = sm g i) rfl (fun i s h0 h1 hQ => ?_) i hi hN
  rw [sm_s g h0, hQ, h i h0 h1]
theorem sm_mono {f : Int → Int} {N : Int} (h : ∀ i, 0 ≤ i → i < N → 0 ≤ f i) {i k : Int} (hi : 0 ≤ i) (hik : i ≤ k) (hk : k ≤ N) : sm f i ≤ sm f k := by
  obtain ⟨d, rfl⟩ : ∃ d : Nat, k = i + d := ⟨(k - i).toNat, by omega⟩
  induction d with
  | zero => simp
  | succ d ih =>
    have h1 := ih (by omega) (by omega)
    have h2 := sm_s f (i := i + d) (by omega)
    have h3 := h (i + d) (by omega) (by omega)
    rw [show i + ((d + 1 : Nat) : Int) = i + d + 1 from by omega]
    omega
def ffN (P : Int → Bool) : Nat → Int → Int
  | 0, _ => -1
  | n + 1, i => if P i then i else ffN P n (i + 1)
/-- the first from i on, below N, that has P; -1 if none -/
def ff (P : Int → Bool) (N i : Int) : Int := ffN P (N - i).toNat i
theorem ff_e (P : Int → Bool) (N : Int) : ff P N N = -1 := by
  unfold ff
  rw [show (N - N).toNat = 0 from by omega]
  rfl
theorem ff_e' (P : Int → Bool) {N i : Int} (h : N ≤ i) : ff P N i = -1 := by
  unfold ff
  rw [show (N - i).toNat = 0 from by omega]
  rfl
theorem ff_s (P : Int → Bool) {N i : Int} (h : i < N) : ff P N i = if P i then i else ff P N (i + 1) := by
  unfold ff
  rw [show (N - i).toNat = (N - (i + 1)).toNat + 1 from by omega]
  rfl
theorem ff_t {P : Int → Bool} {N i : Int} (h : i < N) (hP : P i = true) : ff P N i = i := by rw [ff_s P h, hP]; rfl
theorem ff_f {P : Int → Bool} {N i : Int} (h : i < N) (hP : P i = false) : ff P N i = ff P N (i + 1) := by rw [ff_s P h, hP]; rfl
theorem ff_ind {P : Int → Bool} {N : Int} {Q : Int → Int → Prop} (he : Q N (-1)) (ht : ∀ i, 0 ≤ i → i < N → P i = true → Q i i) (hf : ∀ i r, 0 ≤ i → i < N → P i = false → Q (i + 1) r → Q i r) : ∀ i, 0 ≤ i → i ≤ N → Q i (ff P N i) := by
  intro i h0 h1
  obtain ⟨d, hd⟩ : ∃ d : Nat, N - i = d := ⟨(N - i).toNat, by omega⟩
  induction d generalizing i with
  | zero =>
    obtain rfl : i = N := by omega
    rw [ff_e]; exact he
  | succ d ih =>
    have hlt : i < N := by omega
    cases hP : P i with
    | true => rw [ff_t hlt hP]; exact ht i h0 hlt hP
    | false => rw [ff_f hlt hP]; exact hf i _ h0 hlt hP (ih (i + 1) (by omega) (by omega) (by omega))
theorem ff_rng (P : Int → Bool) (N i : Int) (h0 : 0 ≤ i) (h1 : i ≤ N) : (ff P N i = -1 ∧ ∀ k, i ≤ k → k < N → P k = false) ∨ (i ≤ ff P N i ∧ ff P N i < N ∧ P (ff P N i) = true ∧ ∀ k, i ≤ k → k < ff P N i → P k = false) := by
  refine ff_ind (Q := fun i r => (r = -1 ∧ ∀ k, i ≤ k → k < N → P k = false) ∨ (i ≤ r ∧ r < N ∧ P r = true ∧ ∀ k, i ≤ k → k < r → P k = false)) ?_ ?_ ?_ i h0 h1
  · exact Or.inl ⟨rfl, fun k a b => by omega⟩
  · exact fun i h0 h1 hP => Or.inr ⟨by omega, h1, hP, fun k a b => by omega⟩
  · intro i r h0 h1 hP hQ
    rcases hQ with ⟨a, b⟩ | ⟨a, b, c, d⟩
    · refine Or.inl ⟨a, fun k hk hN => ?_⟩
      by_cases hki : k = i
      · rw [hki]; exact hP
      · exact b k (by omega) hN
    · refine Or.inr ⟨by omega, b, c, fun k hk hr => ?_⟩
      by_cases hki : k = i
      · rw [hki]; exact hP
      · exact d k (by omega) hr
theorem ff_cg {P P' : Int → Bool} {N : Int} (h : ∀ i, 0 ≤ i → i < N → P i = P' i) (i : Int) (h0 : 0 ≤ i) (h1 : i ≤ N) : ff P N i = ff P' N i := by
  refine ff_ind (P := P) (Q := fun i r => r = ff P' N i) (ff_e _ _).symm (fun i h0 h1 hP => ?_) (fun i r h0 h1 hP hQ => ?_) i h0 h1
  · rw [ff_t h1 (by rw [← h i h0 h1]; exact hP)]
  · rw [ff_f h1 (by rw [← h i h0 h1]; exact hP)]; exact hQ
