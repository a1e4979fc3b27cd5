/-! the law as a pure function -/
def LawR (J : JT) (xn : Nat) (xs : Nat → Int32) : Prop := match J with
  | (p, _, _, R, s, m, args, below, meth, c, G, Q, _, cs) => R = room_1 ∧ cs.1 ≤ 600000 ∧ cs.2 ≤ 7302250 ∧ args = #[Value.ref (rh G 1000)] ∧ (Q = fun _ _ => lw_Z below args s) ∧ meth.sig.returnType = ret ∧ meth.locks = false ∧ bs G = s.heap.size ∧ xL G = xn ∧ xS G = xs
section XL
variable {γ : Type} {J : JT} {pj : γ → Option Value × Mem} {E : Option γ} {pc : Nat} {L : List (Nat × Value)} {S : List Value} {M : Mem} {own : String} {xn : Nat} {xs : Nat → Int32}
theorem x_sald (g : Gd J cL_law own) (hr : LawR J xn xs) {t : Nat} {i : Int32} (h : t = 1000) (hd : decode cL_law pc = .ok (.iaload, 1)) (k : X J pj E (pc + 1) L (.int (xs i.toNatClampNeg) :: S) M) : X J pj (ixk i xn E) pc L (.int i :: .ref t :: S) M := by
  subst h
  refine X.ck_pre fun hin => ?_
  obtain ⟨p, l, e, R, s, m, args, below, meth, c, G, Q, nL, cs⟩ := J
  obtain ⟨hx, hb, hml, hown, hts, hKF, hHF, hcs⟩ := id g
  obtain ⟨-, -, -, -, -, -, -, -, rfl, rfl⟩ := hr
  intro a hE H locs ls hP hS hl
  exact va_sld (A := Ar G) hx hb hHF.1 (Nat.lt_of_lt_of_le hHF.2.1 hHF.2.2.2.2.2) (Nat.not_le.mpr hHF.2.1) hS hin hd (k a hE H locs ls hP hS hl)
theorem x_slen (g : Gd J cL_law own) (hr : LawR J xn xs) {t : Nat} (h : t = 1000) (hd : decode cL_law pc = .ok (.arraylength, 1)) (k : X J pj E (pc + 1) L (.int (Int32.ofNat xn) :: S) M) : X J pj E pc L (.ref t :: S) M := by
  subst h
  obtain ⟨p, l, e, R, s, m, args, below, meth, c, G, Q, nL, cs⟩ := J
  obtain ⟨hx, hb, hml, hown, hts, hKF, hHF, hcs⟩ := id g
  obtain ⟨-, -, -, -, -, -, -, -, rfl, rfl⟩ := hr
  intro a hE H locs ls hP hS hl
  exact va_slen (A := Ar G) hx hb hHF.1 (Nat.lt_of_lt_of_le hHF.2.1 hHF.2.2.2.2.2) (Nat.not_le.mpr hHF.2.1) hS hd (k a hE H locs ls hP hS hl)
theorem x_law1 (g : Gd J cL_law own) (hr : LawR J xn xs) {a : γ} (hd : decode cL_law pc = .ok (.ireturn, 1)) : X J pj (some a) pc L [.int 1] M := by
  obtain ⟨p, l, e, R, s, m, args, below, meth, c, G, Q, nL, cs⟩ := J
  obtain ⟨hx, hb, hml, hown, hts, hKF, hHF, hcs⟩ := id g
  obtain ⟨rfl, hc1, hc2, rfl, rfl, h1, h2, h3, -, -⟩ := hr
  intro a' hE H locs ls hP hS hl
  refine va_forget (fun q hq => ?_) (W.widen hc1 hc2 (lw_ret hx hb h1 h2 hd))
  have h := hS.2.2 q hq
  rw [← h3]
  exact h
end XL
