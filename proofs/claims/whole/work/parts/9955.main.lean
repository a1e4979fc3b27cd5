/-! both new objects; the whole law -/
theorem mr_z {m : Nat} {M : Mem} (h : ∀ e : Int, 0 ≤ e → e < 280 → e ≠ 4 → M.1 (m + 1) e.toNat = iI 0) : MR m 0 F00 M := by
  refine ⟨fun w a b => ?_, fun k a b => ?_, fun x y a b c d => ?_, fun x w a b c d => ?_, fun x l a b c d => ⟨?_, ?_⟩, fun t k a b c d => ?_, fun f k a b c d => ?_⟩
  · exact h _ (by omega) (by omega) (by omega)
  · exact h _ (by omega) (by omega) (by omega)
  · exact h _ (by omega) (by omega) (by omega)
  · exact h _ (by omega) (by omega) (by omega)
  · exact h _ (by omega) (by omega) (by omega)
  · exact h _ (by omega) (by omega) (by omega)
  · exact h _ (by omega) (by omega) (by omega)
  · exact h _ (by omega) (by omega) (by omega)
theorem gr_z {g : Nat} {M : Mem} (h0 : M.1 g 0 = iI 0) (h4 : M.1 g 4 = iI 0) (h11 : M.1 g 11 = iI 0) (h13 : M.1 g 13 = iI 0) : GR g F00 M := by
  unfold GR
  simp only [f00]
  exact ⟨⟨h0, h4, h11, h13⟩, fun r a b => by omega, fun a b h1 h2 => by omega, fun h h1 h2 => by omega, fun h l h1 h2 => by omega, fun t k h1 h2 => by omega, fun f k h1 h2 => by omega, fun f h1 h2 => by omega⟩
theorem inv_0 : INV M0 := by
  have w0 := dw00 (fun _ _ => 0)
  have ci : CI 0 12 F00 M0 := ⟨rfl, rfl, by omega, w0.1, gr_z rfl rfl rfl rfl, Or.inl rfl⟩
  have nc : NCn 12 F00 (fun _ _ => 0) M0 := ⟨fun r a b => by rw [f00] at b; omega, fun r a b => by rw [f00] at b; omega, fun r a b => by rw [f00] at b; omega⟩
  have nb : NB 146 0 F00 (fun _ _ => 0) M0 := ⟨fun r a b => by rw [f00] at b; omega, fun r a b => by rw [f00] at b; omega, fun r a b => by rw [f00] at b; omega⟩
  have mr : MR 146 0 F00 M0 := mr_z (fun e e0 e1 e4 => by
    show (if e.toNat = 4 then (-1 : Int32) else 0) = iI 0
    rw [if_neg (by omega)]
    rfl)
  have ys : YS 146 0 (-1) Y00 M0 := ⟨rfl, fun x c a b => by omega⟩
  have tc : TC1 (fun _ => 0, fun _ => -1, fun _ _ => 0) M0 := fun a a0 a1 => by
    have : a = 0 ∨ a = 1 ∨ a = 2 ∨ a = 3 := by omega
    rcases this with q | q | q | q <;> rw [q]
    · exact ⟨rfl, rfl, fun k k0 k1 => by have : k < -1 := k1; omega⟩
    · exact ⟨rfl, rfl, fun k k0 k1 => by have : k < -1 := k1; omega⟩
    · exact ⟨rfl, rfl, fun k k0 k1 => by have : k < -1 := k1; omega⟩
    · exact ⟨rfl, rfl, fun k k0 k1 => by have : k < -1 := k1; omega⟩
  have tm : TM1 146 (fun _ => 0, fun _ => -1, fun _ _ => 0) M0 := fun a a0 a1 => by
    have : a = 0 ∨ a = 1 ∨ a = 2 ∨ a = 3 := by omega
    rcases this with q | q | q | q <;> rw [q]
    · exact ⟨rfl, rfl, fun k k0 k1 => by have : k < -1 := k1; omega⟩
    · exact ⟨rfl, rfl, fun k k0 k1 => by have : k < -1 := k1; omega⟩
    · exact ⟨rfl, rfl, fun k k0 k1 => by have : k < -1 := k1; omega⟩
    · exact ⟨rfl, rfl, fun k k0 k1 => by have : k < -1 := k1; omega⟩
  have wt : WT (fun _ => 0, fun _ => -1, fun _ _ => 0) := fun a a0 a1 => by
    refine ⟨?_, ?_, fun k => ?_⟩
    · show (0 : Int) ≤ 0 ∧ (0 : Int) ≤ 3
      omega
    · show (-1 : Int) ≤ -1 ∧ (-1 : Int) ≤ 60
      omega
    · show -9223372036854775808 ≤ (0 : Int) ∧ (0 : Int) < 9223372036854775808
      omega
  refine ⟨(F00, fun _ _ => 0, -1, Y00), (fun _ => 0, fun _ => -1, fun _ _ => 0), (0, fun _ => 0), (false, 0, 0, 0, false), 0, fun _ => (F00, fun _ _ => 0, -1, Y00), (0, fun _ => 0), (false, 0, 0), ⟨⟨⟨w0.1, w0.2.1, trivial⟩, Or.inl rfl⟩, wt, ?_, ⟨by omega, fun j j0 j1 => by omega⟩, ?_⟩, ⟨12, 26, 40, 46, ⟨⟨rfl, rfl, rfl, rfl⟩, by omega, by omega⟩, ⟨ci, nc⟩, ⟨rfl, fun q => absurd rfl q⟩, tc, ⟨rfl, fun k k0 k1 => ?_⟩, ⟨rfl, fun q => by cases q⟩, ⟨rfl, fun j j0 j1 => by omega⟩, ⟨rfl, fun k k0 k1 => ?_⟩, ⟨rfl, fun q => by cases q⟩⟩, ⟨⟨mr, ys, nb⟩, tm, ⟨rfl, fun k k0 k1 => ?_⟩, ⟨rfl, fun q => by cases q⟩, ⟨rfl, fun j j0 j1 => by omega⟩, ⟨rfl, fun k k0 k1 => ?_⟩, ⟨fun _ => ⟨rfl, rfl⟩, fun q => by cases q⟩⟩, Or.inl ⟨rfl, rfl⟩, rfl, rfl, rfl⟩
  · show (0 : Int) ≤ 0 ∧ (0 : Int) ≤ 60
    omega
  · refine ⟨?_, fun k => ?_⟩
    · show (0 : Int) ≤ 0 ∧ (0 : Int) ≤ 900
      omega
    · show (-128 : Int) ≤ 0 ∧ (0 : Int) ≤ 127
      omega
  · have : k < 0 := k1
    omega
  · have : k < 0 := k1
    omega
  · have : k < 0 := k1
    omega
  · have : k < 0 := k1
    omega
theorem pure_main : ∀ (xn : Nat) (xs : Nat → Int32), xn ≤ 3072 → ∃ φ b, fL_law φ xn xs 1000 0 146 M0 = some b := by
  intro xn xs hx
  obtain ⟨φ, hφ⟩ : ∃ φ : Nat, 30000 < φ := ⟨30001, by decide⟩
  obtain ⟨b, hb⟩ := law_loop hφ hx xs φ 0 (by omega) (by omega) (by omega) M0 inv_0
  exact ⟨φ, b, hb⟩
