/-! the two texts -/
def isS (q : Nat) : Prop := q = 1001 ∨ q = 1002
def sLen (q : Nat) : Option Int32 := some (nI (strL.getD (q - 1001) 0))
def sAt (q : Nat) (i : Int32) : Option Int32 := ixk i (strL.getD (q - 1001) 0) (some ((strB.getD (q - 1001) []).getD i.toNatClampNeg 0))
section XT
variable {γ : Type} {J : JT} {pj : γ → Option Value × Mem} {E : Option γ} {pc : Nat} {L : List (Nat × Value)} {S : List Value} {M : Mem} {cc : ByteArray} {own : String}
theorem x_ldcS1 (g : Gd J cc RX6) (hd : decode cc pc = .ok (.ldc 78, 2)) (k : X J pj E (pc + 2) L (.ref 1001 :: S) M) : X J pj E pc L S M := by
  sorry
theorem x_ldcS2 (g : Gd J cc RX11) (hd : decode cc pc = .ok (.ldc 196, 2)) (k : X J pj E (pc + 2) L (.ref 1002 :: S) M) : X J pj E pc L S M := by
  sorry
theorem x_slength (g : Gd J cc own) {K : Int32 → Option γ} {q idx fr lo : Nat} (hR : (JR J).frames = fr ∧ (JR J).locals = lo) (hlk : Cond.methodLink own idx yJ0_length_8abf5 ∈ okT) (hs : isS q) (hfr : 4 ≤ fr) (hlo : 120 ≤ lo) (hcat : (S.map fun v => v.category).sum ≤ 8) (hd : decode cc pc = .ok (.invokevirtual idx, 3)) (k : ∀ b, X J pj (K b) (pc + 3) L (.int b :: S) M) : X J pj ((sLen q).bind K) pc L (.ref q :: S) M := by
  sorry
theorem x_scharAt (g : Gd J cc own) {K : Int32 → Option γ} {q idx fr lo : Nat} {i : Int32} (hR : (JR J).frames = fr ∧ (JR J).locals = lo) (hlk : Cond.methodLink own idx yJ0_charAt_5068e ∈ okT) (hs : isS q) (hfr : 4 ≤ fr) (hlo : 121 ≤ lo) (hcat : (S.map fun v => v.category).sum ≤ 8) (hd : decode cc pc = .ok (.invokevirtual idx, 3)) (k : ∀ b, X J pj (K b) (pc + 3) L (.int b :: S) M) : X J pj ((sAt q i).bind K) pc L (.int i :: .ref q :: S) M := by
  sorry
end XT
