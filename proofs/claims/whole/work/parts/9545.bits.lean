/-! eight bits more (wb_.., u_tn, g_or: pasted from the kit's laws/BITS.to-paste) -/
theorem wb_tb (n : Nat) : (lN n).toBitVec = BitVec.ofNat 64 n := rfl
theorem wb_inj {a b : Int64} (h : a.toBitVec = b.toBitVec) : a = b := Int64.toBitVec_inj.mp h
theorem wb_tn {n : Nat} (h : n < 2 ^ 64) : (lN n).toBitVec.toNat = n := by rw [wb_tb, BitVec.toNat_ofNat, Nat.mod_eq_of_lt h]
theorem wb_c : ∀ k, k < 64 → ((nI k).toInt64 &&& 63) = lN k := by decide +kernel
theorem wb_sm : ∀ k, k < 64 → (BitVec.ofNat 64 k).smod 64 = BitVec.ofNat 64 k := by decide +kernel
theorem wb_shl (n : Nat) {k : Nat} (hk : k < 64) : lN n <<< ((nI k).toInt64 &&& 63) = lN (n * 2 ^ k) := by
  rw [wb_c k hk]
  apply wb_inj
  rw [Int64.toBitVec_shiftLeft, wb_tb, wb_tb, wb_tb, wb_sm k hk]
  apply BitVec.eq_of_toNat_eq
  rw [BitVec.shiftLeft_eq', BitVec.toNat_shiftLeft, BitVec.toNat_ofNat, BitVec.toNat_ofNat, BitVec.toNat_ofNat, Nat.mod_eq_of_lt (show k < 2 ^ 64 by omega), Nat.shiftLeft_eq, Nat.mul_mod, Nat.mod_mod, ← Nat.mul_mod]
theorem u_tn {n : Nat} (h : n < 2 ^ 64) : (UInt64.ofNat n).toNat = n := Nat.mod_eq_of_lt h
theorem g_or {k p a b : Nat} (hp : 2 ^ k = p) (ha : a < p) (h : b * p + a < 2 ^ 64) : lN (b * p) ||| lN a = lN (b * p + a) := by
  subst hp
  have h1 : b * 2 ^ k ||| a = b * 2 ^ k + a := by rw [← Nat.shiftLeft_eq, Nat.shiftLeft_add_eq_or_of_lt ha]
  have h3 : UInt64.ofNat (b * 2 ^ k) ||| UInt64.ofNat a = UInt64.ofNat (b * 2 ^ k + a) := UInt64.toNat_inj.mp (by rw [UInt64.toNat_or, u_tn (by omega), u_tn (by omega), u_tn h, h1])
  have h2 := congrArg UInt64.toInt64 h3
  exact h2
theorem lI_lN {v : Int} (h : 0 ≤ v) : lI v = lN v.toNat := by
  show Int64.ofInt v = Int64.ofNat v.toNat
  rw [show v = ((v.toNat : Nat) : Int) from by omega]
  rfl
theorem iI_l8 {c : Int} (h : 0 ≤ c ∧ c < 256) : (iI c).toInt64 = lN c.toNat := by rw [iI_l (by omega), lI_lN h.1]
theorem sh8 {v c : Int} (hv : 0 ≤ v ∧ v < 36028797018963968) (hc : 0 ≤ c ∧ c < 256) : (lI v <<< ((8 : Int32).toInt64 &&& 63)) ||| (iI c).toInt64 = lI (256 * v + c) := by
  have h1 := wb_shl v.toNat (k := 8) (by omega)
  have h2 := g_or (k := 8) (p := 256) (a := c.toNat) (b := v.toNat) (by decide) (by omega) (by omega)
  have h3 : ((nI 8).toInt64 &&& 63) = ((8 : Int32).toInt64 &&& 63) := by decide
  rw [h3] at h1
  rw [iI_l8 hc, lI_lN hv.1, h1, show (2 : Nat) ^ 8 = 256 from by decide, h2, lI_lN (by omega), show (256 * v + c).toNat = v.toNat * 256 + c.toNat from by omega]
