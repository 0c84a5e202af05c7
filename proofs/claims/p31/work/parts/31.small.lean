theorem wt_bt {x : Int32} (i : Nat) : bt x i = x.toBitVec.toNat.testBit i := rfl
theorem wt_nI (X i : Nat) (h : X < 2 ^ 32) : bt (nI X) i = X.testBit i := by
  show (BitVec.ofNat 32 X).toNat.testBit i = _
  rw [BitVec.toNat_ofNat, Nat.mod_eq_of_lt h]
