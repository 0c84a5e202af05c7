/-! Finding and Text -/
/-- an int that may be NONE: 0 is NONE -/
def FZ (k : Nat) : Int32 := nI k - 1
theorem FZ_0 : FZ 0 = -1 := rfl
theorem FZ_s (k : Nat) : FZ (k + 1) = nI k := nI_pred k
