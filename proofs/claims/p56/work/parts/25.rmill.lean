/-! the reference: alike, the longest repeat, the least distance -/
def RZ (m : Nat → Nat → Int32) (v : Int → Int) : Prop := ∀ k, 0 ≤ k → k < 130 → m 75 k.toNat = ii (v k)