/-! the bits of a share, as the class tells them -/
theorem dbl_at {x : UInt64} {c : Nat} {e : Int} (h : DV x c e) : fJxe99ae_doubleToLongBits_ccdee x = some x.toInt64 := by
  have q : FP.dcmp x x = some .eq := FP.Core.dcmp_self (DV_ne h)
  unfold fJxe99ae_doubleToLongBits_ccdee fJxe99ae_isNaN_b9ae7
  rw [q, if_pos (show Op.cmpValue (some .eq) .l = 0 from rfl), Option.bind_some]
  exact if_pos rfl
theorem i64_add (a b : Int) : Int64.ofInt a + Int64.ofInt b = Int64.ofInt (a + b) := (Int64.ofInt_add a b).symm
theorem i64_sub (a b : Int) : Int64.ofInt a - Int64.ofInt b = Int64.ofInt (a - b) := (Int64.ofInt_sub a b).symm
theorem sub_v {x : UInt64} {c : Nat} (h : DV x c 0) : FP.Core.val64 (FP.dsub x FP.dconst1) = FP.Core.roundRatio FP.Core.b64 false (c - 4503599627370496) 1 (-52) := by
  have g := h.2
  have hs : FP.Core.sumUnits false c (0 - 52) true 4503599627370496 (0 - 52) (min (0 - 52) (0 - 52)) = (c : Int) - 4503599627370496 := by
    show ((c * 2 ^ ((0 - 52 : Int) - min (0 - 52) (0 - 52)).toNat : Nat) : Int) + -((4503599627370496 * 2 ^ ((0 - 52 : Int) - min (0 - 52) (0 - 52)).toNat : Nat) : Int) = _
    rw [show ((0 - 52 : Int) - min (0 - 52) (0 - 52)).toNat = 0 by decide, Nat.pow_zero, Nat.mul_one, Nat.mul_one]
    omega
  have hg : FP.Core.sumSign false true ((c : Int) - 4503599627370496) = false := by
    unfold FP.Core.sumSign
    by_cases hz : (c : Int) - 4503599627370496 = 0
    · rw [if_pos hz]
      rfl
    · rw [if_neg hz]
      exact decide_eq_false (by omega)
  show FP.Core.val64 (FP.Core.dsub x FP.dconst1) = _
  rw [FP.Core.val64_dsub, h.1, DV_c1.1]
  show FP.Core.roundRatio FP.Core.b64 (FP.Core.sumSign false true (FP.Core.sumUnits false c (0 - 52) true 4503599627370496 (0 - 52) (min (0 - 52) (0 - 52)))) (FP.Core.sumUnits false c (0 - 52) true 4503599627370496 (0 - 52) (min (0 - 52) (0 - 52))).natAbs 1 (min (0 - 52) (0 - 52)) = _
  rw [hs, hg, show ((c : Int) - 4503599627370496).natAbs = c - 4503599627370496 by omega]
  rfl
theorem d2l_n {y : UInt64} {f : Nat} {e : Int} (hl : f.log2 ≤ 51) (h : DV y (f * 2 ^ (52 - f.log2)) e) (he : e = (f.log2 : Int)) (hf : f < 4503599627370496) : FP.d2l y = Int64.ofInt (f : Int) := by
  have ht : (Int64.ofInt (f : Int)).toInt = (f : Int) := Int64.toInt_ofInt_of_le (by omega) (by omega)
  refine FP.Core.d2l_int ?_
  rw [ht]
  show FP.Core.Whole (f : Int) (FP.Core.val64 y)
  rw [h.1]
  show ((f * 2 ^ (52 - f.log2) * 2 ^ (e - 52).toNat : Nat) : Int) = (f : Int) * ((2 ^ (-(e - 52)).toNat : Nat) : Int)
  rw [show (e - 52).toNat = 0 by omega, show (-(e - 52)).toNat = 52 - f.log2 by omega, Nat.pow_zero, Nat.mul_one]
  exact Int.natCast_mul _ _
theorem z_ok : vfn 0 = true ∧ FP.dmul 0 (4841369599423283200 : UInt64) = 0 ∧ FP.d2l 0 = Int64.ofInt 0 := by decide +kernel
set_option maxRecDepth 100000 in
theorem sh52 : ∀ E : Nat, E < 2047 → (Int64.ofInt (E : Int)) <<< ((52 : Int32).toInt64 &&& 63) = Int64.ofInt ((E * 4503599627370496 : Nat) : Int) := by decide +kernel