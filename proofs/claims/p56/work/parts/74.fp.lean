/-! doubles: a share, and its bits -/
def DV (x : UInt64) (c : Nat) (e : Int) : Prop := FP.Core.val64 x = .fin false c (e - 52) ∧ (4503599627370496 ≤ c ∧ c < 9007199254740992) ∧ -900 ≤ e ∧ e ≤ 900
theorem t64 : FP.Core.b64.tails = 4503599627370496 := by decide +kernel
theorem x64 : FP.Core.b64.exps = 2048 := by decide +kernel
theorem qn64 : FP.Core.b64.qmin = -1074 := by decide +kernel
theorem qx64 : FP.Core.b64.qmax = 971 := by decide +kernel
theorem p64 : (2 : Nat) ^ FP.Core.b64.p = 9007199254740992 := by decide +kernel
theorem fit_of {c : Nat} {q : Int} (h1 : 4503599627370496 ≤ c) (h2 : c < 9007199254740992) (h3 : -1000 ≤ q) (h4 : q ≤ 900) : FP.Core.fits FP.Core.b64 (.fin false c q) := by
  show c < 2 ^ FP.Core.b64.p ∧ FP.Core.b64.qmin ≤ q ∧ q ≤ FP.Core.b64.qmax ∧ (q = FP.Core.b64.qmin ∨ FP.Core.b64.tails ≤ c)
  rw [p64, qn64, qx64, t64]
  omega
theorem DV_ne {x : UInt64} {c : Nat} {e : Int} (h : DV x c e) : FP.Core.val64 x ≠ .nan := by
  rw [h.1]
  exact FP.Core.Datum.noConfusion
theorem vfn_of {x : UInt64} (h : FP.Core.val64 x ≠ .nan) : vfn x = true := by
  have q := (FP.Core.ne_nan x).mp h
  unfold vfn
  rw [decide_eq_true_eq, UInt64.le_iff_toNat_le, FP.Core.mask_toNat]
  exact q
theorem DV_toNat {x : UInt64} {c : Nat} {e : Int} (h : DV x c e) : x.toNat = (e + 1023).toNat * 4503599627370496 + (c - 4503599627370496) := by
  have hf : FP.Core.fits FP.Core.b64 (.fin false c (e - 52)) := fit_of h.2.1.1 h.2.1.2 (by have := h.2.2; omega) (by have := h.2.2; omega)
  have g := h.2
  rw [← FP.Core.of64_val64 (DV_ne h), h.1, FP.Core.toNat_of64 hf]
  show (if c < FP.Core.b64.tails then FP.Core.assemble FP.Core.b64 false 0 c else FP.Core.assemble FP.Core.b64 false ((e - 52 - FP.Core.b64.qmin).toNat + 1) (c - FP.Core.b64.tails)) = _
  rw [t64, qn64, if_neg (by omega)]
  show (false.toNat * FP.Core.b64.exps + ((e - 52 - -1074).toNat + 1)) * FP.Core.b64.tails + (c - 4503599627370496) = _
  rw [t64, x64, show (e - 52 - -1074).toNat + 1 = (e + 1023).toNat by omega]
  show (0 * 2048 + (e + 1023).toNat) * 4503599627370496 + (c - 4503599627370496) = _
  omega
theorem DV_mul {x y : UInt64} {c : Nat} {e k : Int} (hx : DV x c e) (hy : DV y 4503599627370496 k) (h0 : -900 ≤ e + k) (h1 : e + k ≤ 900) : DV (FP.dmul x y) c (e + k) := by
  refine ⟨?_, hx.2.1, h0, h1⟩
  show FP.Core.val64 (FP.Core.dmul x y) = _
  rw [FP.Core.val64_dmul, hx.1, hy.1]
  show FP.Core.roundRatio FP.Core.b64 false (c * 4503599627370496) 1 (e - 52 + (k - 52)) = _
  refine FP.Core.roundRatio_exact FP.Core.good_b64 (by decide) (fit_of hx.2.1.1 hx.2.1.2 (by omega) (by omega)) ?_
  rw [show (e - 52 + (k - 52) - (e + k - 52)).toNat = 0 by omega, show (e + k - 52 - (e - 52 + (k - 52))).toNat = 52 by omega, show (2 : Nat) ^ 52 = 4503599627370496 by decide, Nat.pow_zero]
  omega
theorem DV_half {x y : UInt64} {c : Nat} {e k : Int} (hx : DV x c e) (hy : DV y 4503599627370496 k) (h0 : -900 ≤ e - k) (h1 : e - k ≤ 900) : DV (FP.ddiv x y) c (e - k) := by
  refine ⟨?_, hx.2.1, h0, h1⟩
  show FP.Core.val64 (FP.Core.ddiv x y) = _
  rw [FP.Core.val64_ddiv, hx.1, hy.1]
  show FP.Core.roundRatio FP.Core.b64 false c 4503599627370496 (e - 52 - (k - 52)) = _
  refine FP.Core.roundRatio_exact FP.Core.good_b64 (by decide) (fit_of hx.2.1.1 hx.2.1.2 (by omega) (by omega)) ?_
  rw [show (e - 52 - (k - 52) - (e - k - 52)).toNat = 52 by omega, show (e - k - 52 - (e - 52 - (k - 52))).toNat = 0 by omega, show (2 : Nat) ^ 52 = 4503599627370496 by decide, Nat.pow_zero]
  omega
theorem DV_div {x y : UInt64} {c d : Nat} {e k : Int} (hx : DV x c e) (hy : DV y d k) (h0 : -800 ≤ e - k) (h1 : e - k ≤ 800) : ∃ c' e', DV (FP.ddiv x y) c' e' ∧ e - k - 1 ≤ e' ∧ e' ≤ e - k + 1 := by
  have gx := hx.2
  have gy := hy.2
  have hv : FP.Core.val64 (FP.ddiv x y) = FP.Core.roundRatio FP.Core.b64 false c d (e - 52 - (k - 52)) := by
    show FP.Core.val64 (FP.Core.ddiv x y) = _
    rw [FP.Core.val64_ddiv, hx.1, hy.1]
    show (if d = 0 then (if c = 0 then FP.Core.Datum.nan else .inf false) else FP.Core.roundRatio FP.Core.b64 false c d (e - 52 - (k - 52))) = _
    rw [if_neg (by omega)]
  have key : ∀ q : Int, FP.Core.quantum FP.Core.b64 c d (e - 52 - (k - 52)) = q → 4503599627370496 * FP.Core.unitsDen d (e - 52 - (k - 52)) q ≤ FP.Core.unitsNum c (e - 52 - (k - 52)) q → FP.Core.unitsNum c (e - 52 - (k - 52)) q ≤ 9007199254740992 * FP.Core.unitsDen d (e - 52 - (k - 52)) q → 0 < FP.Core.unitsDen d (e - 52 - (k - 52)) q → -900 ≤ q + 52 → q + 53 ≤ 900 → ∃ c' e', DV (FP.ddiv x y) c' e' ∧ q + 52 ≤ e' ∧ e' ≤ q + 53 := by
    intro q hq hl hu hd hq0 hq1
    have n1 := FP.Core.nearest_ge hd hl
    have n2 := FP.Core.nearest_le hd hu
    have hr : FP.Core.roundRatio FP.Core.b64 false c d (e - 52 - (k - 52)) = FP.Core.settle FP.Core.b64 false (FP.Core.nearest (FP.Core.unitsNum c (e - 52 - (k - 52)) q) (FP.Core.unitsDen d (e - 52 - (k - 52)) q)) q := by
      unfold FP.Core.roundRatio FP.Core.roundAt
      rw [if_neg (by omega), hq]
    rw [hr] at hv
    generalize FP.Core.nearest (FP.Core.unitsNum c (e - 52 - (k - 52)) q) (FP.Core.unitsDen d (e - 52 - (k - 52)) q) = n at n1 n2 hv
    unfold FP.Core.settle FP.Core.bound at hv
    rw [p64, qx64, t64] at hv
    by_cases hn : n < 9007199254740992
    · rw [if_pos hn, if_pos (by omega)] at hv
      exact ⟨n, q + 52, ⟨by rw [hv, show q + 52 - 52 = q by omega], ⟨n1, hn⟩, by omega, by omega⟩, by omega, by omega⟩
    · rw [if_neg hn, if_pos (by omega)] at hv
      exact ⟨4503599627370496, q + 53, ⟨by rw [hv, show q + 53 - 52 = q + 1 by omega], ⟨by omega, by omega⟩, by omega, by omega⟩, by omega, by omega⟩
  by_cases hcd : d ≤ c
  · obtain ⟨c', e', r1, r2, r3⟩ := key (e - k - 52) (FP.Core.quantum_eq (by omega) (by omega) (by rw [qn64]; omega) (by
      show c * 2 ^ (-(e - k - 52 - (e - 52 - (k - 52)) + ((53 : Nat) : Int))).toNat < d * 2 ^ (e - k - 52 - (e - 52 - (k - 52)) + ((53 : Nat) : Int)).toNat
      rw [show (-(e - k - 52 - (e - 52 - (k - 52)) + ((53 : Nat) : Int))).toNat = 0 by omega, show (e - k - 52 - (e - 52 - (k - 52)) + ((53 : Nat) : Int)).toNat = 1 by omega]
      omega) (Or.inr (by
      show ¬ c * 2 ^ (-(e - k - 52 - (e - 52 - (k - 52)) + (((53 : Nat) : Int) - 1))).toNat < d * 2 ^ (e - k - 52 - (e - 52 - (k - 52)) + (((53 : Nat) : Int) - 1)).toNat
      rw [show (-(e - k - 52 - (e - 52 - (k - 52)) + (((53 : Nat) : Int) - 1))).toNat = 0 by omega, show (e - k - 52 - (e - 52 - (k - 52)) + (((53 : Nat) : Int) - 1)).toNat = 0 by omega]
      omega))) (by
      show 4503599627370496 * (d * 2 ^ (e - k - 52 - (e - 52 - (k - 52))).toNat) ≤ c * 2 ^ (e - 52 - (k - 52) - (e - k - 52)).toNat
      rw [show (e - k - 52 - (e - 52 - (k - 52))).toNat = 0 by omega, show (e - 52 - (k - 52) - (e - k - 52)).toNat = 52 by omega, show (2 : Nat) ^ 52 = 4503599627370496 by decide]
      omega) (by
      show c * 2 ^ (e - 52 - (k - 52) - (e - k - 52)).toNat ≤ 9007199254740992 * (d * 2 ^ (e - k - 52 - (e - 52 - (k - 52))).toNat)
      rw [show (e - k - 52 - (e - 52 - (k - 52))).toNat = 0 by omega, show (e - 52 - (k - 52) - (e - k - 52)).toNat = 52 by omega, show (2 : Nat) ^ 52 = 4503599627370496 by decide]
      omega) (FP.Core.unitsDen_pos (by omega) _ _) (by omega) (by omega)
    exact ⟨c', e', r1, by omega, by omega⟩
  · obtain ⟨c', e', r1, r2, r3⟩ := key (e - k - 53) (FP.Core.quantum_eq (by omega) (by omega) (by rw [qn64]; omega) (by
      show c * 2 ^ (-(e - k - 53 - (e - 52 - (k - 52)) + ((53 : Nat) : Int))).toNat < d * 2 ^ (e - k - 53 - (e - 52 - (k - 52)) + ((53 : Nat) : Int)).toNat
      rw [show (-(e - k - 53 - (e - 52 - (k - 52)) + ((53 : Nat) : Int))).toNat = 0 by omega, show (e - k - 53 - (e - 52 - (k - 52)) + ((53 : Nat) : Int)).toNat = 0 by omega]
      omega) (Or.inr (by
      show ¬ c * 2 ^ (-(e - k - 53 - (e - 52 - (k - 52)) + (((53 : Nat) : Int) - 1))).toNat < d * 2 ^ (e - k - 53 - (e - 52 - (k - 52)) + (((53 : Nat) : Int) - 1)).toNat
      rw [show (-(e - k - 53 - (e - 52 - (k - 52)) + (((53 : Nat) : Int) - 1))).toNat = 1 by omega, show (e - k - 53 - (e - 52 - (k - 52)) + (((53 : Nat) : Int) - 1)).toNat = 0 by omega]
      omega))) (by
      show 4503599627370496 * (d * 2 ^ (e - k - 53 - (e - 52 - (k - 52))).toNat) ≤ c * 2 ^ (e - 52 - (k - 52) - (e - k - 53)).toNat
      rw [show (e - k - 53 - (e - 52 - (k - 52))).toNat = 0 by omega, show (e - 52 - (k - 52) - (e - k - 53)).toNat = 53 by omega, show (2 : Nat) ^ 53 = 9007199254740992 by decide]
      omega) (by
      show c * 2 ^ (e - 52 - (k - 52) - (e - k - 53)).toNat ≤ 9007199254740992 * (d * 2 ^ (e - k - 53 - (e - 52 - (k - 52))).toNat)
      rw [show (e - k - 53 - (e - 52 - (k - 52))).toNat = 0 by omega, show (e - 52 - (k - 52) - (e - k - 53)).toNat = 53 by omega, show (2 : Nat) ^ 53 = 9007199254740992 by decide]
      omega) (FP.Core.unitsDen_pos (by omega) _ _) (by omega) (by omega)
    exact ⟨c', e', r1, by omega, by omega⟩
/-- a whole number scaled to 53 digits -/
theorem norm_n {f : Nat} (h : f ≠ 0) (hl : f.log2 ≤ 52) : 4503599627370496 ≤ f * 2 ^ (52 - f.log2) ∧ f * 2 ^ (52 - f.log2) < 9007199254740992 := by
  have l1 := Nat.log2_self_le h
  have l2 : f < 2 ^ (f.log2 + 1) := Nat.lt_log2_self
  have e1 : 2 ^ f.log2 * 2 ^ (52 - f.log2) = 4503599627370496 := by
    rw [← Nat.pow_add, show f.log2 + (52 - f.log2) = 52 by omega]
  have e2 : 2 ^ (f.log2 + 1) * 2 ^ (52 - f.log2) = 9007199254740992 := by
    rw [← Nat.pow_add, show f.log2 + 1 + (52 - f.log2) = 53 by omega]
  rw [← e1, ← e2]
  exact ⟨Nat.mul_le_mul_right _ l1, Nat.mul_lt_mul_of_pos_right l2 (Nat.two_pow_pos _)⟩
theorem round_n {f : Nat} {q : Int} (h : f ≠ 0) (hl : f.log2 ≤ 52) (h0 : -800 ≤ q) (h1 : q ≤ 800) : FP.Core.roundRatio FP.Core.b64 false f 1 q = .fin false (f * 2 ^ (52 - f.log2)) (q + (f.log2 : Int) - 52) := by
  have n := norm_n h hl
  refine FP.Core.roundRatio_exact FP.Core.good_b64 (by decide) (fit_of n.1 n.2 (by omega) (by omega)) ?_
  rw [show (q - (q + (f.log2 : Int) - 52)).toNat = 52 - f.log2 by omega, show (q + (f.log2 : Int) - 52 - q).toNat = 0 by omega]
  omega
theorem DV_i2d {a : Int} (h0 : 1 ≤ a) (h1 : a ≤ 1000000) : ∃ c l, DV (FP.i2d (ii a)) c l ∧ 0 ≤ l ∧ l ≤ 20 := by
  have hn : a.natAbs ≠ 0 := by omega
  have hl : a.natAbs.log2 ≤ 20 := by
    have := (Nat.log2_lt (n := a.natAbs) (k := 21) hn).mpr (by omega)
    omega
  have n := norm_n hn (by omega)
  refine ⟨_, (a.natAbs.log2 : Int), ⟨?_, n, by omega, by omega⟩, by omega, by omega⟩
  show FP.Core.val64 (FP.Core.i2d (ii a)) = _
  rw [FP.Core.val64_i2d, ii_toInt (by omega) (by omega)]
  show FP.Core.roundRatio FP.Core.b64 (decide (a < 0)) a.natAbs 1 0 = _
  rw [show decide (a < 0) = false from decide_eq_false (by omega), round_n hn (by omega) (by omega) (by omega)]
  exact congrArg _ (by omega)
theorem DV_share {a w : Int} (h0 : 1 ≤ a) (h1 : a ≤ 1000000) (h2 : 1 ≤ w) (h3 : w ≤ 1000000) : ∃ c e, DV (FP.ddiv (FP.i2d (ii a)) (FP.i2d (ii w))) c e ∧ -30 ≤ e ∧ e ≤ 30 := by
  obtain ⟨c, l, hx, l0, l1⟩ := DV_i2d h0 h1
  obtain ⟨d, k, hy, k0, k1⟩ := DV_i2d h2 h3
  obtain ⟨c', e', r, r0, r1⟩ := DV_div hx hy (by omega) (by omega)
  exact ⟨c', e', r, by omega, by omega⟩
theorem DV_c1 : DV FP.dconst1 4503599627370496 0 := ⟨by decide +kernel, by omega, by omega, by omega⟩
theorem DV_c2 : DV (4611686018427387904 : UInt64) 4503599627370496 1 := ⟨by decide +kernel, by omega, by omega, by omega⟩
theorem DV_c52 : DV (4841369599423283200 : UInt64) 4503599627370496 52 := ⟨by decide +kernel, by omega, by omega, by omega⟩
/-- which of two is the less -/
theorem DV_lt {x y : UInt64} {c : Nat} {e k : Int} (hx : DV x c e) (hy : DV y 4503599627370496 k) (h : e < k) : FP.dcmp x y = some .lt := by
  have gx := hx.2
  show FP.Core.order (FP.Core.val64 x) (FP.Core.val64 y) = _
  rw [hx.1, hy.1]
  show some (compare ((c * 2 ^ (e - 52 - min (e - 52) (k - 52)).toNat : Nat) : Int) ((4503599627370496 * 2 ^ (k - 52 - min (e - 52) (k - 52)).toNat : Nat) : Int)) = _
  obtain ⟨m, hm⟩ : ∃ m : Nat, (k - 52 - min (e - 52) (k - 52)).toNat = m + 1 := ⟨(k - e - 1).toNat, by omega⟩
  have p := Nat.two_pow_pos m
  rw [hm, show (e - 52 - min (e - 52) (k - 52)).toNat = 0 by omega, Nat.pow_succ, (FP.Core.compare_lt_iff _ _).mpr (by omega)]
theorem DV_ge {x y : UInt64} {c : Nat} {e k : Int} (hx : DV x c e) (hy : DV y 4503599627370496 k) (h : k ≤ e) : ∃ o, FP.dcmp x y = some o ∧ o ≠ .lt := by
  have gx := hx.2
  refine ⟨compare ((c * 2 ^ (e - 52 - min (e - 52) (k - 52)).toNat : Nat) : Int) ((4503599627370496 * 2 ^ (k - 52 - min (e - 52) (k - 52)).toNat : Nat) : Int), ?_, fun hh => ?_⟩
  · show FP.Core.order (FP.Core.val64 x) (FP.Core.val64 y) = _
    rw [hx.1, hy.1]
    rfl
  · have := (FP.Core.compare_lt_iff _ _).mp hh
    rw [show (k - 52 - min (e - 52) (k - 52)).toNat = 0 by omega] at this
    have := Nat.le_mul_of_pos_right c (Nat.two_pow_pos (e - 52 - min (e - 52) (k - 52)).toNat)
    omega
theorem cv_lt {op : CmpOp} : Op.cmpValue (some .lt) op = ii (-1) := rfl
theorem cv_ge {o : Ordering} (h : o ≠ .lt) (op : CmpOp) : Op.cmpValue (some o) op = ii 0 ∨ Op.cmpValue (some o) op = ii 1 := by
  cases o with
  | lt => exact absurd rfl h
  | eq => exact Or.inl rfl
  | gt => exact Or.inr rfl
