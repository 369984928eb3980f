/-! the bits of a share, as the class tells them -/
theorem dbl_at {x : UInt64} {c : Nat} {e : Int} (h : DV x c e) : fJxe99ae_doubleToLongBits_ccdee x = some x.toInt64 := by
  have q : FP.dcmp x x = some .eq := FP.Core.dcmp_self (DV_ne h)
  unfold fJxe99ae_doubleToLongBits_ccdee fJxe99ae_isNaN_b9ae7
  rw [q, if_pos (show Op.cmpValue (some .eq) .l = 0 from rfl), Option.bind_some]
  exact if_pos rfl
theorem i64_add (a b : Int) : Int64.ofInt a + Int64.ofInt b = Int64.ofInt (a + b) := (Int64.ofInt_add a b).symm
theorem i64_sub (a b : Int) : Int64.ofInt a - Int64.ofInt b = Int64.ofInt (a - b) := (Int64.ofInt_sub a b).symm
theorem sub_v {x : UInt64} {c : Nat} (h : DV x c 0) : FP.Core.val64 (FP.dsub x FP.dconst1) = FP.Core.roundRatio FP.Core.b64 false (c - 4503599627370496) 1 (-52) := by
  have g := h.2
  have hs : FP.Core.sumUnits false c (0 - 52) true 4503599627370496 (0 - 52) (min (0 - 52) (0 - 52)) = (c : Int) - 4503599627370496 := by
    show ((c * 2 ^ ((0 - 52 : Int) - min (0 - 52) (0 - 52)).toNat : Nat) : Int) + -((4503599627370496 * 2 ^ ((0 - 52 : Int) - min (0 - 52) (0 - 52)).toNat : Nat) : Int) = _
    rw [show ((0 - 52 : Int) - min (0 - 52) (0 - 52)).toNat = 0 by decide, Nat.pow_zero, Nat.mul_one, Nat.mul_one]
    omega
  have hg : FP.Core.sumSign false true ((c : Int) - 4503599627370496) = false := by
    unfold FP.Core.sumSign
    by_cases hz : (c : Int) - 4503599627370496 = 0
    · rw [if_pos hz]
      rfl
    · rw [if_neg hz]
      exact decide_eq_false (by omega)
  show FP.Core.val64 (FP.Core.dsub x FP.dconst1) = _
  rw [FP.Core.val64_dsub, h.1, DV_c1.1]
  show FP.Core.roundRatio FP.Core.b64 (FP.Core.sumSign false true (FP.Core.sumUnits false c (0 - 52) true 4503599627370496 (0 - 52) (min (0 - 52) (0 - 52)))) (FP.Core.sumUnits false c (0 - 52) true 4503599627370496 (0 - 52) (min (0 - 52) (0 - 52))).natAbs 1 (min (0 - 52) (0 - 52)) = _
  rw [hs, hg, show ((c : Int) - 4503599627370496).natAbs = c - 4503599627370496 by omega]
  rfl
theorem d2l_n {y : UInt64} {f : Nat} {e : Int} (hl : f.log2 ≤ 51) (h : DV y (f * 2 ^ (52 - f.log2)) e) (he : e = (f.log2 : Int)) (hf : f < 4503599627370496) : FP.d2l y = Int64.ofInt (f : Int) := by
  have ht : (Int64.ofInt (f : Int)).toInt = (f : Int) := Int64.toInt_ofInt_of_le (by omega) (by omega)
  refine FP.Core.d2l_int ?_
  rw [ht]
  show FP.Core.Whole (f : Int) (FP.Core.val64 y)
  rw [h.1]
  show ((f * 2 ^ (52 - f.log2) * 2 ^ (e - 52).toNat : Nat) : Int) = (f : Int) * ((2 ^ (-(e - 52)).toNat : Nat) : Int)
  rw [show (e - 52).toNat = 0 by omega, show (-(e - 52)).toNat = 52 - f.log2 by omega, Nat.pow_zero, Nat.mul_one]
  exact Int.natCast_mul _ _
theorem z_ok : vfn 0 = true ∧ FP.dmul 0 (4841369599423283200 : UInt64) = 0 ∧ FP.d2l 0 = Int64.ofInt 0 := by decide +kernel
theorem bits_77 {x : UInt64} {c : Nat} {X : Int64} (h : DV x c 0) : lX10_bitsOf_77 x X = some ((X <<< ((52 : Int32).toInt64 &&& 63)) + Int64.ofInt ((c : Int) - 4503599627370496)) := by
  have g := h.2
  have hv := sub_v h
  unfold lX10_bitsOf_77
  by_cases hc : c - 4503599627370496 = 0
  · have hz : FP.dsub x FP.dconst1 = 0 := by
      refine FP.Core.val64_inj ?_ ?_
      · rw [hv, hc]
        exact FP.Core.Datum.noConfusion
      · rw [hv, hc, FP.Core.val64_zero]
        rfl
    rw [hz, if_pos z_ok.1, z_ok.2.1, if_pos z_ok.1, z_ok.2.2, show (c : Int) - 4503599627370496 = 0 by omega]
  · have hl : (c - 4503599627370496).log2 ≤ 51 := by
      have := (Nat.log2_lt (n := c - 4503599627370496) (k := 52) hc).mpr (by omega)
      omega
    have n := norm_n hc (by omega)
    rw [round_n hc (by omega) (by omega) (by omega)] at hv
    have hD : DV (FP.dsub x FP.dconst1) ((c - 4503599627370496) * 2 ^ (52 - (c - 4503599627370496).log2)) (((c - 4503599627370496).log2 : Int) - 52) := ⟨by rw [hv]; exact congrArg _ (by omega), n, by omega, by omega⟩
    have hM := DV_mul hD DV_c52 (by omega) (by omega)
    rw [if_pos (vfn_of (DV_ne hD)), if_pos (vfn_of (DV_ne hM)), d2l_n hl hM (by omega) (by omega), show ((c - 4503599627370496 : Nat) : Int) = (c : Int) - 4503599627370496 by omega]
set_option maxRecDepth 100000 in
theorem sh52 : ∀ E : Nat, E < 2047 → (Int64.ofInt (E : Int)) <<< ((52 : Int32).toInt64 &&& 63) = Int64.ofInt ((E * 4503599627370496 : Nat) : Int) := by decide +kernel
theorem half_loop {c : Nat} {E : Int} : ∀ (f n : Nat) (i e : Int) (x : UInt64), DV x c e → e ≤ f → f < n → 0 ≤ i → i + f < 64 → ∃ x' e', lX10_bitsOf_10 n x (Int64.ofInt (1023 + E - e)) (ii i) = lX10_bitsOf_43 x' (Int64.ofInt (1023 + E - e')) ∧ DV x' c e' ∧ e' ≤ 0 ∧ (e ≤ 0 → e' = e) ∧ (0 ≤ e → e' = 0) := by
  intro f
  induction f with
  | zero =>
    intro n i e x hx h1 h2 h3 h4
    obtain ⟨n, rfl⟩ : ∃ k, n = k + 1 := ⟨n - 1, by omega⟩
    push_cast at h1 h4
    have q := DV_lt hx DV_c2 (show e < 1 by omega)
    refine ⟨x, e, ?_, hx, by omega, fun _ => rfl, fun _ => by omega⟩
    rw [lX10_bitsOf_10]
    generalize lX10_bitsOf_10 n = K
    simp (disch := omega) only [Option.bind_some, km1, k0, k1, k2, k3, k4, k5, k6, k7, k8, k9, k10, k11, k15, k16, k20, k32, k33, k39, k40, k43, k44, k45, k48, k49, k50, k51, k52, k57, k59, k60, k63, k64, k80, k97, k100, k101, k108, k112, k114, k117, k126, k130, k650, k100000, k1000000, ii_add, ii_sub, ii_neg, ii_mul, ii_lt, ii_le, ii_eq, if_true, if_false, if_pos, if_neg, q, cv_lt]
  | succ f ih =>
    intro n i e x hx h1 h2 h3 h4
    obtain ⟨n, rfl⟩ : ∃ k, n = k + 1 := ⟨n - 1, by omega⟩
    push_cast at h1 h4
    by_cases he : e < 1
    · have q := DV_lt hx DV_c2 he
      refine ⟨x, e, ?_, hx, by omega, fun _ => rfl, fun _ => by omega⟩
      rw [lX10_bitsOf_10]
      generalize lX10_bitsOf_10 n = K
      simp (disch := omega) only [Option.bind_some, km1, k0, k1, k2, k3, k4, k5, k6, k7, k8, k9, k10, k11, k15, k16, k20, k32, k33, k39, k40, k43, k44, k45, k48, k49, k50, k51, k52, k57, k59, k60, k63, k64, k80, k97, k100, k101, k108, k112, k114, k117, k126, k130, k650, k100000, k1000000, ii_add, ii_sub, ii_neg, ii_mul, ii_lt, ii_le, ii_eq, if_true, if_false, if_pos, if_neg, q, cv_lt]
    · have gx := hx.2
      obtain ⟨o, q, qo⟩ := DV_ge hx DV_c2 (show 1 ≤ e by omega)
      have hd := DV_half hx DV_c2 (by omega) (by omega)
      obtain ⟨x', e', i1, i2, i3, i4, i5⟩ := ih n (i + 1) (e - 1) _ hd (by omega) (by omega) (by omega) (by omega)
      refine ⟨x', e', ?_, i2, i3, fun hh => by omega, fun _ => i5 (by omega)⟩
      have w : Int64.ofInt (1023 + E - e) + 1 = Int64.ofInt (1023 + E - (e - 1)) := by
        rw [show (1 : Int64) = Int64.ofInt 1 from rfl, i64_add]
        exact congrArg _ (by omega)
      have vf := vfn_of (DV_ne hd)
      rw [lX10_bitsOf_10]
      generalize lX10_bitsOf_10 n = K at i1 ⊢
      rcases cv_ge qo .l with cv | cv
      · simp (disch := omega) only [Option.bind_some, km1, k0, k1, k2, k3, k4, k5, k6, k7, k8, k9, k10, k11, k15, k16, k20, k32, k33, k39, k40, k43, k44, k45, k48, k49, k50, k51, k52, k57, k59, k60, k63, k64, k80, k97, k100, k101, k108, k112, k114, k117, k126, k130, k650, k100000, k1000000, ii_add, ii_sub, ii_neg, ii_mul, ii_lt, ii_le, ii_eq, if_true, if_false, if_pos, if_neg, q, cv, if_pos vf, w, i1]
      · simp (disch := omega) only [Option.bind_some, km1, k0, k1, k2, k3, k4, k5, k6, k7, k8, k9, k10, k11, k15, k16, k20, k32, k33, k39, k40, k43, k44, k45, k48, k49, k50, k51, k52, k57, k59, k60, k63, k64, k80, k97, k100, k101, k108, k112, k114, k117, k126, k130, k650, k100000, k1000000, ii_add, ii_sub, ii_neg, ii_mul, ii_lt, ii_le, ii_eq, if_true, if_false, if_pos, if_neg, q, cv, if_pos vf, w, i1]
theorem dbl_loop {c : Nat} {E : Int} : ∀ (f n : Nat) (i e : Int) (x : UInt64), DV x c e → -e ≤ f → f < n → 0 ≤ i → i + f < 64 → e ≤ 0 → ∃ x', lX10_bitsOf_46 n x (Int64.ofInt (1023 + E - e)) (ii i) = lX10_bitsOf_77 x' (Int64.ofInt (1023 + E)) ∧ DV x' c 0 := by
  intro f
  induction f with
  | zero =>
    intro n i e x hx h1 h2 h3 h4 h5
    obtain ⟨n, rfl⟩ : ∃ k, n = k + 1 := ⟨n - 1, by omega⟩
    push_cast at h1 h4
    have he : e = 0 := by omega
    subst he
    obtain ⟨o, q, qo⟩ := DV_ge hx DV_c1 (show 0 ≤ 0 by omega)
    refine ⟨x, ?_, hx⟩
    rw [lX10_bitsOf_46, Int.sub_zero]
    generalize lX10_bitsOf_46 n = K
    rcases cv_ge qo .g with cv | cv
    · simp (disch := omega) only [Option.bind_some, km1, k0, k1, k2, k3, k4, k5, k6, k7, k8, k9, k10, k11, k15, k16, k20, k32, k33, k39, k40, k43, k44, k45, k48, k49, k50, k51, k52, k57, k59, k60, k63, k64, k80, k97, k100, k101, k108, k112, k114, k117, k126, k130, k650, k100000, k1000000, ii_add, ii_sub, ii_neg, ii_mul, ii_lt, ii_le, ii_eq, if_true, if_false, if_pos, if_neg, q, cv]
    · simp (disch := omega) only [Option.bind_some, km1, k0, k1, k2, k3, k4, k5, k6, k7, k8, k9, k10, k11, k15, k16, k20, k32, k33, k39, k40, k43, k44, k45, k48, k49, k50, k51, k52, k57, k59, k60, k63, k64, k80, k97, k100, k101, k108, k112, k114, k117, k126, k130, k650, k100000, k1000000, ii_add, ii_sub, ii_neg, ii_mul, ii_lt, ii_le, ii_eq, if_true, if_false, if_pos, if_neg, q, cv]
  | succ f ih =>
    intro n i e x hx h1 h2 h3 h4 h5
    obtain ⟨n, rfl⟩ : ∃ k, n = k + 1 := ⟨n - 1, by omega⟩
    push_cast at h1 h4
    by_cases he : e < 0
    · have gx := hx.2
      have q := DV_lt hx DV_c1 he
      have hd := DV_mul hx DV_c2 (by omega) (by omega)
      obtain ⟨x', i1, i2⟩ := ih n (i + 1) (e + 1) _ hd (by omega) (by omega) (by omega) (by omega) (by omega)
      refine ⟨x', ?_, i2⟩
      have w : Int64.ofInt (1023 + E - e) - 1 = Int64.ofInt (1023 + E - (e + 1)) := by
        rw [show (1 : Int64) = Int64.ofInt 1 from rfl, i64_sub]
        exact congrArg _ (by omega)
      have vf := vfn_of (DV_ne hd)
      rw [lX10_bitsOf_46]
      generalize lX10_bitsOf_46 n = K at i1 ⊢
      simp (disch := omega) only [Option.bind_some, km1, k0, k1, k2, k3, k4, k5, k6, k7, k8, k9, k10, k11, k15, k16, k20, k32, k33, k39, k40, k43, k44, k45, k48, k49, k50, k51, k52, k57, k59, k60, k63, k64, k80, k97, k100, k101, k108, k112, k114, k117, k126, k130, k650, k100000, k1000000, ii_add, ii_sub, ii_neg, ii_mul, ii_lt, ii_le, ii_eq, if_true, if_false, if_pos, if_neg, q, cv_lt, if_pos vf, w, i1]
    · have he : e = 0 := by omega
      subst he
      obtain ⟨o, q, qo⟩ := DV_ge hx DV_c1 (show 0 ≤ 0 by omega)
      refine ⟨x, ?_, hx⟩
      rw [lX10_bitsOf_46, Int.sub_zero]
      generalize lX10_bitsOf_46 n = K
      rcases cv_ge qo .g with cv | cv
      · simp (disch := omega) only [Option.bind_some, km1, k0, k1, k2, k3, k4, k5, k6, k7, k8, k9, k10, k11, k15, k16, k20, k32, k33, k39, k40, k43, k44, k45, k48, k49, k50, k51, k52, k57, k59, k60, k63, k64, k80, k97, k100, k101, k108, k112, k114, k117, k126, k130, k650, k100000, k1000000, ii_add, ii_sub, ii_neg, ii_mul, ii_lt, ii_le, ii_eq, if_true, if_false, if_pos, if_neg, q, cv]
      · simp (disch := omega) only [Option.bind_some, km1, k0, k1, k2, k3, k4, k5, k6, k7, k8, k9, k10, k11, k15, k16, k20, k32, k33, k39, k40, k43, k44, k45, k48, k49, k50, k51, k52, k57, k59, k60, k63, k64, k80, k97, k100, k101, k108, k112, k114, k117, k126, k130, k650, k100000, k1000000, ii_add, ii_sub, ii_neg, ii_mul, ii_lt, ii_le, ii_eq, if_true, if_false, if_pos, if_neg, q, cv]
theorem bits_at {x : UInt64} {c : Nat} {e : Int} (h : DV x c e) (h0 : -60 ≤ e) (h1 : e ≤ 60) : fX10_bitsOf x = some x.toInt64 := by
  have g := h.2
  obtain ⟨x1, e1, i1, i2, i3, i4, i5⟩ := half_loop (E := e) 60 FU 0 e x h (by omega) (by decide) (by omega) (by omega)
  obtain ⟨x2, j1, j2⟩ := dbl_loop (E := e) 60 FU 0 e1 x1 i2 (by omega) (by decide) (by omega) (by omega) (by omega)
  rw [show (1023 : Int) + e - e = 1023 by omega] at i1
  have i1 : lX10_bitsOf_10 FU x 1023 0 = lX10_bitsOf_43 x1 (Int64.ofInt (1023 + e - e1)) := i1
  have j1 : lX10_bitsOf_46 FU x1 (Int64.ofInt (1023 + e - e1)) 0 = lX10_bitsOf_77 x2 (Int64.ofInt (1023 + e)) := j1
  have s := sh52 (1023 + e).toNat (by omega)
  rw [show (((1023 + e).toNat : Nat) : Int) = 1023 + e by omega] at s
  unfold fX10_bitsOf
  rw [i1]
  unfold lX10_bitsOf_43
  rw [j1, bits_77 j2, s, i64_add]
  have n := DV_toNat h
  have u : x.toInt64 = Int64.ofInt ((x.toNat : Nat) : Int) := by
    rw [Int64.ofInt_eq_ofNat]
    have : (UInt64.ofNat x.toNat).toInt64 = Int64.ofNat x.toNat := rfl
    rw [UInt64.ofNat_toNat] at this
    exact this
  rw [u, n]
  exact congrArg (fun z => some (Int64.ofInt z)) (by omega)
