/-! the whole sack, told anew -/
theorem sack_316 {S : mSh} {μ : mMm} {cx : Nat} {A : AS} (hI : LI S μ.1 A) : lL_sack_316 S μ cx 0 77 (ii (scost A.v)) (ii (sletters A.v)) (ii 1) = some (ii 1, S, μ, cx) := by
  obtain ⟨hS, hA, hC, hQ, hX, hR⟩ := hI
  have hS1 := hS
  obtain ⟨-, -, -, -, -, o77, n77⟩ := hS
  have q6 := hQ 6 (by omega) (by omega)
  have q4 := hQ 4 (by omega) (by omega)
  have g6 := wf_6 hA.1
  have hD := cD_at (S := S) hS1 (cShare hA hC)
  obtain ⟨c, e, hv, -⟩ := shr_DV hA.1
  have hz := DV_eq hv
  have vf := vfn_of (DV_ne hv)
  by_cases h : A.v 6 = 0
  · have e1 : shr A.v = FP.dconst1 := if_pos h
    rw [e1] at hz hD
    simp (disch := omega) only [Option.bind_some, km102, km101, km10, km1, k0, k1, k2, k3, k4, k5, k6, k7, k8, k9, k10, k11, k12, k13, k14, k15, k16, k17, k20, k22, k31, k32, k33, k39, k40, k43, k44, k45, k48, k49, k50, k51, k52, k57, k59, k60, k63, k64, k80, k90, k97, k100, k101, k108, k112, k114, k117, k126, k130, k650, k1000, k100000, k1000000, k15485863, k32452867, k2147483647, ii_add, ii_sub, ii_neg, ii_mul, ii_lt, ii_le, ii_eq, if_true, if_false, if_pos, if_neg, lL_sack_316, lL_sack_363, ldI_at o77 n77, q6, hD, hz]
  · have e1 := (shr_n h).symm
    simp (disch := omega) only [Option.bind_some, km102, km101, km10, km1, k0, k1, k2, k3, k4, k5, k6, k7, k8, k9, k10, k11, k12, k13, k14, k15, k16, k17, k20, k22, k31, k32, k33, k39, k40, k43, k44, k45, k48, k49, k50, k51, k52, k57, k59, k60, k63, k64, k80, k90, k97, k100, k101, k108, k112, k114, k117, k126, k130, k650, k1000, k100000, k1000000, k15485863, k32452867, k2147483647, ii_add, ii_sub, ii_neg, ii_mul, ii_lt, ii_le, ii_eq, if_true, if_false, if_pos, if_neg, lL_sack_316, lL_sack_363, ldI_at o77 n77, q6, q4, hD, e1, if_pos vf, hz]
theorem sack_226 {S : mSh} {μ : mMm} {cx : Nat} {A : AS} (hI : LI S μ.1 A) : ∃ m', lL_sack_226 S μ cx 0 77 (ii (scost A.v)) (ii (sletters A.v)) (ii (tld (unp A.v))) (ii (isf A.v)) = some (ii 1, S, (m', μ.2), cx) ∧ (∀ a, 74 ≤ a → m' a = μ.1 a) ∧ CI m' A := by
  have hI0 := hI
  obtain ⟨hS, hA, hC, hQ, hX, hR⟩ := hI
  have hS1 := hS
  obtain ⟨-, -, -, -, -, o77, n77⟩ := hS
  have q6 := hQ 6 (by omega) (by omega)
  have g6 := wf_6 hA.1
  have sl := sl_b hA.1
  have hu := unp_b hA.1
  have hf := isf_b A.v
  have r1 := cP_at (μ := μ) hS1 (cTokens hC)
  have r2 := cP_at (μ := μ) hS1 (cSackCost hA hC)
  have r3 := cP_at (μ := μ) hS1 (cSackLetters hA hC)
  obtain ⟨m1, a1, a2, a3⟩ := cM_at hS1 (cIsForText hA hC)
  have I1 : LI S m1 A := LI_c hI0 (fun a h _ => a2 a h) a3
  obtain ⟨m2, b1, b2, b3⟩ := cM_at (μ := (m1, μ.2)) hS1 (cWrongToken (μ := (m1, μ.2)) hA a3)
  have I2 : LI S m2 A := LI_c I1 (fun a h _ => b2 a h) b3
  obtain ⟨m3, c1, c2, c3⟩ := cM_at (μ := (m2, μ.2)) hS1 (cWrongReason (μ := (m2, μ.2)) hA b3)
  have I3 : LI S m3 A := LI_c I2 (fun a h _ => c2 a h) c3
  have fin := sack_316 (μ := (m3, μ.2)) (cx := cx) I3
  refine ⟨m3, ?_, fun a h => (c2 a h).trans ((b2 a h).trans (a2 a h)), c3⟩
  have hfb : 0 ≤ isf A.v ∧ isf A.v ≤ 1 := by omega
  unfold tld
  by_cases hy : (unp A.v).2.2.2 = 0
  · rw [if_pos hy]
    have hw : (unp A.v).2.2.1 = -1 := hu.2.2.1.2.1.mpr hy
    rw [hw] at b1
    rw [hy] at c1
    simp (disch := omega) only [Option.bind_some, km102, km101, km10, km1, k0, k1, k2, k3, k4, k5, k6, k7, k8, k9, k10, k11, k12, k13, k14, k15, k16, k17, k20, k22, k31, k32, k33, k39, k40, k43, k44, k45, k48, k49, k50, k51, k52, k57, k59, k60, k63, k64, k80, k90, k97, k100, k101, k108, k112, k114, k117, k126, k130, k650, k1000, k100000, k1000000, k15485863, k32452867, k2147483647, ii_add, ii_sub, ii_neg, ii_mul, ii_lt, ii_le, ii_eq, if_true, if_false, if_pos, if_neg, lL_sack_226, lL_sack_286, lL_sack_308, ldI_at o77 n77, q6, r1, r2, r3, a1, b1, c1]
    exact fin
  · rw [if_neg hy]
    have hw : (unp A.v).2.2.1 ≠ -1 := fun h => hy (hu.2.2.1.2.1.mp h)
    generalize (unp A.v).2.2.1 = w at *
    generalize (unp A.v).2.2.2 = y at *
    have e1 : -(-10 * (w + 1) - y) / 10 - 1 = w := by omega
    have e2 : -(-10 * (w + 1) - y) % 10 = y := by omega
    simp (disch := omega) only [Option.bind_some, km102, km101, km10, km1, k0, k1, k2, k3, k4, k5, k6, k7, k8, k9, k10, k11, k12, k13, k14, k15, k16, k17, k20, k22, k31, k32, k33, k39, k40, k43, k44, k45, k48, k49, k50, k51, k52, k57, k59, k60, k63, k64, k80, k90, k97, k100, k101, k108, k112, k114, k117, k126, k130, k650, k1000, k100000, k1000000, k15485863, k32452867, k2147483647, ii_add, ii_sub, ii_neg, ii_mul, ii_lt, ii_le, ii_eq, if_true, if_false, if_pos, if_neg, lL_sack_226, lL_sack_286, lL_sack_308, ldI_at o77 n77, q6, r1, r2, r3, a1, b1, c1, dDiv_at, dRem_at]
    exact fin
theorem sack_187_0 {S : mSh} {μ : mMm} {cx n C : Nat} {v : Int → Int} {x6 x7 x8 : Int32} {j : Int} (hS : LSh S) (hQ : RQ μ.1 v) : lL_sack_187 (n + 1) S μ cx 0 74 77 C x6 x7 x8 (ii 0) (ii j) = lL_sack_226 S μ cx 0 77 x6 x7 x8 (ii 0) := by
  obtain ⟨-, -, -, -, -, o77, n77⟩ := hS
  have q0 := hQ 0 (by omega) (by omega)
  simp (disch := omega) only [Option.bind_some, km102, km101, km10, km1, k0, k1, k2, k3, k4, k5, k6, k7, k8, k9, k10, k11, k12, k13, k14, k15, k16, k17, k20, k22, k31, k32, k33, k39, k40, k43, k44, k45, k48, k49, k50, k51, k52, k57, k59, k60, k63, k64, k80, k90, k97, k100, k101, k108, k112, k114, k117, k126, k130, k650, k1000, k100000, k1000000, k15485863, k32452867, k2147483647, ii_add, ii_sub, ii_neg, ii_mul, ii_lt, ii_le, ii_eq, if_true, if_false, if_pos, if_neg, lL_sack_187, ldI_at o77 n77, q0, ite_self]
theorem sack_187 {S : mSh} {μ : mMm} {cx C : Nat} {v U : Int → Int} {x6 x7 x8 : Int32} (hS : LSh S) (hCC : LRw S C 40) (hW : WF v) (hQ : RQ μ.1 v) (hX : RX μ.1 v) (hU : ∀ i, 0 ≤ i → i < v 0 → μ.1 C i.toNat = ii (U i)) (hB : UB (v 0) U) : ∀ (f n : Nat) (j : Int), v 0 - j = f → f + 1 < n → 0 ≤ j → lL_sack_187 n S μ cx 0 74 77 C x6 x7 x8 (ii 1) (ii j) = lL_sack_226 S μ cx 0 77 x6 x7 x8 (ii (agr U (tx v) f j)) := by
  have hS1 := hS
  obtain ⟨-, -, ⟨o74, n74⟩, -, -, o77, n77⟩ := hS
  obtain ⟨oC, nC, hC78⟩ := hCC
  have g0 := wf_0 hW
  have q0 := hQ 0 (by omega) (by omega)
  intro f
  induction f with
  | zero =>
    intro n j h1 h2 h3
    obtain ⟨n, rfl⟩ : ∃ k, n = k + 1 := ⟨n - 1, by omega⟩
    show _ = lL_sack_226 S μ cx 0 77 x6 x7 x8 (ii 1)
    push_cast at h1
    simp (disch := omega) only [Option.bind_some, km102, km101, km10, km1, k0, k1, k2, k3, k4, k5, k6, k7, k8, k9, k10, k11, k12, k13, k14, k15, k16, k17, k20, k22, k31, k32, k33, k39, k40, k43, k44, k45, k48, k49, k50, k51, k52, k57, k59, k60, k63, k64, k80, k90, k97, k100, k101, k108, k112, k114, k117, k126, k130, k650, k1000, k100000, k1000000, k15485863, k32452867, k2147483647, ii_add, ii_sub, ii_neg, ii_mul, ii_lt, ii_le, ii_eq, if_true, if_false, if_pos, if_neg, lL_sack_187, ldI_at o77 n77, q0]
  | succ f ih =>
    intro n j h1 h2 h3
    obtain ⟨n, rfl⟩ : ∃ k, n = k + 1 + 1 := ⟨n - 2, by omega⟩
    have c1 := hU j h3 (by push_cast at h1; omega)
    have c2 := hX j h3 (by push_cast at h1; omega)
    have b1 := hB j h3 (by push_cast at h1; omega)
    have b2 := wf_t hW (k := j) h3 (by push_cast at h1; omega)
    push_cast at h1
    unfold agr
    by_cases h : U j = tx v j
    · rw [if_pos h]
      have hI := ih (n + 1) (j + 1) (by push_cast; omega) (by omega) (by omega)
      rw [lL_sack_187]
      simp (disch := omega) only [Option.bind_some, km102, km101, km10, km1, k0, k1, k2, k3, k4, k5, k6, k7, k8, k9, k10, k11, k12, k13, k14, k15, k16, k17, k20, k22, k31, k32, k33, k39, k40, k43, k44, k45, k48, k49, k50, k51, k52, k57, k59, k60, k63, k64, k80, k90, k97, k100, k101, k108, k112, k114, k117, k126, k130, k650, k1000, k100000, k1000000, k15485863, k32452867, k2147483647, ii_add, ii_sub, ii_neg, ii_mul, ii_lt, ii_le, ii_eq, if_true, if_false, if_pos, if_neg, lL_sack_218, ldI_at o77 n77, ldI_at o74 n74, ldI_at oC nC, q0, c1, c2]
      exact hI
    · rw [if_neg h]
      have hI := sack_187_0 (cx := cx) (n := n) (C := C) (x6 := x6) (x7 := x7) (x8 := x8) (j := j + 1) hS1 hQ
      rw [lL_sack_187]
      simp (disch := omega) only [Option.bind_some, km102, km101, km10, km1, k0, k1, k2, k3, k4, k5, k6, k7, k8, k9, k10, k11, k12, k13, k14, k15, k16, k17, k20, k22, k31, k32, k33, k39, k40, k43, k44, k45, k48, k49, k50, k51, k52, k57, k59, k60, k63, k64, k80, k90, k97, k100, k101, k108, k112, k114, k117, k126, k130, k650, k1000, k100000, k1000000, k15485863, k32452867, k2147483647, ii_add, ii_sub, ii_neg, ii_mul, ii_lt, ii_le, ii_eq, if_true, if_false, if_pos, if_neg, lL_sack_218, ldI_at o77 n77, ldI_at o74 n74, ldI_at oC nC, q0, c1, c2]
      exact hI
theorem sack_15 {S : mSh} {μ : mMm} {cx C : Nat} {A : AS} (hI : LI S μ.1 A) : ∀ (f n : Nat) (k : Int), A.v 6 - k ≤ f → f < n → 0 ≤ k → k ≤ A.v 6 → lL_sack_15 n S μ cx 0 74 75 76 77 C (ii (csm A.v (tkD A.v) k.toNat)) (ii (lsm (tkD A.v) (tkV A.v) k.toNat)) (ii k) = (fL_unpack S μ 75 76 77 C).bind fun r3 => (ldI S r3.2 77 (ii 0)).bind fun v4 => if r3.1 = v4 then lL_sack_182 S r3.2 cx 0 74 77 C (ii (scost A.v)) (ii (sletters A.v)) r3.1 (ii 1) else lL_sack_182 S r3.2 cx 0 74 77 C (ii (scost A.v)) (ii (sletters A.v)) r3.1 (ii 0) := by
  obtain ⟨hS, hA, hC, hQ, hX, hR⟩ := hI
  have hS1 := hS
  obtain ⟨-, -, -, ⟨o75, n75⟩, ⟨o76, n76⟩, o77, n77⟩ := hS
  have hW := hA.1
  have g6 := wf_6 hW
  have q6 := hQ 6 (by omega) (by omega)
  have q4 := hQ 4 (by omega) (by omega)
  have q5 := hQ 5 (by omega) (by omega)
  intro f
  induction f with
  | zero =>
    intro n k h1 h2 h3 h4
    obtain ⟨n, rfl⟩ : ∃ j, n = j + 1 := ⟨n - 1, by omega⟩
    have : k = A.v 6 := by push_cast at h1; omega
    subst this
    simp (disch := omega) only [Option.bind_some, km102, km101, km10, km1, k0, k1, k2, k3, k4, k5, k6, k7, k8, k9, k10, k11, k12, k13, k14, k15, k16, k17, k20, k22, k31, k32, k33, k39, k40, k43, k44, k45, k48, k49, k50, k51, k52, k57, k59, k60, k63, k64, k80, k90, k97, k100, k101, k108, k112, k114, k117, k126, k130, k650, k1000, k100000, k1000000, k15485863, k32452867, k2147483647, ii_add, ii_sub, ii_neg, ii_mul, ii_lt, ii_le, ii_eq, if_true, if_false, if_pos, if_neg, lL_sack_15, ldI_at o77 n77, q6]
    rfl
  | succ f ih =>
    intro n k h1 h2 h3 h4
    obtain ⟨n, rfl⟩ : ∃ j, n = j + 1 := ⟨n - 1, by omega⟩
    by_cases hk : A.v 6 ≤ k
    · have : k = A.v 6 := by omega
      subst this
      simp (disch := omega) only [Option.bind_some, km102, km101, km10, km1, k0, k1, k2, k3, k4, k5, k6, k7, k8, k9, k10, k11, k12, k13, k14, k15, k16, k17, k20, k22, k31, k32, k33, k39, k40, k43, k44, k45, k48, k49, k50, k51, k52, k57, k59, k60, k63, k64, k80, k90, k97, k100, k101, k108, k112, k114, k117, k126, k130, k650, k1000, k100000, k1000000, k15485863, k32452867, k2147483647, ii_add, ii_sub, ii_neg, ii_mul, ii_lt, ii_le, ii_eq, if_true, if_false, if_pos, if_neg, lL_sack_15, ldI_at o77 n77, q6]
      rfl
    · obtain ⟨rd, rv⟩ := hR k h3 (by omega)
      have ht := wf_k hW (t := k) h3 (by omega)
      obtain ⟨t1, t2, t3, t4⟩ := ht
      have hc1 : csm A.v (tkD A.v) (k + 1).toNat = csm A.v (tkD A.v) k.toNat + (if tkD A.v k = 0 then A.v 4 else A.v 5) := by
        rw [show (k + 1).toNat = k.toNat + 1 by omega]
        show csm A.v (tkD A.v) k.toNat + (if tkD A.v (k.toNat : Int) = 0 then A.v 4 else A.v 5) = _
        rw [show (k.toNat : Int) = k by omega]
      have hc2 : lsm (tkD A.v) (tkV A.v) (k + 1).toNat = lsm (tkD A.v) (tkV A.v) k.toNat + (if tkD A.v k = 0 then 1 else tkV A.v k) := by
        rw [show (k + 1).toNat = k.toNat + 1 by omega]
        show lsm (tkD A.v) (tkV A.v) k.toNat + (if tkD A.v (k.toNat : Int) = 0 then 1 else tkV A.v (k.toNat : Int)) = _
        rw [show (k.toNat : Int) = k by omega]
      have hJ := ih n (k + 1) (by push_cast at h1; omega) (by omega) (by omega) (by omega)
      rw [hc1, hc2] at hJ
      have r1 := cQ_at (μ := μ) hS1 (cIsRepeat hA hC ⟨h3, by omega⟩)
      have r2 := cQ_at (μ := μ) hS1 (cLengthOf hA hC ⟨h3, by omega⟩)
      by_cases hd : tkD A.v k = 0
      · have r3 := cQ_at (μ := μ) hS1 (cLetterOf hA hC ⟨h3, by omega⟩ hd)
        rw [if_pos hd] at r1 r2
        rw [if_pos hd, if_pos hd] at hJ
        rw [hd] at rd
        have := t3 hd
        rw [← hJ]
        have e1 : ∀ x6 x7, lL_sack_110 (lL_sack_15 n) S μ cx 0 74 75 76 77 C x6 x7 (ii k) (ii 1) (ii 1) = lL_sack_15 n S μ cx 0 74 75 76 77 C x6 x7 (ii (k + 1)) := fun x6 x7 => by
          simp (disch := omega) only [Option.bind_some, km102, km101, km10, km1, k0, k1, k2, k3, k4, k5, k6, k7, k8, k9, k10, k11, k12, k13, k14, k15, k16, k17, k20, k22, k31, k32, k33, k39, k40, k43, k44, k45, k48, k49, k50, k51, k52, k57, k59, k60, k63, k64, k80, k90, k97, k100, k101, k108, k112, k114, k117, k126, k130, k650, k1000, k100000, k1000000, k15485863, k32452867, k2147483647, ii_add, ii_sub, ii_neg, ii_mul, ii_lt, ii_le, ii_eq, if_true, if_false, if_pos, if_neg, lL_sack_110, lL_sack_151, ldI_at o75 n75, ldI_at o76 n76, rd, rv, r3]
        have e2 : ∀ x6 x7, lL_sack_86 (lL_sack_15 n) S μ cx 0 74 75 76 77 C x6 x7 (ii k) (ii 0) (ii 0) = lL_sack_15 n S μ cx 0 74 75 76 77 C x6 x7 (ii (k + 1)) := fun x6 x7 => by
          simp (disch := omega) only [Option.bind_some, km102, km101, km10, km1, k0, k1, k2, k3, k4, k5, k6, k7, k8, k9, k10, k11, k12, k13, k14, k15, k16, k17, k20, k22, k31, k32, k33, k39, k40, k43, k44, k45, k48, k49, k50, k51, k52, k57, k59, k60, k63, k64, k80, k90, k97, k100, k101, k108, k112, k114, k117, k126, k130, k650, k1000, k100000, k1000000, k15485863, k32452867, k2147483647, ii_add, ii_sub, ii_neg, ii_mul, ii_lt, ii_le, ii_eq, if_true, if_false, if_pos, if_neg, lL_sack_86, ldI_at o75 n75, rd, r2, e1]
        have e3 : ∀ x6 t0 t1, lL_sack_65 (lL_sack_15 n) S μ cx 0 74 75 76 77 C x6 (ii k) t0 t1 = lL_sack_15 n S μ cx 0 74 75 76 77 C x6 (t1 + t0) (ii (k + 1)) := fun x6 t0 t1 => by
          simp (disch := omega) only [Option.bind_some, km102, km101, km10, km1, k0, k1, k2, k3, k4, k5, k6, k7, k8, k9, k10, k11, k12, k13, k14, k15, k16, k17, k20, k22, k31, k32, k33, k39, k40, k43, k44, k45, k48, k49, k50, k51, k52, k57, k59, k60, k63, k64, k80, k90, k97, k100, k101, k108, k112, k114, k117, k126, k130, k650, k1000, k100000, k1000000, k15485863, k32452867, k2147483647, ii_add, ii_sub, ii_neg, ii_mul, ii_lt, ii_le, ii_eq, if_true, if_false, if_pos, if_neg, lL_sack_65, ldI_at o75 n75, rd, r1, e2]
        have e4 : ∀ x7 t0 t1, lL_sack_45 (lL_sack_15 n) S μ cx 0 74 75 76 77 C x7 (ii k) t0 t1 = lL_sack_15 n S μ cx 0 74 75 76 77 C (t1 + t0) (x7 + ii 1) (ii (k + 1)) := fun x7 t0 t1 => by
          simp (disch := omega) only [Option.bind_some, km102, km101, km10, km1, k0, k1, k2, k3, k4, k5, k6, k7, k8, k9, k10, k11, k12, k13, k14, k15, k16, k17, k20, k22, k31, k32, k33, k39, k40, k43, k44, k45, k48, k49, k50, k51, k52, k57, k59, k60, k63, k64, k80, k90, k97, k100, k101, k108, k112, k114, k117, k126, k130, k650, k1000, k100000, k1000000, k15485863, k32452867, k2147483647, ii_add, ii_sub, ii_neg, ii_mul, ii_lt, ii_le, ii_eq, if_true, if_false, if_pos, if_neg, lL_sack_45, ldI_at o75 n75, rd, e3]
        simp (disch := omega) only [Option.bind_some, km102, km101, km10, km1, k0, k1, k2, k3, k4, k5, k6, k7, k8, k9, k10, k11, k12, k13, k14, k15, k16, k17, k20, k22, k31, k32, k33, k39, k40, k43, k44, k45, k48, k49, k50, k51, k52, k57, k59, k60, k63, k64, k80, k90, k97, k100, k101, k108, k112, k114, k117, k126, k130, k650, k1000, k100000, k1000000, k15485863, k32452867, k2147483647, ii_add, ii_sub, ii_neg, ii_mul, ii_lt, ii_le, ii_eq, if_true, if_false, if_pos, if_neg, lL_sack_15, ldI_at o77 n77, ldI_at o75 n75, q6, q4, rd, e4]
      · have r3 := cQ_at (μ := μ) hS1 (cDistanceOf hA hC ⟨h3, by omega⟩ hd)
        rw [if_neg hd] at r1 r2
        rw [if_neg hd, if_neg hd] at hJ
        have := t4 hd
        rw [← hJ]
        have e1 : ∀ x6 x7, lL_sack_110 (lL_sack_15 n) S μ cx 0 74 75 76 77 C x6 x7 (ii k) (ii (tkV A.v k)) (ii (tkV A.v k)) = lL_sack_15 n S μ cx 0 74 75 76 77 C x6 x7 (ii (k + 1)) := fun x6 x7 => by
          simp (disch := omega) only [Option.bind_some, km102, km101, km10, km1, k0, k1, k2, k3, k4, k5, k6, k7, k8, k9, k10, k11, k12, k13, k14, k15, k16, k17, k20, k22, k31, k32, k33, k39, k40, k43, k44, k45, k48, k49, k50, k51, k52, k57, k59, k60, k63, k64, k80, k90, k97, k100, k101, k108, k112, k114, k117, k126, k130, k650, k1000, k100000, k1000000, k15485863, k32452867, k2147483647, ii_add, ii_sub, ii_neg, ii_mul, ii_lt, ii_le, ii_eq, if_true, if_false, if_pos, if_neg, lL_sack_110, lL_sack_151, ldI_at o75 n75, ldI_at o76 n76, rd, rv, r3]
        have e2 : ∀ x6 x7, lL_sack_86 (lL_sack_15 n) S μ cx 0 74 75 76 77 C x6 x7 (ii k) (ii 1) (ii 1) = lL_sack_15 n S μ cx 0 74 75 76 77 C x6 x7 (ii (k + 1)) := fun x6 x7 => by
          simp (disch := omega) only [Option.bind_some, km102, km101, km10, km1, k0, k1, k2, k3, k4, k5, k6, k7, k8, k9, k10, k11, k12, k13, k14, k15, k16, k17, k20, k22, k31, k32, k33, k39, k40, k43, k44, k45, k48, k49, k50, k51, k52, k57, k59, k60, k63, k64, k80, k90, k97, k100, k101, k108, k112, k114, k117, k126, k130, k650, k1000, k100000, k1000000, k15485863, k32452867, k2147483647, ii_add, ii_sub, ii_neg, ii_mul, ii_lt, ii_le, ii_eq, if_true, if_false, if_pos, if_neg, lL_sack_86, ldI_at o75 n75, ldI_at o76 n76, rd, rv, r2, e1]
        have e3 : ∀ x6 t0 t1, lL_sack_65 (lL_sack_15 n) S μ cx 0 74 75 76 77 C x6 (ii k) t0 t1 = lL_sack_15 n S μ cx 0 74 75 76 77 C x6 (t1 + t0) (ii (k + 1)) := fun x6 t0 t1 => by
          simp (disch := omega) only [Option.bind_some, km102, km101, km10, km1, k0, k1, k2, k3, k4, k5, k6, k7, k8, k9, k10, k11, k12, k13, k14, k15, k16, k17, k20, k22, k31, k32, k33, k39, k40, k43, k44, k45, k48, k49, k50, k51, k52, k57, k59, k60, k63, k64, k80, k90, k97, k100, k101, k108, k112, k114, k117, k126, k130, k650, k1000, k100000, k1000000, k15485863, k32452867, k2147483647, ii_add, ii_sub, ii_neg, ii_mul, ii_lt, ii_le, ii_eq, if_true, if_false, if_pos, if_neg, lL_sack_65, ldI_at o75 n75, rd, r1, e2]
        have e4 : ∀ x7 t0 t1, lL_sack_45 (lL_sack_15 n) S μ cx 0 74 75 76 77 C x7 (ii k) t0 t1 = lL_sack_15 n S μ cx 0 74 75 76 77 C (t1 + t0) (x7 + ii (tkV A.v k)) (ii (k + 1)) := fun x7 t0 t1 => by
          simp (disch := omega) only [Option.bind_some, km102, km101, km10, km1, k0, k1, k2, k3, k4, k5, k6, k7, k8, k9, k10, k11, k12, k13, k14, k15, k16, k17, k20, k22, k31, k32, k33, k39, k40, k43, k44, k45, k48, k49, k50, k51, k52, k57, k59, k60, k63, k64, k80, k90, k97, k100, k101, k108, k112, k114, k117, k126, k130, k650, k1000, k100000, k1000000, k15485863, k32452867, k2147483647, ii_add, ii_sub, ii_neg, ii_mul, ii_lt, ii_le, ii_eq, if_true, if_false, if_pos, if_neg, lL_sack_45, ldI_at o75 n75, ldI_at o76 n76, rd, rv, e3]
        simp (disch := omega) only [Option.bind_some, km102, km101, km10, km1, k0, k1, k2, k3, k4, k5, k6, k7, k8, k9, k10, k11, k12, k13, k14, k15, k16, k17, k20, k22, k31, k32, k33, k39, k40, k43, k44, k45, k48, k49, k50, k51, k52, k57, k59, k60, k63, k64, k80, k90, k97, k100, k101, k108, k112, k114, k117, k126, k130, k650, k1000, k100000, k1000000, k15485863, k32452867, k2147483647, ii_add, ii_sub, ii_neg, ii_mul, ii_lt, ii_le, ii_eq, if_true, if_false, if_pos, if_neg, lL_sack_15, ldI_at o77 n77, ldI_at o75 n75, q6, q5, rd, e4]
theorem sack_at {S : mSh} {μ : mMm} {cx : Nat} {A : AS} (hI : LI S μ.1 A) (hN : mN S < 1000) : ∃ m' z', fgt S (fL_sack S μ cx 0 74 75 76 77) = some (ii 1, (m', z'), cx + 1) ∧ LI S m' A := by
  have h78 := hI.1.2.1
  have hI1 : LI (nSh S 12 40 40) (nMm S μ).1 A := LI_new hI
  have hC1 : LRw (nSh S 12 40 40) (mN S) 40 := ⟨nSh_new.1, nSh_new.2, h78⟩
  have hW := hI.2.1.1
  have g0 := wf_0 hW
  have g6 := wf_6 hW
  have hv : mvk S [some (.ref 0), some (.ref 74), some (.ref 75), some (.ref 76), some (.ref 77), none, none, none, none, none, none] [] = true := by
    simp [mvk, mvkO, mvk1]
    exact ⟨Nat.lt_of_lt_of_le (by decide) h78, Nat.lt_of_lt_of_le (by decide) h78, Nat.lt_of_lt_of_le (by decide) h78, Nat.lt_of_lt_of_le (by decide) h78, Nat.lt_of_lt_of_le (by decide) h78⟩
  obtain ⟨m1, a1, a2, a3⟩ := unpack_at hI1.1 hC1 hW hI1.2.2.2.1 hI1.2.2.2.2.2
  have I1 : LI (nSh S 12 40 40) m1 A := LI_fr hI1 (fun a ha => a2 a (by omega))
  have hu := unp_b hW
  have q0 := I1.2.2.2.1 0 (by omega) (by omega)
  obtain ⟨m2, b1, b2, b3⟩ := sack_226 (μ := (m1, (nMm S μ).2)) (cx := cx) I1
  have key : fL_sack S μ cx 0 74 75 76 77 = some (ii 1, nSh S 12 40 40, (m2, (nMm S μ).2), cx) := by
    have h15 := sack_15 (cx := cx) (C := mN S) hI1 40 FU 0 (by omega) (by decide) (by omega) (by omega)
    have h15 : lL_sack_15 FU (nSh S 12 40 40) (nMm S μ) cx 0 74 75 76 77 (mN S) (ii 0) (ii 0) (ii 0) = _ := h15
    unfold fL_sack
    rw [aN_at hv hN, Option.bind_some]
    simp (disch := omega) only [Option.bind_some, km102, km101, km10, km1, k0, k1, k2, k3, k4, k5, k6, k7, k8, k9, k10, k11, k12, k13, k14, k15, k16, k17, k20, k22, k31, k32, k33, k39, k40, k43, k44, k45, k48, k49, k50, k51, k52, k57, k59, k60, k63, k64, k80, k90, k97, k100, k101, k108, k112, k114, k117, k126, k130, k650, k1000, k100000, k1000000, k15485863, k32452867, k2147483647, ii_add, ii_sub, ii_neg, ii_mul, ii_lt, ii_le, ii_eq, if_true, if_false, if_pos, if_neg]
    rw [h15, a1, Option.bind_some]
    have o77 := hI1.1.2.2.2.2.2
    rw [ldI_at o77.1 o77.2 (by omega) (by omega) (by omega)]
    show (some (m1 77 (0 : Int).toNat)).bind _ = _
    rw [q0, Option.bind_some]
    rw [← b1]
    by_cases hy : (unp A.v).2.2.2 = 0 ∧ (unp A.v).1 = A.v 0
    · have e1 : tld (unp A.v) = A.v 0 := by
        unfold tld
        rw [if_pos hy.1, hy.2]
      have e2 : isf A.v = agr (unp A.v).2.1 (tx A.v) (A.v 0).toNat 0 := by
        unfold isf
        rw [if_pos hy.1, if_pos hy.2]
      have hL := sack_187 (μ := (m1, (nMm S μ).2)) (cx := cx) (x6 := ii (scost A.v)) (x7 := ii (sletters A.v)) (x8 := ii (tld (unp A.v))) hI1.1 hC1 hW I1.2.2.2.1 I1.2.2.2.2.1 (fun i i0 i1 => a3 hy.1 i i0 (by omega)) (by rw [← hy.2]; exact hu.2.1) (A.v 0).toNat FU 0 (by omega) (by rw [hFU]; omega) (by omega)
      rw [e1] at hL ⊢
      rw [if_pos rfl, e2, ← hL]
      simp (disch := omega) only [Option.bind_some, km102, km101, km10, km1, k0, k1, k2, k3, k4, k5, k6, k7, k8, k9, k10, k11, k12, k13, k14, k15, k16, k17, k20, k22, k31, k32, k33, k39, k40, k43, k44, k45, k48, k49, k50, k51, k52, k57, k59, k60, k63, k64, k80, k90, k97, k100, k101, k108, k112, k114, k117, k126, k130, k650, k1000, k100000, k1000000, k15485863, k32452867, k2147483647, ii_add, ii_sub, ii_neg, ii_mul, ii_lt, ii_le, ii_eq, if_true, if_false, if_pos, if_neg, lL_sack_182]
    · have e1 : tld (unp A.v) ≠ A.v 0 ∧ -1000 ≤ tld (unp A.v) ∧ tld (unp A.v) ≤ 1000 := by
        unfold tld
        by_cases hz : (unp A.v).2.2.2 = 0
        · rw [if_pos hz]
          exact ⟨fun h => hy ⟨hz, h⟩, by omega, by omega⟩
        · rw [if_neg hz]
          omega
      have e2 : isf A.v = 0 := by
        unfold isf
        by_cases hz : (unp A.v).2.2.2 = 0
        · rw [if_pos hz, if_neg (fun h => hy ⟨hz, h⟩)]
        · rw [if_neg hz]
      rw [if_neg (by rw [ii_eq (by omega) (by omega) (by omega) (by omega)]; exact e1.1), e2]
      simp (disch := omega) only [Option.bind_some, km102, km101, km10, km1, k0, k1, k2, k3, k4, k5, k6, k7, k8, k9, k10, k11, k12, k13, k14, k15, k16, k17, k20, k22, k31, k32, k33, k39, k40, k43, k44, k45, k48, k49, k50, k51, k52, k57, k59, k60, k63, k64, k80, k90, k97, k100, k101, k108, k112, k114, k117, k126, k130, k650, k1000, k100000, k1000000, k15485863, k32452867, k2147483647, ii_add, ii_sub, ii_neg, ii_mul, ii_lt, ii_le, ii_eq, if_true, if_false, if_pos, if_neg, lL_sack_182]
      exact sack_187_0 (n := 4999) hI1.1 I1.2.2.2.1
  refine ⟨m2, (nMm S μ).2, ?_, ?_⟩
  · rw [key, fgt_at (mPf_new mPf_rf) (by rw [nSh_t]; omega) (by rw [nSh_t, nSh_n]; omega), nSh_n, show mN S + 1 - mN S = 1 by omega]
  · exact LI_c hI (fun a h0 h1 => (b2 a h0).trans ((a2 a (by omega)).trans (nMm_1 (by omega)))) b3
