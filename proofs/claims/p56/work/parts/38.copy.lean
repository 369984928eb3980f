/-! one state copied into another -/
theorem lcopy_loop {o p : Nat} (hL : oLt o) (hP : oLt p) (hop : o + 2 ≤ p ∨ p + 2 ≤ o) : ∀ (f n : Nat) (j : Int) (μ : mMm), 40 - j ≤ f → f < n → 0 ≤ j → j ≤ 40 → ∃ m', lX2_copyFrom_2 oS n μ o p (ii j) = some (m', μ.2) ∧ (∀ b, b ≠ o → b ≠ o + 1 → m' b = μ.1 b) ∧ m' o 1 = μ.1 p 1 ∧ ∀ i : Int, 0 ≤ i → i < 40 → m' (o + 1) i.toNat = if i < j then μ.1 (o + 1) i.toNat else μ.1 (p + 1) i.toNat := by
  intro f
  induction f with
  | zero =>
    intro n j μ h1 h2 h3 h4
    obtain ⟨n, rfl⟩ : ∃ k, n = k + 1 := ⟨n - 1, by omega⟩
    have : j = 40 := by push_cast at h1; omega
    subst this
    refine ⟨u2 μ.1 o 1 (μ.1 p 1), ?_, fun b hb hb1 => by simp (disch := omega) only [u2_offr], by simp (disch := omega) only [u2_at], fun i h5 h6 => ?_⟩
    · simp (disch := omega) only [Option.bind_some, km1, k0, k1, k2, k3, k4, k5, k6, k7, k8, k9, k10, k11, k15, k16, k20, k32, k33, k39, k40, k43, k44, k45, k48, k49, k50, k51, k52, k57, k59, k60, k63, k64, k80, k97, k100, k101, k108, k112, k114, k117, k126, k130, k650, k100000, k1000000, ii_add, ii_sub, ii_neg, ii_mul, ii_lt, ii_le, ii_eq, if_true, if_false, if_pos, if_neg, lX2_copyFrom_2, lX2_copyFrom_38, hL.2.1, aL_at hL.2.2.1 hL.2.2.2, Int.cast_ofNat_Int, gI_at hP.1, pI_at hL.1]
    · rw [if_pos h6]
      simp (disch := omega) only [u2_offr]
  | succ f ih =>
    intro n j μ h1 h2 h3 h4
    by_cases h40 : j = 40
    · subst h40
      obtain ⟨n, rfl⟩ : ∃ k, n = k + 1 := ⟨n - 1, by omega⟩
      refine ⟨u2 μ.1 o 1 (μ.1 p 1), ?_, fun b hb hb1 => by simp (disch := omega) only [u2_offr], by simp (disch := omega) only [u2_at], fun i h5 h6 => ?_⟩
      · simp (disch := omega) only [Option.bind_some, km1, k0, k1, k2, k3, k4, k5, k6, k7, k8, k9, k10, k11, k15, k16, k20, k32, k33, k39, k40, k43, k44, k45, k48, k49, k50, k51, k52, k57, k59, k60, k63, k64, k80, k97, k100, k101, k108, k112, k114, k117, k126, k130, k650, k100000, k1000000, ii_add, ii_sub, ii_neg, ii_mul, ii_lt, ii_le, ii_eq, if_true, if_false, if_pos, if_neg, lX2_copyFrom_2, lX2_copyFrom_38, hL.2.1, aL_at hL.2.2.1 hL.2.2.2, Int.cast_ofNat_Int, gI_at hP.1, pI_at hL.1]
      · rw [if_pos h6]
        simp (disch := omega) only [u2_offr]
    · obtain ⟨n, rfl⟩ : ∃ k, n = k + 1 := ⟨n - 1, by omega⟩
      obtain ⟨m', j1, j2, j3, j4⟩ := ih n (j + 1) (u2 μ.1 (o + 1) j.toNat (μ.1 (p + 1) j.toNat), μ.2) (by push_cast at h1; omega) (by omega) (by omega) (by omega)
      refine ⟨m', ?_, fun b hb hb1 => (j2 b hb hb1).trans (by simp (disch := omega) only [u2_offr]), j3.trans (by simp (disch := omega) only [u2_offr]), fun i h5 h6 => ?_⟩
      · rw [← j1]
        simp (disch := omega) only [Option.bind_some, km1, k0, k1, k2, k3, k4, k5, k6, k7, k8, k9, k10, k11, k15, k16, k20, k32, k33, k39, k40, k43, k44, k45, k48, k49, k50, k51, k52, k57, k59, k60, k63, k64, k80, k97, k100, k101, k108, k112, k114, k117, k126, k130, k650, k100000, k1000000, ii_add, ii_sub, ii_neg, ii_mul, ii_lt, ii_le, ii_eq, if_true, if_false, if_pos, if_neg, lX2_copyFrom_2, hL.2.1, hP.2.1, aL_at hL.2.2.1 hL.2.2.2, aL_at hP.2.2.1 hP.2.2.2, Int.cast_ofNat_Int, ldI_at hP.2.2.1 hP.2.2.2, stI_at hL.2.2.1 hL.2.2.2]
      · rw [j4 i h5 h6]
        by_cases hij : i < j
        · rw [if_pos (by omega), if_pos hij]
          simp (disch := omega) only [u2_off]
        · rw [if_neg hij]
          by_cases hj2 : i < j + 1
          · have : i = j := by omega
            subst this
            rw [if_pos (by omega)]
            simp (disch := omega) only [u2_at]
          · rw [if_neg hj2]
            simp (disch := omega) only [u2_offr]
theorem lcopy_at {o p : Nat} {μ : mMm} (hL : oLt o) (hP : oLt p) (hop : o + 2 ≤ p ∨ p + 2 ≤ o) : ∃ m', fX2_copyFrom oS μ o p = some (m', μ.2) ∧ (∀ b, b ≠ o → b ≠ o + 1 → m' b = μ.1 b) ∧ m' o 1 = μ.1 p 1 ∧ ∀ i : Int, 0 ≤ i → i < 40 → m' (o + 1) i.toNat = μ.1 (p + 1) i.toNat := by
  obtain ⟨m', j1, j2, j3, j4⟩ := lcopy_loop hL hP hop 40 FU 0 μ (by omega) (by decide) (by omega) (by omega)
  refine ⟨m', ?_, j2, j3, fun i h5 h6 => by rw [j4 i h5 h6, if_neg (by omega)]⟩
  unfold fX2_copyFrom bX2_copyFrom
  have hm : mok oS p 2 = true := hP.1
  simp (disch := omega) only [Option.bind_some, km1, k0, k1, k2, k3, k4, k5, k6, k7, k8, k9, k10, k11, k15, k16, k20, k32, k33, k39, k40, k43, k44, k45, k48, k49, k50, k51, k52, k57, k59, k60, k63, k64, k80, k97, k100, k101, k108, k112, k114, k117, k126, k130, k650, k100000, k1000000, ii_add, ii_sub, ii_neg, ii_mul, ii_lt, ii_le, ii_eq, if_true, if_false, if_pos, if_neg, if_pos hL.1, if_pos hP.1]
  exact j1
theorem scopy_loop {o p : Nat} {k : Int} {D V : Int → Int} (hL : oSk o) (hP : oSk p) (hop : o + 3 ≤ p ∨ p + 3 ≤ o) (hk0 : 0 ≤ k) (hk : k ≤ 40) : ∀ (f n : Nat) (j : Int) (μ : mMm), k - j ≤ f → f < n → 0 ≤ j → j ≤ k → SK μ.1 p k D V → (∀ i, 0 ≤ i → i < j → μ.1 (o + 1) i.toNat = ii (D i) ∧ μ.1 (o + 2) i.toNat = ii (V i)) → ∃ m', lX5_copyFrom_2 oS n μ o p (ii j) = some (m', μ.2) ∧ (∀ b, b ≠ o → b ≠ o + 1 → b ≠ o + 2 → m' b = μ.1 b) ∧ SK m' o k D V := by
  intro f
  induction f with
  | zero =>
    intro n j μ h1 h2 h3 h4 hS hA
    obtain ⟨n, rfl⟩ : ∃ k, n = k + 1 := ⟨n - 1, by omega⟩
    have : j = k := by push_cast at h1; omega
    subst this
    have hc := hS.1
    refine ⟨u2 μ.1 o 2 (ii j), ?_, fun b hb hb1 hb2 => by simp (disch := omega) only [u2_offr], by simp (disch := omega) only [u2_at], fun i h5 h6 => ?_⟩
    · simp (disch := omega) only [Option.bind_some, km1, k0, k1, k2, k3, k4, k5, k6, k7, k8, k9, k10, k11, k15, k16, k20, k32, k33, k39, k40, k43, k44, k45, k48, k49, k50, k51, k52, k57, k59, k60, k63, k64, k80, k97, k100, k101, k108, k112, k114, k117, k126, k130, k650, k100000, k1000000, ii_add, ii_sub, ii_neg, ii_mul, ii_lt, ii_le, ii_eq, if_true, if_false, if_pos, if_neg, lX5_copyFrom_2, gI_at hP.1, hc, pI_at hL.1]
    · simp (disch := omega) only [u2_offr]
      exact hA i h5 h6
  | succ f ih =>
    intro n j μ h1 h2 h3 h4 hS hA
    obtain ⟨n, rfl⟩ : ∃ k, n = k + 1 := ⟨n - 1, by omega⟩
    have hc := hS.1
    by_cases hjk : j = k
    · subst hjk
      refine ⟨u2 μ.1 o 2 (ii j), ?_, fun b hb hb1 hb2 => by simp (disch := omega) only [u2_offr], by simp (disch := omega) only [u2_at], fun i h5 h6 => ?_⟩
      · simp (disch := omega) only [Option.bind_some, km1, k0, k1, k2, k3, k4, k5, k6, k7, k8, k9, k10, k11, k15, k16, k20, k32, k33, k39, k40, k43, k44, k45, k48, k49, k50, k51, k52, k57, k59, k60, k63, k64, k80, k97, k100, k101, k108, k112, k114, k117, k126, k130, k650, k100000, k1000000, ii_add, ii_sub, ii_neg, ii_mul, ii_lt, ii_le, ii_eq, if_true, if_false, if_pos, if_neg, lX5_copyFrom_2, gI_at hP.1, hc, pI_at hL.1]
      · simp (disch := omega) only [u2_offr]
        exact hA i h5 h6
    · have q1 := (hS.2 j h3 (by omega)).1
      have q2 := (hS.2 j h3 (by omega)).2
      have e1 : fX5_distance oS μ p (ii j) = some (ii (D j)) := by rw [dist_at hP h3 (by omega), q1]
      have e2 : fX5_value oS (u2 μ.1 (o + 1) j.toNat (ii (D j)), μ.2) p (ii j) = some (ii (V j)) := by
        rw [val_at hP h3 (by omega)]
        simp (disch := omega) only [u2_offr]
        rw [q2]
      obtain ⟨m', j1, j2, j3⟩ := ih n (j + 1) (u2 (u2 μ.1 (o + 1) j.toNat (ii (D j))) (o + 2) j.toNat (ii (V j)), μ.2) (by push_cast at h1; omega) (by omega) (by omega) (by omega) ⟨by simp (disch := omega) only [u2_offr]; exact hc, fun i h5 h6 => by simp (disch := omega) only [u2_offr]; exact hS.2 i h5 h6⟩ (fun i h5 h6 => by
        by_cases hij : i = j
        · subst hij
          simp (disch := omega) only [u2_at, u2_off]
          exact ⟨True.intro, True.intro⟩
        · simp (disch := omega) only [u2_off]
          exact hA i h5 (by omega))
      refine ⟨m', ?_, fun b hb hb1 hb2 => (j2 b hb hb1 hb2).trans (by simp (disch := omega) only [u2_offr]), j3⟩
      rw [← j1]
      simp (disch := omega) only [Option.bind_some, km1, k0, k1, k2, k3, k4, k5, k6, k7, k8, k9, k10, k11, k15, k16, k20, k32, k33, k39, k40, k43, k44, k45, k48, k49, k50, k51, k52, k57, k59, k60, k63, k64, k80, k97, k100, k101, k108, k112, k114, k117, k126, k130, k650, k100000, k1000000, ii_add, ii_sub, ii_neg, ii_mul, ii_lt, ii_le, ii_eq, if_true, if_false, if_pos, if_neg, lX5_copyFrom_2, lX5_copyFrom_50, gI_at hP.1, hc, hL.2.1, hL.2.2.1, aL_at hL.2.2.2.1 hL.2.2.2.2.1, aL_at hL.2.2.2.2.2.1 hL.2.2.2.2.2.2, Int.cast_ofNat_Int, e1, e2, stI_at hL.2.2.2.1 hL.2.2.2.2.1, stI_at hL.2.2.2.2.2.1 hL.2.2.2.2.2.2]
theorem scopy_at {o p : Nat} {μ : mMm} {k : Int} {D V : Int → Int} (hL : oSk o) (hP : oSk p) (hop : o + 3 ≤ p ∨ p + 3 ≤ o) (hk0 : 0 ≤ k) (hk : k ≤ 40) (hS : SK μ.1 p k D V) : ∃ m', fX5_copyFrom oS μ o p = some (m', μ.2) ∧ (∀ b, b ≠ o → b ≠ o + 1 → b ≠ o + 2 → m' b = μ.1 b) ∧ SK m' o k D V := by
  obtain ⟨m', j1, j2, j3⟩ := scopy_loop hL hP hop hk0 hk 40 FU 0 μ (by omega) (by decide) (by omega) (by omega) hS (fun i h5 h6 => by omega)
  refine ⟨m', ?_, j2, j3⟩
  unfold fX5_copyFrom bX5_copyFrom
  simp (disch := omega) only [Option.bind_some, km1, k0, k1, k2, k3, k4, k5, k6, k7, k8, k9, k10, k11, k15, k16, k20, k32, k33, k39, k40, k43, k44, k45, k48, k49, k50, k51, k52, k57, k59, k60, k63, k64, k80, k97, k100, k101, k108, k112, k114, k117, k126, k130, k650, k100000, k1000000, ii_add, ii_sub, ii_neg, ii_mul, ii_lt, ii_le, ii_eq, if_true, if_false, if_pos, if_neg, if_pos hL.1, if_pos hP.1]
  exact j1
theorem stcopy_at {a b : Nat} {μ : mMm} {v : Int → Int} (hA : oSt a) (hB : oSt b) (hab : a + 7 ≤ b ∨ b + 7 ≤ a) (hW : WF v) (hR : RS μ.1 b v) : ∃ m', fX7_copyFrom oS μ a b = some (m', μ.2) ∧ (∀ c, c < a ∨ a + 7 ≤ c → m' c = μ.1 c) ∧ RS m' a v := by
  have g0 := wf_0 hW
  have g6 := wf_6 hW
  obtain ⟨c0, ⟨c1, c2, c3, c4, c5⟩, c6, ⟨c8, c9⟩, cl, ct⟩ := hR
  obtain ⟨hA1, hA2, hA3, hA4, hA5, hA6, hA7⟩ := hA
  obtain ⟨hB1, hB2, hB3, hB4, hB5, hB6, hB7⟩ := hB
  obtain ⟨m1, i1, i2, i3, i4⟩ := lcopy_at (μ := μ) hA6 hB6 (by omega)
  have hS : SK m1 (b + 3) (v 6) (tkD v) (tkV v) := by
    refine ⟨by rw [i2 (b + 3) (by omega) (by omega)]; exact c6, fun t h5 h6 => ?_⟩
    rw [i2 (b + 3 + 1) (by omega) (by omega), i2 (b + 3 + 2) (by omega) (by omega)]
    exact ct t h5 h6
  obtain ⟨m2, l1, l2, l3⟩ := scopy_at (μ := (m1, μ.2)) hA7 hB7 (by omega) g6.1 g6.2 hS
  have k : ∀ c, c ≠ a + 1 → c ≠ a + 1 + 1 → c ≠ a + 3 → c ≠ a + 3 + 1 → c ≠ a + 3 + 2 → m2 c = μ.1 c := fun c h1 h2 h3 h4 h5 => (l2 c h3 h4 h5).trans (i2 c h1 h2)
  have kb6 := k (b + 6) (by omega) (by omega) (by omega) (by omega) (by omega)
  have kb := k b (by omega) (by omega) (by omega) (by omega) (by omega)
  refine ⟨u2 (u2 (u2 (u2 (u2 (u2 (u2 m2 (a + 6) 0 (ii (v 1))) (a + 6) 1 (ii (v 2))) (a + 6) 2 (ii (v 3))) (a + 6) 3 (ii (v 4))) (a + 6) 4 (ii (v 5))) a 3 (ii (v 8))) a 4 (ii (v 9)), ?_, fun c hc => ?_, ?_⟩
  · unfold fX7_copyFrom bX7_copyFrom fX6_copyFrom bX6_copyFrom
    simp (disch := omega) only [Option.bind_some, km1, k0, k1, k2, k3, k4, k5, k6, k7, k8, k9, k10, k11, k15, k16, k20, k32, k33, k39, k40, k43, k44, k45, k48, k49, k50, k51, k52, k57, k59, k60, k63, k64, k80, k97, k100, k101, k108, k112, k114, k117, k126, k130, k650, k100000, k1000000, ii_add, ii_sub, ii_neg, ii_mul, ii_lt, ii_le, ii_eq, if_true, if_false, if_pos, if_neg, if_pos hA1, if_pos hB1, hA2, hB2, hA3, hB3, hA4, hB4, i1, l1, if_pos hA5, if_pos hB5, gI_at hA5, gI_at hB5, pI_at hA5, gI_at hA1, gI_at hB1, pI_at hA1, u2_offr, kb6, kb, c1, c2, c3, c4, c5, c8, c9]
  · simp (disch := omega) only [u2_offr]
    exact k c (by omega) (by omega) (by omega) (by omega) (by omega)
  · refine ⟨?_, ⟨?_, ?_, ?_, ?_, ?_⟩, ?_, ⟨?_, ?_⟩, fun i h5 h6 => ?_, fun t h5 h6 => ?_⟩
    · simp (disch := omega) only [u2_offr]
      exact (congrFun (l2 (a + 1) (by omega) (by omega) (by omega)) 1).trans (i3.trans c0)
    · simp (disch := omega) only [u2_offr, u2_off, u2_at]
    · simp (disch := omega) only [u2_offr, u2_off, u2_at]
    · simp (disch := omega) only [u2_offr, u2_off, u2_at]
    · simp (disch := omega) only [u2_offr, u2_off, u2_at]
    · simp (disch := omega) only [u2_offr, u2_off, u2_at]
    · simp (disch := omega) only [u2_offr]
      exact l3.1
    · simp (disch := omega) only [u2_off, u2_at]
    · simp (disch := omega) only [u2_at]
    · simp (disch := omega) only [u2_offr]
      exact (congrFun (l2 (a + 2) (by omega) (by omega) (by omega)) i.toNat).trans ((i4 i h5 (by omega)).trans (cl i h5 h6))
    · simp (disch := omega) only [u2_offr]
      exact l3.2 t h5 h6
