/-! unpacking -/
def tlen (D V : Int → Int) (t : Int) : Int := if D t = 0 then 1 else V t
def whyW (D V : Int → Int) (t u : Int) : Int := if u < D t then 1 else if 40 < u + tlen D V t then 2 else 0
def cpGo (d : Int) : Nat → Int → (Int → Int) → (Int → Int)
  | 0, _, U => U
  | f + 1, u, U => cpGo d f (u + 1) (upI U u (U (u - d)))
def tokU (D V : Int → Int) (t u : Int) (U : Int → Int) : Int → Int := if D t = 0 then upI U u (V t) else cpGo (D t) (V t).toNat u U
def uGo (D V : Int → Int) (k : Int) : Nat → Int → Int → (Int → Int) → Int × (Int → Int) × Int × Int
  | 0, _, u, U => (u, U, -1, 0)
  | f + 1, t, u, U => if k ≤ t then (u, U, -1, 0) else if whyW D V t u = 0 then uGo D V k f (t + 1) (u + tlen D V t) (tokU D V t u U) else (u, U, t, whyW D V t u)
def unp (v : Int → Int) : Int × (Int → Int) × Int × Int := uGo (tkD v) (tkV v) (v 6) 41 0 0 (fun _ => 0)
def UB (u : Int) (U : Int → Int) : Prop := ∀ i, 0 ≤ i → i < u → 0 ≤ U i ∧ U i ≤ 3
theorem UB_up {u x : Int} {U : Int → Int} (h : UB u U) (h0 : 0 ≤ x) (h1 : x ≤ 3) : UB (u + 1) (upI U u x) := by
  intro i h2 h3
  by_cases hi : i = u
  · subst hi
    rw [upI_s]
    exact ⟨h0, h1⟩
  · rw [upI_n hi]
    exact h i h2 (by omega)
theorem cpGo_b {d : Int} (hd : 1 ≤ d) : ∀ (f : Nat) (u : Int) (U : Int → Int), d ≤ u → UB u U → UB (u + f) (cpGo d f u U)
  | 0, u, U, _, h => by rw [show u + ((0 : Nat) : Int) = u by omega]; exact h
  | f + 1, u, U, hu, h => by
    have := cpGo_b hd f (u + 1) (upI U u (U (u - d))) (by omega) (UB_up h (h _ (by omega) (by omega)).1 (h _ (by omega) (by omega)).2)
    rw [show u + ((f + 1 : Nat) : Int) = u + 1 + f by push_cast; omega]
    exact this
theorem whyW_0 {D V : Int → Int} {t u : Int} (h : whyW D V t u = 0) : D t ≤ u ∧ u + tlen D V t ≤ 40 := by
  unfold whyW at h
  split at h
  · omega
  · split at h <;> omega
theorem whyW_b (D V : Int → Int) (t u : Int) : 0 ≤ whyW D V t u ∧ whyW D V t u ≤ 2 := by
  unfold whyW
  split
  · omega
  · split <;> omega
theorem tokU_b {D V : Int → Int} {k t u : Int} {U : Int → Int} (hP : PKok k D V) (h0 : 0 ≤ t) (h1 : t < k) (hu : D t ≤ u) (hU : UB u U) : UB (u + tlen D V t) (tokU D V t u U) := by
  have hp := hP t h0 h1
  unfold tokU tlen
  by_cases hd : D t = 0
  · rw [if_pos hd, if_pos hd]
    exact UB_up hU (hp.2.2.1 hd).1 (hp.2.2.1 hd).2
  · rw [if_neg hd, if_neg hd]
    have := cpGo_b (d := D t) (by omega) (V t).toNat u U hu hU
    rw [show ((V t).toNat : Int) = V t by omega] at this
    exact this
theorem tlen_b {D V : Int → Int} {k t : Int} (hP : PKok k D V) (h0 : 0 ≤ t) (h1 : t < k) : 1 ≤ tlen D V t ∧ tlen D V t ≤ 40 := by
  have hp := hP t h0 h1
  unfold tlen
  split <;> omega
theorem uGo_b {D V : Int → Int} {k : Int} (hP : PKok k D V) : ∀ (f : Nat) (t u : Int) (U : Int → Int), 0 ≤ t → 0 ≤ u → u ≤ 40 → UB u U → (0 ≤ (uGo D V k f t u U).1 ∧ (uGo D V k f t u U).1 ≤ 40) ∧ UB (uGo D V k f t u U).1 (uGo D V k f t u U).2.1 ∧ (-1 ≤ (uGo D V k f t u U).2.2.1 ∧ ((uGo D V k f t u U).2.2.1 = -1 ↔ (uGo D V k f t u U).2.2.2 = 0) ∧ (0 ≤ k → (uGo D V k f t u U).2.2.1 < k)) ∧ (0 ≤ (uGo D V k f t u U).2.2.2 ∧ (uGo D V k f t u U).2.2.2 ≤ 2)
  | 0, t, u, U, h0, h1, h2, h => ⟨⟨h1, h2⟩, h, ⟨Int.le_refl _, ⟨fun _ => rfl, fun _ => rfl⟩, fun hk => by show -1 < k; omega⟩, by show 0 ≤ (0 : Int) ∧ (0 : Int) ≤ 2; omega⟩
  | f + 1, t, u, U, h0, h1, h2, h => by
    unfold uGo
    by_cases hk : k ≤ t
    · rw [if_pos hk]
      exact ⟨⟨h1, h2⟩, h, ⟨Int.le_refl _, ⟨fun _ => rfl, fun _ => rfl⟩, fun hk => by show -1 < k; omega⟩, by show 0 ≤ (0 : Int) ∧ (0 : Int) ≤ 2; omega⟩
    · rw [if_neg hk]
      by_cases hw : whyW D V t u = 0
      · rw [if_pos hw]
        have hw0 := whyW_0 hw
        have htl := tlen_b hP h0 (by omega)
        exact uGo_b hP f (t + 1) _ _ (by omega) (by omega) hw0.2 (tokU_b hP h0 (by omega) hw0.1 h)
      · rw [if_neg hw]
        have hwb := whyW_b D V t u
        refine ⟨⟨h1, h2⟩, h, ⟨by show -1 ≤ t; omega, ⟨fun z => by have z : t = -1 := z; omega, fun z => absurd z hw⟩, fun _ => by show t < k; omega⟩, hwb⟩
/-! the class -/
def UN (m : Nat → Nat → Int32) (r : Int × (Int → Int) × Int × Int) : Prop := m 72 1 = ii r.1 ∧ (∀ i, 0 ≤ i → i < r.1 → m 73 i.toNat = ii (r.2.1 i)) ∧ m 71 1 = ii r.2.2.1 ∧ m 71 2 = ii r.2.2.2
theorem put72 {m : Nat → Nat → Int32} {u x : Int} {U : Int → Int} (h0 : 0 ≤ u) (h : ∀ i, 0 ≤ i → i < u → m 73 i.toNat = ii (U i)) : ∀ i, 0 ≤ i → i < u + 1 → (u2 (u2 m 73 u.toNat (ii x)) 72 1 (ii (u + 1))) 73 i.toNat = ii (upI U u x i) := by
  intro i h1 h2
  by_cases hi : i = u
  · subst hi
    rw [upI_s]
    simp (disch := omega) only [u2_off, u2_at]
  · rw [upI_n hi]
    simp (disch := omega) only [u2_off]
    exact h i h1 (by omega)
theorem tok_loop {d l : Int} (hd : 1 ≤ d) (hl : l ≤ 40) : ∀ (f n : Nat) (s u : Int) (U : Int → Int) (μ : mMm), l - s = f → f < n → 0 ≤ s → d ≤ u → u + (l - s) ≤ 40 → μ.1 72 1 = ii u → (∀ i, 0 ≤ i → i < u → μ.1 73 i.toNat = ii (U i)) → ∃ m', lX8_unpackToken_33 oS n μ 71 (ii d) (ii l) (ii s) = some (m', μ.2) ∧ (∀ a, a ≠ 72 → a ≠ 73 → m' a = μ.1 a) ∧ m' 72 1 = ii (u + f) ∧ ∀ i, 0 ≤ i → i < u + f → m' 73 i.toNat = ii (cpGo d f u U i) := by
  intro f
  induction f with
  | zero =>
    intro n s u U μ h1 h2 h3 h4 h5 hc hU
    obtain ⟨n, rfl⟩ : ∃ k, n = k + 1 := ⟨n - 1, by omega⟩
    refine ⟨μ.1, ?_, fun _ _ _ => rfl, by rw [hc]; exact congrArg ii (by omega), fun i h6 h7 => hU i h6 (by push_cast at h7; omega)⟩
    simp (disch := omega) only [Option.bind_some, km1, k0, k1, k2, k3, k4, k5, k6, k7, k8, k9, k10, k11, k15, k16, k20, k32, k33, k39, k40, k43, k44, k45, k48, k49, k50, k51, k52, k57, k59, k60, k63, k64, k80, k97, k100, k101, k108, k112, k114, k117, k126, k130, k650, k100000, k1000000, ii_add, ii_sub, ii_neg, ii_mul, ii_lt, ii_le, ii_eq, if_true, if_false, if_pos, if_neg, gI_0, gI_1, gI_2, gI_4, gI_7, gI_15, gI_59, gI_61, gI_62, gI_66, gI_68, gI_71, gI_72, gR_0_0, gR_0_1, gR_0_3, gR_0_4, gR_0_5, gR_0_6, gR_0_7, gR_0_8, gR_1_0, gR_1_1, gR_1_2, gR_2_0, gR_4_0, gR_4_1, gR_15_0, gR_59_0, gR_61_0, gR_61_1, gR_61_2, gR_62_0, gR_62_1, gR_62_2, gR_66_0, gR_66_1, gR_68_0, gR_68_1, gR_71_0, gR_72_0, ld_3, ld_5, ld_6, ld_60, ld_63, ld_64, ld_65, ld_67, ld_69, ld_70, ld_73, st_3, st_5, st_6, st_60, st_63, st_64, st_65, st_67, st_69, st_70, st_73, aL_3, aL_5, aL_6, aL_60, aL_63, aL_64, aL_65, aL_67, aL_69, aL_70, aL_73, pI_0, pI_1, pI_2, pI_4, pI_7, pI_15, pI_59, pI_61, pI_62, pI_66, pI_68, pI_71, pI_72, ld_16, aL_16, lX8_unpackToken_33]
  | succ f ih =>
    intro n s u U μ h1 h2 h3 h4 h5 hc hU
    obtain ⟨n, rfl⟩ : ∃ k, n = k + 1 := ⟨n - 1, by omega⟩
    have r1 := hU (u - d) (by omega) (by omega)
    have g1 : fX2_get oS μ 72 (ii (u - d)) = some (ii (U (u - d))) := by rw [get_at oLt_72 hc (by omega) (by omega) (by omega)]; exact congrArg some r1
    have g2 := put_at (μ := μ) (v := ii (U (u - d))) oLt_72 hc (by omega) (by omega)
    obtain ⟨m', j1, j2, j3, j4⟩ := ih n (s + 1) (u + 1) (upI U u (U (u - d))) (u2 (u2 μ.1 73 u.toNat (ii (U (u - d)))) 72 1 (ii (u + 1)), μ.2) (by push_cast at h1; omega) (by omega) (by omega) (by omega) (by omega) (by simp (disch := omega) only [u2_at]) (put72 (by omega) hU)
    refine ⟨m', ?_, fun a ha hb => (j2 a ha hb).trans (by simp (disch := omega) only [u2_offr]), by rw [j3]; exact congrArg ii (by push_cast; omega), fun i h6 h7 => j4 i h6 (by push_cast at h7; omega)⟩
    rw [← j1]
    simp (disch := omega) only [Option.bind_some, km1, k0, k1, k2, k3, k4, k5, k6, k7, k8, k9, k10, k11, k15, k16, k20, k32, k33, k39, k40, k43, k44, k45, k48, k49, k50, k51, k52, k57, k59, k60, k63, k64, k80, k97, k100, k101, k108, k112, k114, k117, k126, k130, k650, k100000, k1000000, ii_add, ii_sub, ii_neg, ii_mul, ii_lt, ii_le, ii_eq, if_true, if_false, if_pos, if_neg, gI_0, gI_1, gI_2, gI_4, gI_7, gI_15, gI_59, gI_61, gI_62, gI_66, gI_68, gI_71, gI_72, gR_0_0, gR_0_1, gR_0_3, gR_0_4, gR_0_5, gR_0_6, gR_0_7, gR_0_8, gR_1_0, gR_1_1, gR_1_2, gR_2_0, gR_4_0, gR_4_1, gR_15_0, gR_59_0, gR_61_0, gR_61_1, gR_61_2, gR_62_0, gR_62_1, gR_62_2, gR_66_0, gR_66_1, gR_68_0, gR_68_1, gR_71_0, gR_72_0, ld_3, ld_5, ld_6, ld_60, ld_63, ld_64, ld_65, ld_67, ld_69, ld_70, ld_73, st_3, st_5, st_6, st_60, st_63, st_64, st_65, st_67, st_69, st_70, st_73, aL_3, aL_5, aL_6, aL_60, aL_63, aL_64, aL_65, aL_67, aL_69, aL_70, aL_73, pI_0, pI_1, pI_2, pI_4, pI_7, pI_15, pI_59, pI_61, pI_62, pI_66, pI_68, pI_71, pI_72, ld_16, aL_16, lX8_unpackToken_33, hc, g1, g2]
theorem why_at {μ : mMm} {D V : Int → Int} {t u : Int} (hc : μ.1 72 1 = ii u) (h0 : 0 ≤ u) (h1 : u ≤ 40) (h2 : 0 ≤ D t) (h3 : D t ≤ 40) (h4 : 0 ≤ tlen D V t) (h5 : tlen D V t ≤ 40) : fX8_whyWrong oS μ 71 (ii (D t)) (ii (tlen D V t)) = some (ii (whyW D V t u)) := by
  unfold fX8_whyWrong bX8_whyWrong whyW
  by_cases c1 : u < D t
  · simp (disch := omega) only [Option.bind_some, km1, k0, k1, k2, k3, k4, k5, k6, k7, k8, k9, k10, k11, k15, k16, k20, k32, k33, k39, k40, k43, k44, k45, k48, k49, k50, k51, k52, k57, k59, k60, k63, k64, k80, k97, k100, k101, k108, k112, k114, k117, k126, k130, k650, k100000, k1000000, ii_add, ii_sub, ii_neg, ii_mul, ii_lt, ii_le, ii_eq, if_true, if_false, if_pos, if_neg, gI_0, gI_1, gI_2, gI_4, gI_7, gI_15, gI_59, gI_61, gI_62, gI_66, gI_68, gI_71, gI_72, gR_0_0, gR_0_1, gR_0_3, gR_0_4, gR_0_5, gR_0_6, gR_0_7, gR_0_8, gR_1_0, gR_1_1, gR_1_2, gR_2_0, gR_4_0, gR_4_1, gR_15_0, gR_59_0, gR_61_0, gR_61_1, gR_61_2, gR_62_0, gR_62_1, gR_62_2, gR_66_0, gR_66_1, gR_68_0, gR_68_1, gR_71_0, gR_72_0, ld_3, ld_5, ld_6, ld_60, ld_63, ld_64, ld_65, ld_67, ld_69, ld_70, ld_73, st_3, st_5, st_6, st_60, st_63, st_64, st_65, st_67, st_69, st_70, st_73, aL_3, aL_5, aL_6, aL_60, aL_63, aL_64, aL_65, aL_67, aL_69, aL_70, aL_73, pI_0, pI_1, pI_2, pI_4, pI_7, pI_15, pI_59, pI_61, pI_62, pI_66, pI_68, pI_71, pI_72, ld_16, aL_16, if_pos o71, hc]
  · by_cases c2 : 40 < u + tlen D V t
    · simp (disch := omega) only [Option.bind_some, km1, k0, k1, k2, k3, k4, k5, k6, k7, k8, k9, k10, k11, k15, k16, k20, k32, k33, k39, k40, k43, k44, k45, k48, k49, k50, k51, k52, k57, k59, k60, k63, k64, k80, k97, k100, k101, k108, k112, k114, k117, k126, k130, k650, k100000, k1000000, ii_add, ii_sub, ii_neg, ii_mul, ii_lt, ii_le, ii_eq, if_true, if_false, if_pos, if_neg, gI_0, gI_1, gI_2, gI_4, gI_7, gI_15, gI_59, gI_61, gI_62, gI_66, gI_68, gI_71, gI_72, gR_0_0, gR_0_1, gR_0_3, gR_0_4, gR_0_5, gR_0_6, gR_0_7, gR_0_8, gR_1_0, gR_1_1, gR_1_2, gR_2_0, gR_4_0, gR_4_1, gR_15_0, gR_59_0, gR_61_0, gR_61_1, gR_61_2, gR_62_0, gR_62_1, gR_62_2, gR_66_0, gR_66_1, gR_68_0, gR_68_1, gR_71_0, gR_72_0, ld_3, ld_5, ld_6, ld_60, ld_63, ld_64, ld_65, ld_67, ld_69, ld_70, ld_73, st_3, st_5, st_6, st_60, st_63, st_64, st_65, st_67, st_69, st_70, st_73, aL_3, aL_5, aL_6, aL_60, aL_63, aL_64, aL_65, aL_67, aL_69, aL_70, aL_73, pI_0, pI_1, pI_2, pI_4, pI_7, pI_15, pI_59, pI_61, pI_62, pI_66, pI_68, pI_71, pI_72, ld_16, aL_16, if_pos o71, hc]
    · simp (disch := omega) only [Option.bind_some, km1, k0, k1, k2, k3, k4, k5, k6, k7, k8, k9, k10, k11, k15, k16, k20, k32, k33, k39, k40, k43, k44, k45, k48, k49, k50, k51, k52, k57, k59, k60, k63, k64, k80, k97, k100, k101, k108, k112, k114, k117, k126, k130, k650, k100000, k1000000, ii_add, ii_sub, ii_neg, ii_mul, ii_lt, ii_le, ii_eq, if_true, if_false, if_pos, if_neg, gI_0, gI_1, gI_2, gI_4, gI_7, gI_15, gI_59, gI_61, gI_62, gI_66, gI_68, gI_71, gI_72, gR_0_0, gR_0_1, gR_0_3, gR_0_4, gR_0_5, gR_0_6, gR_0_7, gR_0_8, gR_1_0, gR_1_1, gR_1_2, gR_2_0, gR_4_0, gR_4_1, gR_15_0, gR_59_0, gR_61_0, gR_61_1, gR_61_2, gR_62_0, gR_62_1, gR_62_2, gR_66_0, gR_66_1, gR_68_0, gR_68_1, gR_71_0, gR_72_0, ld_3, ld_5, ld_6, ld_60, ld_63, ld_64, ld_65, ld_67, ld_69, ld_70, ld_73, st_3, st_5, st_6, st_60, st_63, st_64, st_65, st_67, st_69, st_70, st_73, aL_3, aL_5, aL_6, aL_60, aL_63, aL_64, aL_65, aL_67, aL_69, aL_70, aL_73, pI_0, pI_1, pI_2, pI_4, pI_7, pI_15, pI_59, pI_61, pI_62, pI_66, pI_68, pI_71, pI_72, ld_16, aL_16, if_pos o71, hc]
theorem run_loop {D V : Int → Int} {k : Int} (hP : PKok k D V) (hk0 : 0 ≤ k) (hk : k ≤ 40) : ∀ (f n : Nat) (t u : Int) (U : Int → Int) (μ : mMm), k - t < f → f ≤ n → 0 ≤ t → t ≤ k → 0 ≤ u → u ≤ 40 → SK μ.1 4 k D V → UN μ.1 (u, U, -1, 0) → ∃ m', lX8_run_19 oS n μ 71 4 (ii t) = some (m', μ.2) ∧ (∀ a, a ≠ 71 → a ≠ 72 → a ≠ 73 → m' a = μ.1 a) ∧ UN m' (uGo D V k f t u U) := by
  intro f
  induction f with
  | zero => intro n t u U μ h1; push_cast at h1; omega
  | succ f ih =>
    intro n t u U μ h1 h2 h3 h4 h5 h6 hS hN
    obtain ⟨n, rfl⟩ : ∃ k, n = k + 1 := ⟨n - 1, by omega⟩
    have hk2 := hS.1
    obtain ⟨hc, hU, hwr, hrs⟩ := id hN
    dsimp only at hc hU hwr hrs
    unfold uGo
    by_cases hkt : k ≤ t
    · rw [if_pos hkt]
      refine ⟨μ.1, ?_, fun _ _ _ _ => rfl, hN⟩
      simp (disch := omega) only [Option.bind_some, km1, k0, k1, k2, k3, k4, k5, k6, k7, k8, k9, k10, k11, k15, k16, k20, k32, k33, k39, k40, k43, k44, k45, k48, k49, k50, k51, k52, k57, k59, k60, k63, k64, k80, k97, k100, k101, k108, k112, k114, k117, k126, k130, k650, k100000, k1000000, ii_add, ii_sub, ii_neg, ii_mul, ii_lt, ii_le, ii_eq, if_true, if_false, if_pos, if_neg, gI_0, gI_1, gI_2, gI_4, gI_7, gI_15, gI_59, gI_61, gI_62, gI_66, gI_68, gI_71, gI_72, gR_0_0, gR_0_1, gR_0_3, gR_0_4, gR_0_5, gR_0_6, gR_0_7, gR_0_8, gR_1_0, gR_1_1, gR_1_2, gR_2_0, gR_4_0, gR_4_1, gR_15_0, gR_59_0, gR_61_0, gR_61_1, gR_61_2, gR_62_0, gR_62_1, gR_62_2, gR_66_0, gR_66_1, gR_68_0, gR_68_1, gR_71_0, gR_72_0, ld_3, ld_5, ld_6, ld_60, ld_63, ld_64, ld_65, ld_67, ld_69, ld_70, ld_73, st_3, st_5, st_6, st_60, st_63, st_64, st_65, st_67, st_69, st_70, st_73, aL_3, aL_5, aL_6, aL_60, aL_63, aL_64, aL_65, aL_67, aL_69, aL_70, aL_73, pI_0, pI_1, pI_2, pI_4, pI_7, pI_15, pI_59, pI_61, pI_62, pI_66, pI_68, pI_71, pI_72, ld_16, aL_16, lX8_run_19, hk2]
    · rw [if_neg hkt]
      have r1 := (hS.2 t h3 (by omega)).1
      have r3 := (hS.2 t h3 (by omega)).2
      have hp := hP t h3 (by omega)
      have htl := tlen_b hP h3 (by omega)
      have g1 : fX5_distance oS μ 4 (ii t) = some (ii (D t)) := by rw [dist_at oSk_4 h3 (by omega)]; exact congrArg some r1
      have g2 : fX5_length oS μ 4 (ii t) = some (ii (tlen D V t)) := len_at oSk_4 h3 (by omega) r1 r3 (by omega) (by omega)
      have g3 := why_at (D := D) (V := V) (t := t) hc h5 h6 (by omega) (by omega) (by omega) (by omega)
      have hwb := whyW_b D V t u
      by_cases hw : whyW D V t u = 0
      · rw [if_pos hw]
        have hw0 := whyW_0 hw
        have hc1 : (u2 μ.1 71 2 (ii 0)) 72 1 = ii u := by simp (disch := omega) only [u2_off]; exact hc
        have hU1 : ∀ i, 0 ≤ i → i < u → (u2 μ.1 71 2 (ii 0)) 73 i.toNat = ii (U i) := fun i h7 h8 => by simp (disch := omega) only [u2_off]; exact hU i h7 h8
        have q1 : fX5_distance oS (u2 μ.1 71 2 (ii 0), μ.2) 4 (ii t) = some (ii (D t)) := by
          rw [dist_at oSk_4 h3 (by omega)]
          simp (disch := omega) only [u2_off]
          exact congrArg some r1
        have q3 : fX5_value oS (u2 μ.1 71 2 (ii 0), μ.2) 4 (ii t) = some (ii (V t)) := by
          rw [val_at oSk_4 h3 (by omega)]
          simp (disch := omega) only [u2_off]
          exact congrArg some r3
        have q2 : fX5_length oS (u2 μ.1 71 2 (ii 0), μ.2) 4 (ii t) = some (ii (tlen D V t)) := len_at oSk_4 h3 (by omega) (by simp (disch := omega) only [u2_off]; exact r1) (by simp (disch := omega) only [u2_off]; exact r3) (by omega) (by omega)
        have htok : ∃ m1, fX8_unpackToken oS (u2 μ.1 71 2 (ii 0), μ.2) 71 4 (ii t) = some (m1, μ.2) ∧ (∀ a, a ≠ 72 → a ≠ 73 → m1 a = (u2 μ.1 71 2 (ii 0)) a) ∧ m1 72 1 = ii (u + tlen D V t) ∧ ∀ i, 0 ≤ i → i < u + tlen D V t → m1 73 i.toNat = ii (tokU D V t u U i) := by
          unfold fX8_unpackToken bX8_unpackToken tokU tlen
          by_cases hd : D t = 0
          · rw [if_pos hd, if_pos hd]
            have g4 := put_at (μ := (u2 μ.1 71 2 (ii 0), μ.2)) (v := ii (V t)) oLt_72 hc1 h5 (by unfold tlen at hw0; rw [if_pos hd] at hw0; omega)
            refine ⟨_, ?_, fun a ha hb => ?_, ?_, put72 h5 hU1⟩
            · simp (disch := omega) only [Option.bind_some, km1, k0, k1, k2, k3, k4, k5, k6, k7, k8, k9, k10, k11, k15, k16, k20, k32, k33, k39, k40, k43, k44, k45, k48, k49, k50, k51, k52, k57, k59, k60, k63, k64, k80, k97, k100, k101, k108, k112, k114, k117, k126, k130, k650, k100000, k1000000, ii_add, ii_sub, ii_neg, ii_mul, ii_lt, ii_le, ii_eq, if_true, if_false, if_pos, if_neg, gI_0, gI_1, gI_2, gI_4, gI_7, gI_15, gI_59, gI_61, gI_62, gI_66, gI_68, gI_71, gI_72, gR_0_0, gR_0_1, gR_0_3, gR_0_4, gR_0_5, gR_0_6, gR_0_7, gR_0_8, gR_1_0, gR_1_1, gR_1_2, gR_2_0, gR_4_0, gR_4_1, gR_15_0, gR_59_0, gR_61_0, gR_61_1, gR_61_2, gR_62_0, gR_62_1, gR_62_2, gR_66_0, gR_66_1, gR_68_0, gR_68_1, gR_71_0, gR_72_0, ld_3, ld_5, ld_6, ld_60, ld_63, ld_64, ld_65, ld_67, ld_69, ld_70, ld_73, st_3, st_5, st_6, st_60, st_63, st_64, st_65, st_67, st_69, st_70, st_73, aL_3, aL_5, aL_6, aL_60, aL_63, aL_64, aL_65, aL_67, aL_69, aL_70, aL_73, pI_0, pI_1, pI_2, pI_4, pI_7, pI_15, pI_59, pI_61, pI_62, pI_66, pI_68, pI_71, pI_72, ld_16, aL_16, if_pos o71, q1, q3, g4]
            · simp (disch := omega) only [u2_offr]
            · simp (disch := omega) only [u2_at]
          · rw [if_neg hd, if_neg hd]
            have hlv : tlen D V t = V t := if_neg hd
            rw [hlv] at q2 hw0 htl
            obtain ⟨m1, i1, i2, i3, i4⟩ := tok_loop (d := D t) (l := V t) (by omega) (by omega) (V t).toNat FU 0 u U (u2 μ.1 71 2 (ii 0), μ.2) (by omega) (by have := hFU; omega) (by omega) hw0.1 (by omega) hc1 hU1
            refine ⟨m1, ?_, i2, by rw [i3]; exact congrArg ii (by omega), fun i h7 h8 => i4 i h7 (by omega)⟩
            rw [← i1]
            simp (disch := omega) only [Option.bind_some, km1, k0, k1, k2, k3, k4, k5, k6, k7, k8, k9, k10, k11, k15, k16, k20, k32, k33, k39, k40, k43, k44, k45, k48, k49, k50, k51, k52, k57, k59, k60, k63, k64, k80, k97, k100, k101, k108, k112, k114, k117, k126, k130, k650, k100000, k1000000, ii_add, ii_sub, ii_neg, ii_mul, ii_lt, ii_le, ii_eq, if_true, if_false, if_pos, if_neg, gI_0, gI_1, gI_2, gI_4, gI_7, gI_15, gI_59, gI_61, gI_62, gI_66, gI_68, gI_71, gI_72, gR_0_0, gR_0_1, gR_0_3, gR_0_4, gR_0_5, gR_0_6, gR_0_7, gR_0_8, gR_1_0, gR_1_1, gR_1_2, gR_2_0, gR_4_0, gR_4_1, gR_15_0, gR_59_0, gR_61_0, gR_61_1, gR_61_2, gR_62_0, gR_62_1, gR_62_2, gR_66_0, gR_66_1, gR_68_0, gR_68_1, gR_71_0, gR_72_0, ld_3, ld_5, ld_6, ld_60, ld_63, ld_64, ld_65, ld_67, ld_69, ld_70, ld_73, st_3, st_5, st_6, st_60, st_63, st_64, st_65, st_67, st_69, st_70, st_73, aL_3, aL_5, aL_6, aL_60, aL_63, aL_64, aL_65, aL_67, aL_69, aL_70, aL_73, pI_0, pI_1, pI_2, pI_4, pI_7, pI_15, pI_59, pI_61, pI_62, pI_66, pI_68, pI_71, pI_72, ld_16, aL_16, if_pos o71, q1, q2]
        obtain ⟨m1, i1, i2, i3, i4⟩ := htok
        have hS1 : SK m1 4 k D V := by
          refine ⟨?_, fun j h7 h8 => ?_⟩
          · rw [i2 4 (by omega) (by omega)]
            simp (disch := omega) only [u2_off]
            exact hS.1
          · rw [i2 (4 + 1) (by omega) (by omega), i2 (4 + 2) (by omega) (by omega)]
            simp (disch := omega) only [u2_off]
            exact hS.2 j h7 h8
        have hN1 : UN m1 (u + tlen D V t, tokU D V t u U, -1, 0) := by
          refine ⟨i3, i4, ?_, ?_⟩
          · rw [i2 71 (by omega) (by omega)]
            simp (disch := omega) only [u2_off]
            exact hwr
          · rw [i2 71 (by omega) (by omega)]
            simp (disch := omega) only [u2_at]
        obtain ⟨m', j1, j2, j3⟩ := ih n (t + 1) (u + tlen D V t) (tokU D V t u U) (m1, μ.2) (by push_cast at h1; omega) (by omega) (by omega) (by omega) (by omega) hw0.2 hS1 hN1
        refine ⟨m', ?_, fun a ha hb hc => (j2 a ha hb hc).trans ((i2 a hb hc).trans (by simp (disch := omega) only [u2_offr])), j3⟩
        rw [hw] at g3
        rw [← j1]
        simp (disch := omega) only [Option.bind_some, km1, k0, k1, k2, k3, k4, k5, k6, k7, k8, k9, k10, k11, k15, k16, k20, k32, k33, k39, k40, k43, k44, k45, k48, k49, k50, k51, k52, k57, k59, k60, k63, k64, k80, k97, k100, k101, k108, k112, k114, k117, k126, k130, k650, k100000, k1000000, ii_add, ii_sub, ii_neg, ii_mul, ii_lt, ii_le, ii_eq, if_true, if_false, if_pos, if_neg, gI_0, gI_1, gI_2, gI_4, gI_7, gI_15, gI_59, gI_61, gI_62, gI_66, gI_68, gI_71, gI_72, gR_0_0, gR_0_1, gR_0_3, gR_0_4, gR_0_5, gR_0_6, gR_0_7, gR_0_8, gR_1_0, gR_1_1, gR_1_2, gR_2_0, gR_4_0, gR_4_1, gR_15_0, gR_59_0, gR_61_0, gR_61_1, gR_61_2, gR_62_0, gR_62_1, gR_62_2, gR_66_0, gR_66_1, gR_68_0, gR_68_1, gR_71_0, gR_72_0, ld_3, ld_5, ld_6, ld_60, ld_63, ld_64, ld_65, ld_67, ld_69, ld_70, ld_73, st_3, st_5, st_6, st_60, st_63, st_64, st_65, st_67, st_69, st_70, st_73, aL_3, aL_5, aL_6, aL_60, aL_63, aL_64, aL_65, aL_67, aL_69, aL_70, aL_73, pI_0, pI_1, pI_2, pI_4, pI_7, pI_15, pI_59, pI_61, pI_62, pI_66, pI_68, pI_71, pI_72, ld_16, aL_16, lX8_run_19, lX8_run_73, hk2, hrs, g1, g2, g3, u2_at, i1]
      · rw [if_neg hw]
        have hS1 : SK (u2 (u2 μ.1 71 2 (ii (whyW D V t u))) 71 1 (ii t)) 4 k D V := ⟨by simp (disch := omega) only [u2_off]; exact hS.1, fun j h7 h8 => by simp (disch := omega) only [u2_off]; exact hS.2 j h7 h8⟩
        refine ⟨u2 (u2 μ.1 71 2 (ii (whyW D V t u))) 71 1 (ii t), ?_, fun a ha hb hc => by simp (disch := omega) only [u2_offr], ?_⟩
        · obtain ⟨n, rfl⟩ : ∃ k, n = k + 1 := ⟨n - 1, by push_cast at h1; omega⟩
          by_cases hkt1 : k ≤ t + 1
          · simp (disch := omega) only [Option.bind_some, km1, k0, k1, k2, k3, k4, k5, k6, k7, k8, k9, k10, k11, k15, k16, k20, k32, k33, k39, k40, k43, k44, k45, k48, k49, k50, k51, k52, k57, k59, k60, k63, k64, k80, k97, k100, k101, k108, k112, k114, k117, k126, k130, k650, k100000, k1000000, ii_add, ii_sub, ii_neg, ii_mul, ii_lt, ii_le, ii_eq, if_true, if_false, if_pos, if_neg, gI_0, gI_1, gI_2, gI_4, gI_7, gI_15, gI_59, gI_61, gI_62, gI_66, gI_68, gI_71, gI_72, gR_0_0, gR_0_1, gR_0_3, gR_0_4, gR_0_5, gR_0_6, gR_0_7, gR_0_8, gR_1_0, gR_1_1, gR_1_2, gR_2_0, gR_4_0, gR_4_1, gR_15_0, gR_59_0, gR_61_0, gR_61_1, gR_61_2, gR_62_0, gR_62_1, gR_62_2, gR_66_0, gR_66_1, gR_68_0, gR_68_1, gR_71_0, gR_72_0, ld_3, ld_5, ld_6, ld_60, ld_63, ld_64, ld_65, ld_67, ld_69, ld_70, ld_73, st_3, st_5, st_6, st_60, st_63, st_64, st_65, st_67, st_69, st_70, st_73, aL_3, aL_5, aL_6, aL_60, aL_63, aL_64, aL_65, aL_67, aL_69, aL_70, aL_73, pI_0, pI_1, pI_2, pI_4, pI_7, pI_15, pI_59, pI_61, pI_62, pI_66, pI_68, pI_71, pI_72, ld_16, aL_16, lX8_run_19, lX8_run_73, hk2, hrs, g1, g2, g3, u2_at, u2_off]
          · simp (disch := omega) only [Option.bind_some, km1, k0, k1, k2, k3, k4, k5, k6, k7, k8, k9, k10, k11, k15, k16, k20, k32, k33, k39, k40, k43, k44, k45, k48, k49, k50, k51, k52, k57, k59, k60, k63, k64, k80, k97, k100, k101, k108, k112, k114, k117, k126, k130, k650, k100000, k1000000, ii_add, ii_sub, ii_neg, ii_mul, ii_lt, ii_le, ii_eq, if_true, if_false, if_pos, if_neg, gI_0, gI_1, gI_2, gI_4, gI_7, gI_15, gI_59, gI_61, gI_62, gI_66, gI_68, gI_71, gI_72, gR_0_0, gR_0_1, gR_0_3, gR_0_4, gR_0_5, gR_0_6, gR_0_7, gR_0_8, gR_1_0, gR_1_1, gR_1_2, gR_2_0, gR_4_0, gR_4_1, gR_15_0, gR_59_0, gR_61_0, gR_61_1, gR_61_2, gR_62_0, gR_62_1, gR_62_2, gR_66_0, gR_66_1, gR_68_0, gR_68_1, gR_71_0, gR_72_0, ld_3, ld_5, ld_6, ld_60, ld_63, ld_64, ld_65, ld_67, ld_69, ld_70, ld_73, st_3, st_5, st_6, st_60, st_63, st_64, st_65, st_67, st_69, st_70, st_73, aL_3, aL_5, aL_6, aL_60, aL_63, aL_64, aL_65, aL_67, aL_69, aL_70, aL_73, pI_0, pI_1, pI_2, pI_4, pI_7, pI_15, pI_59, pI_61, pI_62, pI_66, pI_68, pI_71, pI_72, ld_16, aL_16, lX8_run_19, lX8_run_73, hk2, hrs, g1, g2, g3, u2_at, u2_off]
        · refine ⟨by simp (disch := omega) only [u2_off]; exact hc, fun i h7 h8 => by simp (disch := omega) only [u2_off]; exact hU i h7 h8, by simp (disch := omega) only [u2_at], by simp (disch := omega) only [u2_off, u2_at]⟩
theorem run_at {μ : mMm} {v : Int → Int} (hR : RS μ.1 1 v) (hW : WF v) : ∃ m', fX8_run oS μ 71 4 = some (m', μ.2) ∧ (∀ a, a ≠ 71 → a ≠ 72 → a ≠ 73 → m' a = μ.1 a) ∧ UN m' (unp v) := by
  have g6 := wf_6 hW
  have hS := RS_K hR
  have hcl := lclear_at (μ := μ) oLt_72
  have hS1 : SK (u2 (u2 (u2 μ.1 72 1 (ii 0)) 71 1 (ii (-1))) 71 2 (ii 0)) 4 (v 6) (tkD v) (tkV v) := ⟨by simp (disch := omega) only [u2_off]; exact hS.1, fun j h7 h8 => by simp (disch := omega) only [u2_off]; exact hS.2 j h7 h8⟩
  obtain ⟨m', j1, j2, j3⟩ := run_loop (WF_K hW) g6.1 g6.2 41 FU 0 0 (fun _ => 0) (u2 (u2 (u2 μ.1 72 1 (ii 0)) 71 1 (ii (-1))) 71 2 (ii 0), μ.2) (by omega) (by decide) (by omega) (by omega) (by omega) (by omega) hS1 ⟨by simp (disch := omega) only [u2_off, u2_at], fun i h0 h1 => by have h1 : i < 0 := h1; omega, by simp (disch := omega) only [u2_off, u2_at], by simp (disch := omega) only [u2_at]⟩
  refine ⟨m', ?_, fun a ha hb hc => (j2 a ha hb hc).trans (by simp (disch := omega) only [u2_offr]), j3⟩
  unfold fX8_run bX8_run
  simp (disch := omega) only [Option.bind_some, km1, k0, k1, k2, k3, k4, k5, k6, k7, k8, k9, k10, k11, k15, k16, k20, k32, k33, k39, k40, k43, k44, k45, k48, k49, k50, k51, k52, k57, k59, k60, k63, k64, k80, k97, k100, k101, k108, k112, k114, k117, k126, k130, k650, k100000, k1000000, ii_add, ii_sub, ii_neg, ii_mul, ii_lt, ii_le, ii_eq, if_true, if_false, if_pos, if_neg, gI_0, gI_1, gI_2, gI_4, gI_7, gI_15, gI_59, gI_61, gI_62, gI_66, gI_68, gI_71, gI_72, gR_0_0, gR_0_1, gR_0_3, gR_0_4, gR_0_5, gR_0_6, gR_0_7, gR_0_8, gR_1_0, gR_1_1, gR_1_2, gR_2_0, gR_4_0, gR_4_1, gR_15_0, gR_59_0, gR_61_0, gR_61_1, gR_61_2, gR_62_0, gR_62_1, gR_62_2, gR_66_0, gR_66_1, gR_68_0, gR_68_1, gR_71_0, gR_72_0, ld_3, ld_5, ld_6, ld_60, ld_63, ld_64, ld_65, ld_67, ld_69, ld_70, ld_73, st_3, st_5, st_6, st_60, st_63, st_64, st_65, st_67, st_69, st_70, st_73, aL_3, aL_5, aL_6, aL_60, aL_63, aL_64, aL_65, aL_67, aL_69, aL_70, aL_73, pI_0, pI_1, pI_2, pI_4, pI_7, pI_15, pI_59, pI_61, pI_62, pI_66, pI_68, pI_71, pI_72, ld_16, aL_16, if_pos o71, hcl, j1]
theorem unp_b {v : Int → Int} (hW : WF v) : (0 ≤ (unp v).1 ∧ (unp v).1 ≤ 40) ∧ UB (unp v).1 (unp v).2.1 ∧ (-1 ≤ (unp v).2.2.1 ∧ ((unp v).2.2.1 = -1 ↔ (unp v).2.2.2 = 0) ∧ (unp v).2.2.1 < 40) ∧ (0 ≤ (unp v).2.2.2 ∧ (unp v).2.2.2 ≤ 2) := by
  have g6 := wf_6 hW
  have h := uGo_b (WF_K hW) 41 0 0 (fun _ => 0) (by omega) (by omega) (by omega) (fun i h0 h1 => by omega)
  exact ⟨h.1, h.2.1, ⟨h.2.2.1.1, h.2.2.1.2.1, Int.lt_of_lt_of_le (h.2.2.1.2.2 g6.1) g6.2⟩, h.2.2.2⟩
