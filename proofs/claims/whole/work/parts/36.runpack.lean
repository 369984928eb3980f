/-! the reference unpacks -/
def RN (m : Nat → Nat → Int32) (r : Int × (Int → Int) × Int × Int) : Prop := m 74 14 = ii r.1 ∧ (∀ i, 0 ≤ i → i < r.1 → m 80 i.toNat = ii (r.2.1 i)) ∧ m 74 12 = ii r.2.2.1 ∧ m 74 13 = ii r.2.2.2
def UF (m m' : Nat → Nat → Int32) : Prop := (∀ a, a ≠ 80 → a ≠ 74 → m' a = m a) ∧ ∀ b, b ≠ 12 → b ≠ 13 → b ≠ 14 → m' 74 b = m 74 b
theorem UF.rf {m : Nat → Nat → Int32} : UF m m := ⟨fun _ _ _ => rfl, fun _ _ _ _ => rfl⟩
theorem UF.tr {m m1 m2 : Nat → Nat → Int32} (h : UF m m1) (k : UF m1 m2) : UF m m2 := ⟨fun a ha hb => (k.1 a ha hb).trans (h.1 a ha hb), fun b h1 h2 h3 => (k.2 b h1 h2 h3).trans (h.2 b h1 h2 h3)⟩
theorem put80 {m : Nat → Nat → Int32} {u x : Int} {U : Int → Int} (h0 : 0 ≤ u) (h : ∀ i, 0 ≤ i → i < u → m 80 i.toNat = ii (U i)) : ∀ i, 0 ≤ i → i < u + 1 → (u2 (u2 m 80 u.toNat (ii x)) 74 14 (ii (u + 1))) 80 i.toNat = ii (upI U u x i) := by
  intro i h1 h2
  by_cases hi : i = u
  · subst hi
    rw [upI_s]
    simp (disch := omega) only [u2_off, u2_at]
  · rw [upI_n hi]
    simp (disch := omega) only [u2_off]
    exact h i h1 (by omega)
theorem UF_put {m : Nat → Nat → Int32} {u x : Int} : UF m (u2 (u2 m 80 u.toNat (ii x)) 74 14 (ii (u + 1))) := ⟨fun a ha hb => by simp (disch := omega) only [u2_offr], fun b h1 h2 h3 => by simp (disch := omega) only [u2_off]⟩
theorem rtok_loop {v : Int → Int} (hW : WF v) {t : Int} {k17 : mMm → Nat → Int32 → Option mMm} (ht0 : 0 ≤ t) (ht : t < v 6) (hd : tkD v t ≠ 0) : ∀ (f n : Nat) (s u : Int) (U : Int → Int) (μ : mMm), tkV v t - s = f → f < n → 0 ≤ s → tkD v t ≤ u → u + (tkV v t - s) ≤ 40 → RZ μ.1 v → μ.1 74 14 = ii u → μ.1 74 13 = ii 0 → (∀ i, 0 ≤ i → i < u → μ.1 80 i.toNat = ii (U i)) → ∃ m', lX11_unpacks_93 k17 oS n μ 74 (ii t) (ii s) = k17 (m', μ.2) 74 (ii (t + 1)) ∧ (∀ a, a ≠ 80 → a ≠ 74 → m' a = μ.1 a) ∧ (∀ b, b ≠ 14 → m' 74 b = μ.1 74 b) ∧ m' 74 14 = ii (u + f) ∧ ∀ i, 0 ≤ i → i < u + f → m' 80 i.toNat = ii (cpGo (tkD v t) f u U i) := by
  have g6 := wf_6 hW
  have hp := wf_k hW ht0 ht
  unfold tkOk at hp
  intro f
  induction f with
  | zero =>
    intro n s u U μ h1 h2 h3 h4 h5 hR hc hw hU
    obtain ⟨n, rfl⟩ : ∃ k, n = k + 1 := ⟨n - 1, by omega⟩
    have g1 := rlength_at hR ht0 (by omega) (by omega) (by omega)
    rw [if_neg hd] at g1
    refine ⟨μ.1, ?_, fun _ _ _ => rfl, fun _ _ => rfl, by rw [hc]; exact congrArg ii (by omega), fun i h6 h7 => hU i h6 (by push_cast at h7; omega)⟩
    simp (disch := omega) only [Option.bind_some, km1, k0, k1, k2, k3, k4, k5, k6, k7, k8, k9, k10, k11, k15, k16, k20, k32, k33, k39, k40, k43, k44, k45, k48, k49, k50, k51, k52, k57, k59, k60, k63, k64, k80, k97, k100, k101, k108, k112, k114, k117, k126, k130, k650, k100000, k1000000, ii_add, ii_sub, ii_neg, ii_mul, ii_lt, ii_le, ii_eq, if_true, if_false, if_pos, if_neg, gI_0, gI_1, gI_2, gI_4, gI_7, gI_15, gI_59, gI_61, gI_62, gI_66, gI_68, gI_71, gI_72, gI_74, gR_0_0, gR_0_1, gR_0_3, gR_0_4, gR_0_5, gR_0_6, gR_0_7, gR_0_8, gR_1_0, gR_1_1, gR_1_2, gR_2_0, gR_4_0, gR_4_1, gR_15_0, gR_59_0, gR_61_0, gR_61_1, gR_61_2, gR_62_0, gR_62_1, gR_62_2, gR_66_0, gR_66_1, gR_68_0, gR_68_1, gR_71_0, gR_72_0, gR_74_0, gR_74_1, gR_74_3, gR_74_5, gR_74_7, gR_74_8, gR_74_9, gR_74_15, ld_3, ld_5, ld_6, ld_60, ld_63, ld_64, ld_65, ld_67, ld_69, ld_70, ld_73, ld_75, ld_76, ld_77, ld_78, ld_79, ld_80, ld_82, st_3, st_5, st_6, st_60, st_63, st_64, st_65, st_67, st_69, st_70, st_73, st_75, st_76, st_77, st_78, st_79, st_80, st_82, aL_3, aL_5, aL_6, aL_60, aL_63, aL_64, aL_65, aL_67, aL_69, aL_70, aL_73, aL_75, aL_76, aL_77, aL_78, aL_79, aL_80, aL_82, pI_0, pI_1, pI_2, pI_4, pI_7, pI_15, pI_59, pI_61, pI_62, pI_66, pI_68, pI_71, pI_72, pI_74, ld_81, ld_16, aL_16, lX11_unpacks_93, lX11_unpacks_173, g1]
  | succ f ih =>
    intro n s u U μ h1 h2 h3 h4 h5 hR hc hw hU
    obtain ⟨n, rfl⟩ : ∃ k, n = k + 1 := ⟨n - 1, by omega⟩
    have g1 := rlength_at hR ht0 (by omega) (by omega) (by omega)
    rw [if_neg hd] at g1
    have g2 := rdist_at hR ht0 (by omega)
    have r1 := hU (u - tkD v t) (by omega) (by omega)
    obtain ⟨m', j1, j2, j3, j4, j5⟩ := ih n (s + 1) (u + 1) (upI U u (U (u - tkD v t))) (u2 (u2 μ.1 80 u.toNat (ii (U (u - tkD v t)))) 74 14 (ii (u + 1)), μ.2) (by push_cast at h1; omega) (by omega) (by omega) (by omega) (by omega) (RZ_fr (by simp (disch := omega) only [u2_offr]) hR) (by simp (disch := omega) only [u2_at]) (by simp (disch := omega) only [u2_off]; exact hw) (put80 (by omega) hU)
    refine ⟨m', ?_, fun a ha hb => (j2 a ha hb).trans (by simp (disch := omega) only [u2_offr]), fun b hb => (j3 b hb).trans (by simp (disch := omega) only [u2_off]), by rw [j4]; exact congrArg ii (by push_cast; omega), fun i h6 h7 => j5 i h6 (by push_cast at h7; omega)⟩
    rw [← j1]
    simp (disch := omega) only [Option.bind_some, km1, k0, k1, k2, k3, k4, k5, k6, k7, k8, k9, k10, k11, k15, k16, k20, k32, k33, k39, k40, k43, k44, k45, k48, k49, k50, k51, k52, k57, k59, k60, k63, k64, k80, k97, k100, k101, k108, k112, k114, k117, k126, k130, k650, k100000, k1000000, ii_add, ii_sub, ii_neg, ii_mul, ii_lt, ii_le, ii_eq, if_true, if_false, if_pos, if_neg, gI_0, gI_1, gI_2, gI_4, gI_7, gI_15, gI_59, gI_61, gI_62, gI_66, gI_68, gI_71, gI_72, gI_74, gR_0_0, gR_0_1, gR_0_3, gR_0_4, gR_0_5, gR_0_6, gR_0_7, gR_0_8, gR_1_0, gR_1_1, gR_1_2, gR_2_0, gR_4_0, gR_4_1, gR_15_0, gR_59_0, gR_61_0, gR_61_1, gR_61_2, gR_62_0, gR_62_1, gR_62_2, gR_66_0, gR_66_1, gR_68_0, gR_68_1, gR_71_0, gR_72_0, gR_74_0, gR_74_1, gR_74_3, gR_74_5, gR_74_7, gR_74_8, gR_74_9, gR_74_15, ld_3, ld_5, ld_6, ld_60, ld_63, ld_64, ld_65, ld_67, ld_69, ld_70, ld_73, ld_75, ld_76, ld_77, ld_78, ld_79, ld_80, ld_82, st_3, st_5, st_6, st_60, st_63, st_64, st_65, st_67, st_69, st_70, st_73, st_75, st_76, st_77, st_78, st_79, st_80, st_82, aL_3, aL_5, aL_6, aL_60, aL_63, aL_64, aL_65, aL_67, aL_69, aL_70, aL_73, aL_75, aL_76, aL_77, aL_78, aL_79, aL_80, aL_82, pI_0, pI_1, pI_2, pI_4, pI_7, pI_15, pI_59, pI_61, pI_62, pI_66, pI_68, pI_71, pI_72, pI_74, ld_81, ld_16, aL_16, lX11_unpacks_93, lX11_unpacks_156, g1, g2, hc, hw, r1, u2_off]
theorem unpacks_loop {v : Int → Int} (hW : WF v) : ∀ (f n : Nat) (t u : Int) (U : Int → Int) (μ : mMm), v 6 - t < f → f ≤ n → 0 ≤ t → t ≤ v 6 → 0 ≤ u → u ≤ 40 → RZ μ.1 v → RN μ.1 (u, U, -1, 0) → ∃ m', lX11_unpacks_17 oS n μ 74 (ii t) = some (m', μ.2) ∧ UF μ.1 m' ∧ RN m' (uGo (tkD v) (tkV v) (v 6) f t u U) := by
  have g6 := wf_6 hW
  have hP := WF_K hW
  intro f
  induction f with
  | zero => intro n t u U μ h1; push_cast at h1; omega
  | succ f ih =>
    intro n t u U μ h1 h2 h3 h4 h5 h6 hR hN
    obtain ⟨n, rfl⟩ : ∃ k, n = k + 1 := ⟨n - 1, by omega⟩
    have hZ := hR
    unfold RZ at hZ
    obtain ⟨hc, hU, hwr, hrs⟩ := id hN
    dsimp only at hc hU hwr hrs
    unfold uGo
    by_cases hkt : v 6 ≤ t
    · rw [if_pos hkt]
      refine ⟨μ.1, ?_, UF.rf, hN⟩
      simp (disch := omega) only [Option.bind_some, km1, k0, k1, k2, k3, k4, k5, k6, k7, k8, k9, k10, k11, k15, k16, k20, k32, k33, k39, k40, k43, k44, k45, k48, k49, k50, k51, k52, k57, k59, k60, k63, k64, k80, k97, k100, k101, k108, k112, k114, k117, k126, k130, k650, k100000, k1000000, ii_add, ii_sub, ii_neg, ii_mul, ii_lt, ii_le, ii_eq, if_true, if_false, if_pos, if_neg, gI_0, gI_1, gI_2, gI_4, gI_7, gI_15, gI_59, gI_61, gI_62, gI_66, gI_68, gI_71, gI_72, gI_74, gR_0_0, gR_0_1, gR_0_3, gR_0_4, gR_0_5, gR_0_6, gR_0_7, gR_0_8, gR_1_0, gR_1_1, gR_1_2, gR_2_0, gR_4_0, gR_4_1, gR_15_0, gR_59_0, gR_61_0, gR_61_1, gR_61_2, gR_62_0, gR_62_1, gR_62_2, gR_66_0, gR_66_1, gR_68_0, gR_68_1, gR_71_0, gR_72_0, gR_74_0, gR_74_1, gR_74_3, gR_74_5, gR_74_7, gR_74_8, gR_74_9, gR_74_15, ld_3, ld_5, ld_6, ld_60, ld_63, ld_64, ld_65, ld_67, ld_69, ld_70, ld_73, ld_75, ld_76, ld_77, ld_78, ld_79, ld_80, ld_82, st_3, st_5, st_6, st_60, st_63, st_64, st_65, st_67, st_69, st_70, st_73, st_75, st_76, st_77, st_78, st_79, st_80, st_82, aL_3, aL_5, aL_6, aL_60, aL_63, aL_64, aL_65, aL_67, aL_69, aL_70, aL_73, aL_75, aL_76, aL_77, aL_78, aL_79, aL_80, aL_82, pI_0, pI_1, pI_2, pI_4, pI_7, pI_15, pI_59, pI_61, pI_62, pI_66, pI_68, pI_71, pI_72, pI_74, ld_81, ld_16, aL_16, lX11_unpacks_17, hZ]
    · rw [if_neg hkt]
      have hp := hP t h3 (by omega)
      have htl := tlen_b hP h3 (by omega)
      have g1 := rdist_at hR h3 (by omega)
      have g2 : fX11_length oS μ 74 (ii t) = some (ii (tlen (tkD v) (tkV v) t)) := rlength_at hR h3 (by omega) (by omega) (by omega)
      by_cases hw : whyW (tkD v) (tkV v) t u = 0
      · rw [if_pos hw]
        have hw0 := whyW_0 hw
        have hR1 : RZ (u2 (u2 μ.1 74 13 (ii 0)) 74 12 (ii (-1))) v := RZ_fr (by simp (disch := omega) only [u2_offr]) hR
        have htok : ∃ m1, lX11_unpacks_93 (lX11_unpacks_17 oS n) oS FU (u2 (u2 μ.1 74 13 (ii 0)) 74 12 (ii (-1)), μ.2) 74 (ii t) (ii 0) = lX11_unpacks_17 oS n (m1, μ.2) 74 (ii (t + 1)) ∧ (∀ a, a ≠ 80 → a ≠ 74 → m1 a = (u2 (u2 μ.1 74 13 (ii 0)) 74 12 (ii (-1))) a) ∧ (∀ b, b ≠ 14 → m1 74 b = (u2 (u2 μ.1 74 13 (ii 0)) 74 12 (ii (-1))) 74 b) ∧ m1 74 14 = ii (u + tlen (tkD v) (tkV v) t) ∧ ∀ i, 0 ≤ i → i < u + tlen (tkD v) (tkV v) t → m1 80 i.toNat = ii (tokU (tkD v) (tkV v) t u U i) := by
          have hc1 : (u2 (u2 μ.1 74 13 (ii 0)) 74 12 (ii (-1))) 74 14 = ii u := by simp (disch := omega) only [u2_off]; exact hc
          have hU1 : ∀ i, 0 ≤ i → i < u → (u2 (u2 μ.1 74 13 (ii 0)) 74 12 (ii (-1))) 80 i.toNat = ii (U i) := fun i h7 h8 => by simp (disch := omega) only [u2_off]; exact hU i h7 h8
          have hw1 : (u2 (u2 μ.1 74 13 (ii 0)) 74 12 (ii (-1))) 74 13 = ii 0 := by simp (disch := omega) only [u2_off, u2_at]
          by_cases hd : tkD v t = 0
          · have htl1 : tlen (tkD v) (tkV v) t = 1 := if_pos hd
            have htk1 : tokU (tkD v) (tkV v) t u U = upI U u (tkV v t) := if_pos hd
            rw [htl1, htk1]
            rw [htl1] at hw0
            obtain ⟨q, hq⟩ : ∃ k, FU = k + 1 + 1 := ⟨4998, rfl⟩
            have e1 : v (50 + 2 * t + 1) = tkV v t := congrArg v (by omega)
            have hZ1 := hR1
            unfold RZ at hZ1
            have hR2 : RZ (u2 (u2 (u2 (u2 μ.1 74 13 (ii 0)) 74 12 (ii (-1))) 80 u.toNat (ii (tkV v t))) 74 14 (ii (u + 1))) v := RZ_fr (by simp (disch := omega) only [u2_offr]) hR1
            have l1 := rlength_at (μ := (u2 (u2 μ.1 74 13 (ii 0)) 74 12 (ii (-1)), μ.2)) hR1 h3 (by omega) (by omega) (by omega)
            have l2 := rlength_at (μ := (u2 (u2 (u2 (u2 μ.1 74 13 (ii 0)) 74 12 (ii (-1))) 80 u.toNat (ii (tkV v t))) 74 14 (ii (u + 1)), μ.2)) hR2 h3 (by omega) (by omega) (by omega)
            have d1 := rdist_at (μ := (u2 (u2 μ.1 74 13 (ii 0)) 74 12 (ii (-1)), μ.2)) hR1 h3 (by omega)
            rw [if_pos hd] at l1 l2
            rw [hd] at d1
            refine ⟨_, ?_, fun a ha hb => ?_, fun b hb => ?_, ?_, put80 h5 hU1⟩
            · rw [hq]
              simp (disch := omega) only [Option.bind_some, km1, k0, k1, k2, k3, k4, k5, k6, k7, k8, k9, k10, k11, k15, k16, k20, k32, k33, k39, k40, k43, k44, k45, k48, k49, k50, k51, k52, k57, k59, k60, k63, k64, k80, k97, k100, k101, k108, k112, k114, k117, k126, k130, k650, k100000, k1000000, ii_add, ii_sub, ii_neg, ii_mul, ii_lt, ii_le, ii_eq, if_true, if_false, if_pos, if_neg, gI_0, gI_1, gI_2, gI_4, gI_7, gI_15, gI_59, gI_61, gI_62, gI_66, gI_68, gI_71, gI_72, gI_74, gR_0_0, gR_0_1, gR_0_3, gR_0_4, gR_0_5, gR_0_6, gR_0_7, gR_0_8, gR_1_0, gR_1_1, gR_1_2, gR_2_0, gR_4_0, gR_4_1, gR_15_0, gR_59_0, gR_61_0, gR_61_1, gR_61_2, gR_62_0, gR_62_1, gR_62_2, gR_66_0, gR_66_1, gR_68_0, gR_68_1, gR_71_0, gR_72_0, gR_74_0, gR_74_1, gR_74_3, gR_74_5, gR_74_7, gR_74_8, gR_74_9, gR_74_15, ld_3, ld_5, ld_6, ld_60, ld_63, ld_64, ld_65, ld_67, ld_69, ld_70, ld_73, ld_75, ld_76, ld_77, ld_78, ld_79, ld_80, ld_82, st_3, st_5, st_6, st_60, st_63, st_64, st_65, st_67, st_69, st_70, st_73, st_75, st_76, st_77, st_78, st_79, st_80, st_82, aL_3, aL_5, aL_6, aL_60, aL_63, aL_64, aL_65, aL_67, aL_69, aL_70, aL_73, aL_75, aL_76, aL_77, aL_78, aL_79, aL_80, aL_82, pI_0, pI_1, pI_2, pI_4, pI_7, pI_15, pI_59, pI_61, pI_62, pI_66, pI_68, pI_71, pI_72, pI_74, ld_81, ld_16, aL_16, lX11_unpacks_93, lX11_unpacks_156, lX11_unpacks_173, l1, l2, d1, hZ1, hw1, hc1, e1, u2_off]
            · simp (disch := omega) only [u2_offr]
            · simp (disch := omega) only [u2_off]
            · simp (disch := omega) only [u2_at]
          · have htl1 : tlen (tkD v) (tkV v) t = tkV v t := if_neg hd
            have htk1 : tokU (tkD v) (tkV v) t u U = cpGo (tkD v t) (tkV v t).toNat u U := if_neg hd
            rw [htl1, htk1]
            rw [htl1] at hw0 htl
            obtain ⟨m1, i1, i2, i3, i4, i5⟩ := rtok_loop hW (k17 := lX11_unpacks_17 oS n) h3 (by omega) hd (tkV v t).toNat FU 0 u U (u2 (u2 μ.1 74 13 (ii 0)) 74 12 (ii (-1)), μ.2) (by omega) (by have := hFU; omega) (by omega) hw0.1 (by omega) hR1 hc1 hw1 hU1
            exact ⟨m1, i1, i2, i3, by rw [i4]; exact congrArg ii (by omega), fun i h7 h8 => i5 i h7 (by omega)⟩
        obtain ⟨m1, i1, i2, i3, i4, i5⟩ := htok
        have hN1 : RN m1 (u + tlen (tkD v) (tkV v) t, tokU (tkD v) (tkV v) t u U, -1, 0) := by
          refine ⟨i4, i5, ?_, ?_⟩
          · rw [i3 12 (by omega)]
            simp (disch := omega) only [u2_at]
          · rw [i3 13 (by omega)]
            simp (disch := omega) only [u2_off, u2_at]
        obtain ⟨m', j1, j2, j3⟩ := ih n (t + 1) (u + tlen (tkD v) (tkV v) t) (tokU (tkD v) (tkV v) t u U) (m1, μ.2) (by push_cast at h1; omega) (by omega) (by omega) (by omega) (by omega) hw0.2 (RZ_fr (i2 75 (by omega) (by omega)) hR1) hN1
        refine ⟨m', ?_, UF.tr ⟨fun a ha hb => (i2 a ha hb).trans (by simp (disch := omega) only [u2_offr]), fun b h7 h8 h9 => (i3 b h9).trans (by simp (disch := omega) only [u2_off])⟩ j2, j3⟩
        rw [← j1, ← i1]
        simp (disch := omega) only [Option.bind_some, km1, k0, k1, k2, k3, k4, k5, k6, k7, k8, k9, k10, k11, k15, k16, k20, k32, k33, k39, k40, k43, k44, k45, k48, k49, k50, k51, k52, k57, k59, k60, k63, k64, k80, k97, k100, k101, k108, k112, k114, k117, k126, k130, k650, k100000, k1000000, ii_add, ii_sub, ii_neg, ii_mul, ii_lt, ii_le, ii_eq, if_true, if_false, if_pos, if_neg, gI_0, gI_1, gI_2, gI_4, gI_7, gI_15, gI_59, gI_61, gI_62, gI_66, gI_68, gI_71, gI_72, gI_74, gR_0_0, gR_0_1, gR_0_3, gR_0_4, gR_0_5, gR_0_6, gR_0_7, gR_0_8, gR_1_0, gR_1_1, gR_1_2, gR_2_0, gR_4_0, gR_4_1, gR_15_0, gR_59_0, gR_61_0, gR_61_1, gR_61_2, gR_62_0, gR_62_1, gR_62_2, gR_66_0, gR_66_1, gR_68_0, gR_68_1, gR_71_0, gR_72_0, gR_74_0, gR_74_1, gR_74_3, gR_74_5, gR_74_7, gR_74_8, gR_74_9, gR_74_15, ld_3, ld_5, ld_6, ld_60, ld_63, ld_64, ld_65, ld_67, ld_69, ld_70, ld_73, ld_75, ld_76, ld_77, ld_78, ld_79, ld_80, ld_82, st_3, st_5, st_6, st_60, st_63, st_64, st_65, st_67, st_69, st_70, st_73, st_75, st_76, st_77, st_78, st_79, st_80, st_82, aL_3, aL_5, aL_6, aL_60, aL_63, aL_64, aL_65, aL_67, aL_69, aL_70, aL_73, aL_75, aL_76, aL_77, aL_78, aL_79, aL_80, aL_82, pI_0, pI_1, pI_2, pI_4, pI_7, pI_15, pI_59, pI_61, pI_62, pI_66, pI_68, pI_71, pI_72, pI_74, ld_81, ld_16, aL_16, lX11_unpacks_17, lX11_unpacks_72, lX11_unpacks_88, hZ, hwr, g1, g2, hc, u2_at]
      · rw [if_neg hw]
        have hwb := whyW_b (tkD v) (tkV v) t u
        have hR1 : RZ (u2 (u2 μ.1 74 13 (ii (whyW (tkD v) (tkV v) t u))) 74 12 (ii t)) v := RZ_fr (by simp (disch := omega) only [u2_offr]) hR
        have hZ1 := hR1
        unfold RZ at hZ1
        have l1 : fX11_length oS (u2 (u2 μ.1 74 13 (ii (whyW (tkD v) (tkV v) t u))) 74 12 (ii t), μ.2) 74 (ii t) = some (ii (tlen (tkD v) (tkV v) t)) := rlength_at (μ := (u2 (u2 μ.1 74 13 (ii (whyW (tkD v) (tkV v) t u))) 74 12 (ii t), μ.2)) hR1 h3 (by omega) (by omega) (by omega)
        refine ⟨u2 (u2 μ.1 74 13 (ii (whyW (tkD v) (tkV v) t u))) 74 12 (ii t), ?_, ⟨fun a ha hb => by simp (disch := omega) only [u2_offr], fun b h7 h8 h9 => by simp (disch := omega) only [u2_off]⟩, ⟨by simp (disch := omega) only [u2_off]; exact hc, fun i h7 h8 => by simp (disch := omega) only [u2_off]; exact hU i h7 h8, by simp (disch := omega) only [u2_at], by simp (disch := omega) only [u2_off, u2_at]⟩⟩
        obtain ⟨n, rfl⟩ : ∃ k, n = k + 1 := ⟨n - 1, by push_cast at h1; omega⟩
        obtain ⟨q, hq⟩ : ∃ k, FU = k + 1 := ⟨4999, rfl⟩
        have fin : lX11_unpacks_17 oS (n + 1) (u2 (u2 μ.1 74 13 (ii (whyW (tkD v) (tkV v) t u))) 74 12 (ii t), μ.2) 74 (ii (t + 1)) = some (u2 (u2 μ.1 74 13 (ii (whyW (tkD v) (tkV v) t u))) 74 12 (ii t), μ.2) := by
          by_cases hkt1 : v 6 ≤ t + 1
          · simp (disch := omega) only [Option.bind_some, km1, k0, k1, k2, k3, k4, k5, k6, k7, k8, k9, k10, k11, k15, k16, k20, k32, k33, k39, k40, k43, k44, k45, k48, k49, k50, k51, k52, k57, k59, k60, k63, k64, k80, k97, k100, k101, k108, k112, k114, k117, k126, k130, k650, k100000, k1000000, ii_add, ii_sub, ii_neg, ii_mul, ii_lt, ii_le, ii_eq, if_true, if_false, if_pos, if_neg, gI_0, gI_1, gI_2, gI_4, gI_7, gI_15, gI_59, gI_61, gI_62, gI_66, gI_68, gI_71, gI_72, gI_74, gR_0_0, gR_0_1, gR_0_3, gR_0_4, gR_0_5, gR_0_6, gR_0_7, gR_0_8, gR_1_0, gR_1_1, gR_1_2, gR_2_0, gR_4_0, gR_4_1, gR_15_0, gR_59_0, gR_61_0, gR_61_1, gR_61_2, gR_62_0, gR_62_1, gR_62_2, gR_66_0, gR_66_1, gR_68_0, gR_68_1, gR_71_0, gR_72_0, gR_74_0, gR_74_1, gR_74_3, gR_74_5, gR_74_7, gR_74_8, gR_74_9, gR_74_15, ld_3, ld_5, ld_6, ld_60, ld_63, ld_64, ld_65, ld_67, ld_69, ld_70, ld_73, ld_75, ld_76, ld_77, ld_78, ld_79, ld_80, ld_82, st_3, st_5, st_6, st_60, st_63, st_64, st_65, st_67, st_69, st_70, st_73, st_75, st_76, st_77, st_78, st_79, st_80, st_82, aL_3, aL_5, aL_6, aL_60, aL_63, aL_64, aL_65, aL_67, aL_69, aL_70, aL_73, aL_75, aL_76, aL_77, aL_78, aL_79, aL_80, aL_82, pI_0, pI_1, pI_2, pI_4, pI_7, pI_15, pI_59, pI_61, pI_62, pI_66, pI_68, pI_71, pI_72, pI_74, ld_81, ld_16, aL_16, lX11_unpacks_17, hZ1]
          · simp (disch := omega) only [Option.bind_some, km1, k0, k1, k2, k3, k4, k5, k6, k7, k8, k9, k10, k11, k15, k16, k20, k32, k33, k39, k40, k43, k44, k45, k48, k49, k50, k51, k52, k57, k59, k60, k63, k64, k80, k97, k100, k101, k108, k112, k114, k117, k126, k130, k650, k100000, k1000000, ii_add, ii_sub, ii_neg, ii_mul, ii_lt, ii_le, ii_eq, if_true, if_false, if_pos, if_neg, gI_0, gI_1, gI_2, gI_4, gI_7, gI_15, gI_59, gI_61, gI_62, gI_66, gI_68, gI_71, gI_72, gI_74, gR_0_0, gR_0_1, gR_0_3, gR_0_4, gR_0_5, gR_0_6, gR_0_7, gR_0_8, gR_1_0, gR_1_1, gR_1_2, gR_2_0, gR_4_0, gR_4_1, gR_15_0, gR_59_0, gR_61_0, gR_61_1, gR_61_2, gR_62_0, gR_62_1, gR_62_2, gR_66_0, gR_66_1, gR_68_0, gR_68_1, gR_71_0, gR_72_0, gR_74_0, gR_74_1, gR_74_3, gR_74_5, gR_74_7, gR_74_8, gR_74_9, gR_74_15, ld_3, ld_5, ld_6, ld_60, ld_63, ld_64, ld_65, ld_67, ld_69, ld_70, ld_73, ld_75, ld_76, ld_77, ld_78, ld_79, ld_80, ld_82, st_3, st_5, st_6, st_60, st_63, st_64, st_65, st_67, st_69, st_70, st_73, st_75, st_76, st_77, st_78, st_79, st_80, st_82, aL_3, aL_5, aL_6, aL_60, aL_63, aL_64, aL_65, aL_67, aL_69, aL_70, aL_73, aL_75, aL_76, aL_77, aL_78, aL_79, aL_80, aL_82, pI_0, pI_1, pI_2, pI_4, pI_7, pI_15, pI_59, pI_61, pI_62, pI_66, pI_68, pI_71, pI_72, pI_74, ld_81, ld_16, aL_16, lX11_unpacks_17, hZ1, u2_at]
        have in93 : lX11_unpacks_93 (lX11_unpacks_17 oS (n + 1)) oS FU (u2 (u2 μ.1 74 13 (ii (whyW (tkD v) (tkV v) t u))) 74 12 (ii t), μ.2) 74 (ii t) (ii 0) = some (u2 (u2 μ.1 74 13 (ii (whyW (tkD v) (tkV v) t u))) 74 12 (ii t), μ.2) := by
          rw [hq]
          simp (disch := omega) only [Option.bind_some, km1, k0, k1, k2, k3, k4, k5, k6, k7, k8, k9, k10, k11, k15, k16, k20, k32, k33, k39, k40, k43, k44, k45, k48, k49, k50, k51, k52, k57, k59, k60, k63, k64, k80, k97, k100, k101, k108, k112, k114, k117, k126, k130, k650, k100000, k1000000, ii_add, ii_sub, ii_neg, ii_mul, ii_lt, ii_le, ii_eq, if_true, if_false, if_pos, if_neg, gI_0, gI_1, gI_2, gI_4, gI_7, gI_15, gI_59, gI_61, gI_62, gI_66, gI_68, gI_71, gI_72, gI_74, gR_0_0, gR_0_1, gR_0_3, gR_0_4, gR_0_5, gR_0_6, gR_0_7, gR_0_8, gR_1_0, gR_1_1, gR_1_2, gR_2_0, gR_4_0, gR_4_1, gR_15_0, gR_59_0, gR_61_0, gR_61_1, gR_61_2, gR_62_0, gR_62_1, gR_62_2, gR_66_0, gR_66_1, gR_68_0, gR_68_1, gR_71_0, gR_72_0, gR_74_0, gR_74_1, gR_74_3, gR_74_5, gR_74_7, gR_74_8, gR_74_9, gR_74_15, ld_3, ld_5, ld_6, ld_60, ld_63, ld_64, ld_65, ld_67, ld_69, ld_70, ld_73, ld_75, ld_76, ld_77, ld_78, ld_79, ld_80, ld_82, st_3, st_5, st_6, st_60, st_63, st_64, st_65, st_67, st_69, st_70, st_73, st_75, st_76, st_77, st_78, st_79, st_80, st_82, aL_3, aL_5, aL_6, aL_60, aL_63, aL_64, aL_65, aL_67, aL_69, aL_70, aL_73, aL_75, aL_76, aL_77, aL_78, aL_79, aL_80, aL_82, pI_0, pI_1, pI_2, pI_4, pI_7, pI_15, pI_59, pI_61, pI_62, pI_66, pI_68, pI_71, pI_72, pI_74, ld_81, ld_16, aL_16, lX11_unpacks_93, lX11_unpacks_173, l1, u2_off, u2_at]
          exact fin
        unfold whyW at hw hwb in93 ⊢
        rw [lX11_unpacks_17]
        clear fin
        generalize lX11_unpacks_17 oS (n + 1) = K at in93 ⊢
        by_cases c1 : u < tkD v t
        · rw [if_pos c1] at in93 ⊢
          simp (disch := omega) only [Option.bind_some, km1, k0, k1, k2, k3, k4, k5, k6, k7, k8, k9, k10, k11, k15, k16, k20, k32, k33, k39, k40, k43, k44, k45, k48, k49, k50, k51, k52, k57, k59, k60, k63, k64, k80, k97, k100, k101, k108, k112, k114, k117, k126, k130, k650, k100000, k1000000, ii_add, ii_sub, ii_neg, ii_mul, ii_lt, ii_le, ii_eq, if_true, if_false, if_pos, if_neg, gI_0, gI_1, gI_2, gI_4, gI_7, gI_15, gI_59, gI_61, gI_62, gI_66, gI_68, gI_71, gI_72, gI_74, gR_0_0, gR_0_1, gR_0_3, gR_0_4, gR_0_5, gR_0_6, gR_0_7, gR_0_8, gR_1_0, gR_1_1, gR_1_2, gR_2_0, gR_4_0, gR_4_1, gR_15_0, gR_59_0, gR_61_0, gR_61_1, gR_61_2, gR_62_0, gR_62_1, gR_62_2, gR_66_0, gR_66_1, gR_68_0, gR_68_1, gR_71_0, gR_72_0, gR_74_0, gR_74_1, gR_74_3, gR_74_5, gR_74_7, gR_74_8, gR_74_9, gR_74_15, ld_3, ld_5, ld_6, ld_60, ld_63, ld_64, ld_65, ld_67, ld_69, ld_70, ld_73, ld_75, ld_76, ld_77, ld_78, ld_79, ld_80, ld_82, st_3, st_5, st_6, st_60, st_63, st_64, st_65, st_67, st_69, st_70, st_73, st_75, st_76, st_77, st_78, st_79, st_80, st_82, aL_3, aL_5, aL_6, aL_60, aL_63, aL_64, aL_65, aL_67, aL_69, aL_70, aL_73, aL_75, aL_76, aL_77, aL_78, aL_79, aL_80, aL_82, pI_0, pI_1, pI_2, pI_4, pI_7, pI_15, pI_59, pI_61, pI_62, pI_66, pI_68, pI_71, pI_72, pI_74, ld_81, ld_16, aL_16, lX11_unpacks_72, lX11_unpacks_88, hZ, hwr, g1, hc, u2_at]
          exact in93
        · rw [if_neg c1] at in93 hw ⊢
          by_cases c2 : 40 < u + tlen (tkD v) (tkV v) t
          · rw [if_pos c2] at in93 ⊢
            simp (disch := omega) only [Option.bind_some, km1, k0, k1, k2, k3, k4, k5, k6, k7, k8, k9, k10, k11, k15, k16, k20, k32, k33, k39, k40, k43, k44, k45, k48, k49, k50, k51, k52, k57, k59, k60, k63, k64, k80, k97, k100, k101, k108, k112, k114, k117, k126, k130, k650, k100000, k1000000, ii_add, ii_sub, ii_neg, ii_mul, ii_lt, ii_le, ii_eq, if_true, if_false, if_pos, if_neg, gI_0, gI_1, gI_2, gI_4, gI_7, gI_15, gI_59, gI_61, gI_62, gI_66, gI_68, gI_71, gI_72, gI_74, gR_0_0, gR_0_1, gR_0_3, gR_0_4, gR_0_5, gR_0_6, gR_0_7, gR_0_8, gR_1_0, gR_1_1, gR_1_2, gR_2_0, gR_4_0, gR_4_1, gR_15_0, gR_59_0, gR_61_0, gR_61_1, gR_61_2, gR_62_0, gR_62_1, gR_62_2, gR_66_0, gR_66_1, gR_68_0, gR_68_1, gR_71_0, gR_72_0, gR_74_0, gR_74_1, gR_74_3, gR_74_5, gR_74_7, gR_74_8, gR_74_9, gR_74_15, ld_3, ld_5, ld_6, ld_60, ld_63, ld_64, ld_65, ld_67, ld_69, ld_70, ld_73, ld_75, ld_76, ld_77, ld_78, ld_79, ld_80, ld_82, st_3, st_5, st_6, st_60, st_63, st_64, st_65, st_67, st_69, st_70, st_73, st_75, st_76, st_77, st_78, st_79, st_80, st_82, aL_3, aL_5, aL_6, aL_60, aL_63, aL_64, aL_65, aL_67, aL_69, aL_70, aL_73, aL_75, aL_76, aL_77, aL_78, aL_79, aL_80, aL_82, pI_0, pI_1, pI_2, pI_4, pI_7, pI_15, pI_59, pI_61, pI_62, pI_66, pI_68, pI_71, pI_72, pI_74, ld_81, ld_16, aL_16, lX11_unpacks_72, lX11_unpacks_88, hZ, hwr, g1, g2, hc, u2_at]
            exact in93
          · rw [if_neg c2] at hw
            omega
theorem unpacks_at {μ : mMm} {v : Int → Int} (hR : RZ μ.1 v) (hW : WF v) : ∃ m', fX11_unpacks oS μ 74 = some (m', μ.2) ∧ UF μ.1 m' ∧ RN m' (unp v) := by
  have g6 := wf_6 hW
  obtain ⟨m', j1, j2, j3⟩ := unpacks_loop hW 41 FU 0 0 (fun _ => 0) (u2 (u2 (u2 μ.1 74 12 (ii (-1))) 74 13 (ii 0)) 74 14 (ii 0), μ.2) (by omega) (by decide) (by omega) (by omega) (by omega) (by omega) (RZ_fr (by simp (disch := omega) only [u2_offr]) hR) ⟨by simp (disch := omega) only [u2_at], fun i h0 h1 => by have h1 : i < 0 := h1; omega, by simp (disch := omega) only [u2_off, u2_at], by simp (disch := omega) only [u2_off, u2_at]⟩
  refine ⟨m', ?_, UF.tr ⟨fun a ha hb => by simp (disch := omega) only [u2_offr], fun b h7 h8 h9 => by simp (disch := omega) only [u2_off]⟩ j2, j3⟩
  unfold fX11_unpacks bX11_unpacks
  simp (disch := omega) only [Option.bind_some, km1, k0, k1, k2, k3, k4, k5, k6, k7, k8, k9, k10, k11, k15, k16, k20, k32, k33, k39, k40, k43, k44, k45, k48, k49, k50, k51, k52, k57, k59, k60, k63, k64, k80, k97, k100, k101, k108, k112, k114, k117, k126, k130, k650, k100000, k1000000, ii_add, ii_sub, ii_neg, ii_mul, ii_lt, ii_le, ii_eq, if_true, if_false, if_pos, if_neg, gI_0, gI_1, gI_2, gI_4, gI_7, gI_15, gI_59, gI_61, gI_62, gI_66, gI_68, gI_71, gI_72, gI_74, gR_0_0, gR_0_1, gR_0_3, gR_0_4, gR_0_5, gR_0_6, gR_0_7, gR_0_8, gR_1_0, gR_1_1, gR_1_2, gR_2_0, gR_4_0, gR_4_1, gR_15_0, gR_59_0, gR_61_0, gR_61_1, gR_61_2, gR_62_0, gR_62_1, gR_62_2, gR_66_0, gR_66_1, gR_68_0, gR_68_1, gR_71_0, gR_72_0, gR_74_0, gR_74_1, gR_74_3, gR_74_5, gR_74_7, gR_74_8, gR_74_9, gR_74_15, ld_3, ld_5, ld_6, ld_60, ld_63, ld_64, ld_65, ld_67, ld_69, ld_70, ld_73, ld_75, ld_76, ld_77, ld_78, ld_79, ld_80, ld_82, st_3, st_5, st_6, st_60, st_63, st_64, st_65, st_67, st_69, st_70, st_73, st_75, st_76, st_77, st_78, st_79, st_80, st_82, aL_3, aL_5, aL_6, aL_60, aL_63, aL_64, aL_65, aL_67, aL_69, aL_70, aL_73, aL_75, aL_76, aL_77, aL_78, aL_79, aL_80, aL_82, pI_0, pI_1, pI_2, pI_4, pI_7, pI_15, pI_59, pI_61, pI_62, pI_66, pI_68, pI_71, pI_72, pI_74, ld_81, ld_16, aL_16, if_pos o74]
  exact j1
/-! the text laid anew -/
def layT (v : Int → Int) (j : Int) (U : Int → Int) : Int → Int := fun k => if 10 ≤ k ∧ k < 10 + j then U (k - 10) else v k
def setTx (v : Int → Int) (n : Int) (U : Int → Int) : Int → Int := fun k => if k = 0 then n else if 10 ≤ k ∧ k < 50 then (if k < 10 + n then U (k - 10) else 0) else v k
theorem unpackNow_loop {v : Int → Int} {k : Int} {U : Int → Int} (hk0 : 0 ≤ k) (hk : k ≤ 40) : ∀ (f n : Nat) (j : Int) (μ : mMm), k - j ≤ f → f < n → 0 ≤ j → j ≤ k → μ.1 74 14 = ii k → (∀ i, 0 ≤ i → i < k → μ.1 80 i.toNat = ii (U i)) → RZ μ.1 (layT v j U) → ∃ m', lX11_unpackNow_22 oS n μ 74 (ii j) = some (ii k, (m', μ.2)) ∧ (∀ b, b ≠ 75 → m' b = μ.1 b) ∧ RZ m' (layT v k U) := by
  intro f
  induction f with
  | zero =>
    intro n j μ h1 h2 h3 h4 hc hU hR
    obtain ⟨n, rfl⟩ : ∃ k, n = k + 1 := ⟨n - 1, by omega⟩
    have : j = k := by push_cast at h1; omega
    subst this
    refine ⟨μ.1, ?_, fun _ _ => rfl, hR⟩
    simp (disch := omega) only [Option.bind_some, km1, k0, k1, k2, k3, k4, k5, k6, k7, k8, k9, k10, k11, k15, k16, k20, k32, k33, k39, k40, k43, k44, k45, k48, k49, k50, k51, k52, k57, k59, k60, k63, k64, k80, k97, k100, k101, k108, k112, k114, k117, k126, k130, k650, k100000, k1000000, ii_add, ii_sub, ii_neg, ii_mul, ii_lt, ii_le, ii_eq, if_true, if_false, if_pos, if_neg, gI_0, gI_1, gI_2, gI_4, gI_7, gI_15, gI_59, gI_61, gI_62, gI_66, gI_68, gI_71, gI_72, gI_74, gR_0_0, gR_0_1, gR_0_3, gR_0_4, gR_0_5, gR_0_6, gR_0_7, gR_0_8, gR_1_0, gR_1_1, gR_1_2, gR_2_0, gR_4_0, gR_4_1, gR_15_0, gR_59_0, gR_61_0, gR_61_1, gR_61_2, gR_62_0, gR_62_1, gR_62_2, gR_66_0, gR_66_1, gR_68_0, gR_68_1, gR_71_0, gR_72_0, gR_74_0, gR_74_1, gR_74_3, gR_74_5, gR_74_7, gR_74_8, gR_74_9, gR_74_15, ld_3, ld_5, ld_6, ld_60, ld_63, ld_64, ld_65, ld_67, ld_69, ld_70, ld_73, ld_75, ld_76, ld_77, ld_78, ld_79, ld_80, ld_82, st_3, st_5, st_6, st_60, st_63, st_64, st_65, st_67, st_69, st_70, st_73, st_75, st_76, st_77, st_78, st_79, st_80, st_82, aL_3, aL_5, aL_6, aL_60, aL_63, aL_64, aL_65, aL_67, aL_69, aL_70, aL_73, aL_75, aL_76, aL_77, aL_78, aL_79, aL_80, aL_82, pI_0, pI_1, pI_2, pI_4, pI_7, pI_15, pI_59, pI_61, pI_62, pI_66, pI_68, pI_71, pI_72, pI_74, ld_81, ld_16, aL_16, lX11_unpackNow_22, hc]
  | succ f ih =>
    intro n j μ h1 h2 h3 h4 hc hU hR
    obtain ⟨n, rfl⟩ : ∃ k, n = k + 1 := ⟨n - 1, by omega⟩
    by_cases hj : k ≤ j
    · have : j = k := by omega
      subst this
      refine ⟨μ.1, ?_, fun _ _ => rfl, hR⟩
      simp (disch := omega) only [Option.bind_some, km1, k0, k1, k2, k3, k4, k5, k6, k7, k8, k9, k10, k11, k15, k16, k20, k32, k33, k39, k40, k43, k44, k45, k48, k49, k50, k51, k52, k57, k59, k60, k63, k64, k80, k97, k100, k101, k108, k112, k114, k117, k126, k130, k650, k100000, k1000000, ii_add, ii_sub, ii_neg, ii_mul, ii_lt, ii_le, ii_eq, if_true, if_false, if_pos, if_neg, gI_0, gI_1, gI_2, gI_4, gI_7, gI_15, gI_59, gI_61, gI_62, gI_66, gI_68, gI_71, gI_72, gI_74, gR_0_0, gR_0_1, gR_0_3, gR_0_4, gR_0_5, gR_0_6, gR_0_7, gR_0_8, gR_1_0, gR_1_1, gR_1_2, gR_2_0, gR_4_0, gR_4_1, gR_15_0, gR_59_0, gR_61_0, gR_61_1, gR_61_2, gR_62_0, gR_62_1, gR_62_2, gR_66_0, gR_66_1, gR_68_0, gR_68_1, gR_71_0, gR_72_0, gR_74_0, gR_74_1, gR_74_3, gR_74_5, gR_74_7, gR_74_8, gR_74_9, gR_74_15, ld_3, ld_5, ld_6, ld_60, ld_63, ld_64, ld_65, ld_67, ld_69, ld_70, ld_73, ld_75, ld_76, ld_77, ld_78, ld_79, ld_80, ld_82, st_3, st_5, st_6, st_60, st_63, st_64, st_65, st_67, st_69, st_70, st_73, st_75, st_76, st_77, st_78, st_79, st_80, st_82, aL_3, aL_5, aL_6, aL_60, aL_63, aL_64, aL_65, aL_67, aL_69, aL_70, aL_73, aL_75, aL_76, aL_77, aL_78, aL_79, aL_80, aL_82, pI_0, pI_1, pI_2, pI_4, pI_7, pI_15, pI_59, pI_61, pI_62, pI_66, pI_68, pI_71, pI_72, pI_74, ld_81, ld_16, aL_16, lX11_unpackNow_22, hc]
    · have r1 := hU j h3 (by omega)
      obtain ⟨m', j1, j2, j3⟩ := ih n (j + 1) (u2 μ.1 75 (10 + j).toNat (ii (U j)), μ.2) (by push_cast at h1; omega) (by omega) (by omega) (by omega) (by simp (disch := omega) only [u2_off]; exact hc) (fun i h5 h6 => by simp (disch := omega) only [u2_off]; exact hU i h5 h6) (RZ_ext (fun i _ _ => by
        unfold upI layT
        by_cases hi : i = 10 + j
        · rw [if_pos hi, if_pos (by omega), hi, show 10 + j - 10 = j by omega]
        · rw [if_neg hi]
          by_cases hi2 : 10 ≤ i ∧ i < 10 + j
          · rw [if_pos hi2, if_pos (by omega)]
          · rw [if_neg hi2, if_neg (by omega)]) (RZ_up (x := U j) hR (show 0 ≤ 10 + j by omega)))
      refine ⟨m', ?_, fun b hb => (j2 b hb).trans (by simp (disch := omega) only [u2_offr]), j3⟩
      rw [← j1]
      simp (disch := omega) only [Option.bind_some, km1, k0, k1, k2, k3, k4, k5, k6, k7, k8, k9, k10, k11, k15, k16, k20, k32, k33, k39, k40, k43, k44, k45, k48, k49, k50, k51, k52, k57, k59, k60, k63, k64, k80, k97, k100, k101, k108, k112, k114, k117, k126, k130, k650, k100000, k1000000, ii_add, ii_sub, ii_neg, ii_mul, ii_lt, ii_le, ii_eq, if_true, if_false, if_pos, if_neg, gI_0, gI_1, gI_2, gI_4, gI_7, gI_15, gI_59, gI_61, gI_62, gI_66, gI_68, gI_71, gI_72, gI_74, gR_0_0, gR_0_1, gR_0_3, gR_0_4, gR_0_5, gR_0_6, gR_0_7, gR_0_8, gR_1_0, gR_1_1, gR_1_2, gR_2_0, gR_4_0, gR_4_1, gR_15_0, gR_59_0, gR_61_0, gR_61_1, gR_61_2, gR_62_0, gR_62_1, gR_62_2, gR_66_0, gR_66_1, gR_68_0, gR_68_1, gR_71_0, gR_72_0, gR_74_0, gR_74_1, gR_74_3, gR_74_5, gR_74_7, gR_74_8, gR_74_9, gR_74_15, ld_3, ld_5, ld_6, ld_60, ld_63, ld_64, ld_65, ld_67, ld_69, ld_70, ld_73, ld_75, ld_76, ld_77, ld_78, ld_79, ld_80, ld_82, st_3, st_5, st_6, st_60, st_63, st_64, st_65, st_67, st_69, st_70, st_73, st_75, st_76, st_77, st_78, st_79, st_80, st_82, aL_3, aL_5, aL_6, aL_60, aL_63, aL_64, aL_65, aL_67, aL_69, aL_70, aL_73, aL_75, aL_76, aL_77, aL_78, aL_79, aL_80, aL_82, pI_0, pI_1, pI_2, pI_4, pI_7, pI_15, pI_59, pI_61, pI_62, pI_66, pI_68, pI_71, pI_72, pI_74, ld_81, ld_16, aL_16, lX11_unpackNow_22, hc, r1]
theorem unpackNow_at {μ : mMm} {v : Int → Int} (hR : RZ μ.1 v) {k : Int} {U : Int → Int} (hk0 : 0 ≤ k) (hk : k ≤ 40) (hc : μ.1 74 14 = ii k) (hU : ∀ i, 0 ≤ i → i < k → μ.1 80 i.toNat = ii (U i)) : ∃ m', fX11_unpackNow oS μ 74 = some (ii k, (m', μ.2)) ∧ (∀ a, a ≠ 75 → m' a = μ.1 a) ∧ RZ m' (setTx v k U) := by
  obtain ⟨m2, j1, j2, j3⟩ := empties_at (μ := μ) hR (q := 0) (a := 10) (c := 40) (by omega) (by omega) (by omega) (by omega) (by omega)
  have hc2 : m2 74 14 = ii k := by rw [j2 74 (by omega)]; exact hc
  obtain ⟨m', l1, l2, l3⟩ := unpackNow_loop (v := upI (clr (upI v 0 0) 10 40) 0 k) (U := U) hk0 hk 40 FU 0 (u2 m2 75 (0 : Int).toNat (ii k), μ.2) (by omega) (by decide) (by omega) (by omega) (by simp (disch := omega) only [u2_off]; exact hc2) (fun i h5 h6 => by simp (disch := omega) only [u2_off]; rw [j2 80 (by omega)]; exact hU i h5 h6) (RZ_ext (fun k _ _ => by unfold layT; rw [if_neg (by omega)]) (RZ_up j3 (by omega)))
  refine ⟨m', ?_, fun a ha => (l2 a ha).trans (by simp (disch := omega) only [u2_offr]; exact j2 a ha), RZ_ext (fun i h0 h1 => ?_) l3⟩
  · unfold fX11_unpackNow bX11_unpackNow
    simp (disch := omega) only [Option.bind_some, km1, k0, k1, k2, k3, k4, k5, k6, k7, k8, k9, k10, k11, k15, k16, k20, k32, k33, k39, k40, k43, k44, k45, k48, k49, k50, k51, k52, k57, k59, k60, k63, k64, k80, k97, k100, k101, k108, k112, k114, k117, k126, k130, k650, k100000, k1000000, ii_add, ii_sub, ii_neg, ii_mul, ii_lt, ii_le, ii_eq, if_true, if_false, if_pos, if_neg, gI_0, gI_1, gI_2, gI_4, gI_7, gI_15, gI_59, gI_61, gI_62, gI_66, gI_68, gI_71, gI_72, gI_74, gR_0_0, gR_0_1, gR_0_3, gR_0_4, gR_0_5, gR_0_6, gR_0_7, gR_0_8, gR_1_0, gR_1_1, gR_1_2, gR_2_0, gR_4_0, gR_4_1, gR_15_0, gR_59_0, gR_61_0, gR_61_1, gR_61_2, gR_62_0, gR_62_1, gR_62_2, gR_66_0, gR_66_1, gR_68_0, gR_68_1, gR_71_0, gR_72_0, gR_74_0, gR_74_1, gR_74_3, gR_74_5, gR_74_7, gR_74_8, gR_74_9, gR_74_15, ld_3, ld_5, ld_6, ld_60, ld_63, ld_64, ld_65, ld_67, ld_69, ld_70, ld_73, ld_75, ld_76, ld_77, ld_78, ld_79, ld_80, ld_82, st_3, st_5, st_6, st_60, st_63, st_64, st_65, st_67, st_69, st_70, st_73, st_75, st_76, st_77, st_78, st_79, st_80, st_82, aL_3, aL_5, aL_6, aL_60, aL_63, aL_64, aL_65, aL_67, aL_69, aL_70, aL_73, aL_75, aL_76, aL_77, aL_78, aL_79, aL_80, aL_82, pI_0, pI_1, pI_2, pI_4, pI_7, pI_15, pI_59, pI_61, pI_62, pI_66, pI_68, pI_71, pI_72, pI_74, ld_81, ld_16, aL_16, if_pos o74, j1, hc2]
    exact l1
  · unfold setTx layT clr
    by_cases h6 : i = 0
    · subst h6
      rw [if_neg (by omega), upI_s, if_pos rfl]
    · rw [if_neg h6, upI_n h6]
      by_cases h5 : 10 ≤ i ∧ i < 50
      · rw [if_pos h5]
        by_cases h7 : i < 10 + k
        · rw [if_pos (by omega), if_pos h7]
        · rw [if_neg (by omega), if_neg h7, if_pos (by omega)]
      · rw [if_neg h5, if_neg (by omega), if_neg (by omega), upI_n h6]
