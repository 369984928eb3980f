/-! the reference's least costs from the beginning -/
theorem rbegin_in {v : Int → Int} (hW : WF v) {p m : Int} {k36 : mMm → Nat → Int32 → Option (Int32 × mMm)} (hp0 : 0 ≤ p) (hp : p < v 0) (hm : p + m ≤ v 0) (hm9 : m ≤ 9) (hm0 : 0 ≤ m) : ∀ (f n : Nat) (l : Int) (B : Int → Int) (μ : mMm), RZ μ.1 v → RowB μ.1 79 B (v 0) → BB B (v 0) → m + 1 - l ≤ f → f < n → 1 ≤ l → l ≤ 10 → ∃ m', lX11_fromBeginning_112 k36 oS n μ 74 (ii p) (ii m) (ii l) = k36 (m', μ.2) 74 (ii (p + 1)) ∧ (∀ a, a ≠ 79 → m' a = μ.1 a) ∧ RowB m' 79 (jGo (v 5) p m f l B) (v 0) ∧ BB (jGo (v 5) p m f l B) (v 0) := by
  have g0 := wf_0 hW
  have g5 := wf_5 hW
  intro f
  induction f with
  | zero =>
    intro n l B μ hR hB hC h1 h2 h3 h4
    obtain ⟨n, rfl⟩ : ∃ k, n = k + 1 := ⟨n - 1, by omega⟩
    refine ⟨μ.1, ?_, fun _ _ => rfl, hB, hC⟩
    simp (disch := omega) only [Option.bind_some, km1, k0, k1, k2, k3, k4, k5, k6, k7, k8, k9, k10, k11, k15, k16, k20, k32, k33, k39, k40, k43, k44, k45, k48, k49, k50, k51, k52, k57, k59, k60, k63, k64, k80, k97, k100, k101, k108, k112, k114, k117, k126, k130, k650, k100000, k1000000, ii_add, ii_sub, ii_neg, ii_mul, ii_lt, ii_le, ii_eq, if_true, if_false, if_pos, if_neg, gI_0, gI_1, gI_2, gI_4, gI_7, gI_15, gI_59, gI_61, gI_62, gI_66, gI_68, gI_71, gI_72, gI_74, gR_0_0, gR_0_1, gR_0_3, gR_0_4, gR_0_5, gR_0_6, gR_0_7, gR_0_8, gR_1_0, gR_1_1, gR_1_2, gR_2_0, gR_4_0, gR_4_1, gR_15_0, gR_59_0, gR_61_0, gR_61_1, gR_61_2, gR_62_0, gR_62_1, gR_62_2, gR_66_0, gR_66_1, gR_68_0, gR_68_1, gR_71_0, gR_72_0, gR_74_0, gR_74_1, gR_74_3, gR_74_5, gR_74_7, gR_74_8, gR_74_9, gR_74_15, ld_3, ld_5, ld_6, ld_60, ld_63, ld_64, ld_65, ld_67, ld_69, ld_70, ld_73, ld_75, ld_76, ld_77, ld_78, ld_79, ld_80, ld_82, st_3, st_5, st_6, st_60, st_63, st_64, st_65, st_67, st_69, st_70, st_73, st_75, st_76, st_77, st_78, st_79, st_80, st_82, aL_3, aL_5, aL_6, aL_60, aL_63, aL_64, aL_65, aL_67, aL_69, aL_70, aL_73, aL_75, aL_76, aL_77, aL_78, aL_79, aL_80, aL_82, pI_0, pI_1, pI_2, pI_4, pI_7, pI_15, pI_59, pI_61, pI_62, pI_66, pI_68, pI_71, pI_72, pI_74, ld_81, ld_16, aL_16, lX11_fromBeginning_112]
  | succ f ih =>
    intro n l B μ hR hB hC h1 h2 h3 h4
    obtain ⟨n, rfl⟩ : ∃ k, n = k + 1 := ⟨n - 1, by omega⟩
    have hZ := hR
    unfold RZ at hZ
    unfold jGo
    by_cases hl : m < l
    · rw [if_pos hl]
      refine ⟨μ.1, ?_, fun _ _ => rfl, hB, hC⟩
      simp (disch := omega) only [Option.bind_some, km1, k0, k1, k2, k3, k4, k5, k6, k7, k8, k9, k10, k11, k15, k16, k20, k32, k33, k39, k40, k43, k44, k45, k48, k49, k50, k51, k52, k57, k59, k60, k63, k64, k80, k97, k100, k101, k108, k112, k114, k117, k126, k130, k650, k100000, k1000000, ii_add, ii_sub, ii_neg, ii_mul, ii_lt, ii_le, ii_eq, if_true, if_false, if_pos, if_neg, gI_0, gI_1, gI_2, gI_4, gI_7, gI_15, gI_59, gI_61, gI_62, gI_66, gI_68, gI_71, gI_72, gI_74, gR_0_0, gR_0_1, gR_0_3, gR_0_4, gR_0_5, gR_0_6, gR_0_7, gR_0_8, gR_1_0, gR_1_1, gR_1_2, gR_2_0, gR_4_0, gR_4_1, gR_15_0, gR_59_0, gR_61_0, gR_61_1, gR_61_2, gR_62_0, gR_62_1, gR_62_2, gR_66_0, gR_66_1, gR_68_0, gR_68_1, gR_71_0, gR_72_0, gR_74_0, gR_74_1, gR_74_3, gR_74_5, gR_74_7, gR_74_8, gR_74_9, gR_74_15, ld_3, ld_5, ld_6, ld_60, ld_63, ld_64, ld_65, ld_67, ld_69, ld_70, ld_73, ld_75, ld_76, ld_77, ld_78, ld_79, ld_80, ld_82, st_3, st_5, st_6, st_60, st_63, st_64, st_65, st_67, st_69, st_70, st_73, st_75, st_76, st_77, st_78, st_79, st_80, st_82, aL_3, aL_5, aL_6, aL_60, aL_63, aL_64, aL_65, aL_67, aL_69, aL_70, aL_73, aL_75, aL_76, aL_77, aL_78, aL_79, aL_80, aL_82, pI_0, pI_1, pI_2, pI_4, pI_7, pI_15, pI_59, pI_61, pI_62, pI_66, pI_68, pI_71, pI_72, pI_74, ld_81, ld_16, aL_16, lX11_fromBeginning_112]
    · rw [if_neg hl]
      have c1 := hB (p + l) (by omega) (by omega)
      have c2 := hC (p + l) (by omega) (by omega)
      have c3 := hB p (by omega) (by omega)
      have c4 := hC p (by omega) (by omega)
      obtain ⟨m', j1, j2, j3⟩ := ih n (l + 1) (upI B (p + l) (min (B (p + l)) (B p + v 5))) (u2 μ.1 79 (p + l).toNat (ii (min (B (p + l)) (B p + v 5))), μ.2) (RZ_fr (by simp (disch := omega) only [u2_offr]) hR) (RowB_up hB (by omega)) (BB_up hC (by omega) (by omega) (by omega)) (by push_cast at h1; omega) (by omega) (by omega) (by omega)
      refine ⟨m', ?_, fun a ha => (j2 a ha).trans (by simp (disch := omega) only [u2_offr]), j3⟩
      rw [← j1]
      by_cases hc : B (p + l) ≤ B p + v 5
      · rw [show min (B (p + l)) (B p + v 5) = B (p + l) by omega]
        simp (disch := omega) only [Option.bind_some, km1, k0, k1, k2, k3, k4, k5, k6, k7, k8, k9, k10, k11, k15, k16, k20, k32, k33, k39, k40, k43, k44, k45, k48, k49, k50, k51, k52, k57, k59, k60, k63, k64, k80, k97, k100, k101, k108, k112, k114, k117, k126, k130, k650, k100000, k1000000, ii_add, ii_sub, ii_neg, ii_mul, ii_lt, ii_le, ii_eq, if_true, if_false, if_pos, if_neg, gI_0, gI_1, gI_2, gI_4, gI_7, gI_15, gI_59, gI_61, gI_62, gI_66, gI_68, gI_71, gI_72, gI_74, gR_0_0, gR_0_1, gR_0_3, gR_0_4, gR_0_5, gR_0_6, gR_0_7, gR_0_8, gR_1_0, gR_1_1, gR_1_2, gR_2_0, gR_4_0, gR_4_1, gR_15_0, gR_59_0, gR_61_0, gR_61_1, gR_61_2, gR_62_0, gR_62_1, gR_62_2, gR_66_0, gR_66_1, gR_68_0, gR_68_1, gR_71_0, gR_72_0, gR_74_0, gR_74_1, gR_74_3, gR_74_5, gR_74_7, gR_74_8, gR_74_9, gR_74_15, ld_3, ld_5, ld_6, ld_60, ld_63, ld_64, ld_65, ld_67, ld_69, ld_70, ld_73, ld_75, ld_76, ld_77, ld_78, ld_79, ld_80, ld_82, st_3, st_5, st_6, st_60, st_63, st_64, st_65, st_67, st_69, st_70, st_73, st_75, st_76, st_77, st_78, st_79, st_80, st_82, aL_3, aL_5, aL_6, aL_60, aL_63, aL_64, aL_65, aL_67, aL_69, aL_70, aL_73, aL_75, aL_76, aL_77, aL_78, aL_79, aL_80, aL_82, pI_0, pI_1, pI_2, pI_4, pI_7, pI_15, pI_59, pI_61, pI_62, pI_66, pI_68, pI_71, pI_72, pI_74, ld_81, ld_16, aL_16, lX11_fromBeginning_112, lX11_fromBeginning_166, hZ, c1, c3]
      · rw [show min (B (p + l)) (B p + v 5) = B p + v 5 by omega]
        simp (disch := omega) only [Option.bind_some, km1, k0, k1, k2, k3, k4, k5, k6, k7, k8, k9, k10, k11, k15, k16, k20, k32, k33, k39, k40, k43, k44, k45, k48, k49, k50, k51, k52, k57, k59, k60, k63, k64, k80, k97, k100, k101, k108, k112, k114, k117, k126, k130, k650, k100000, k1000000, ii_add, ii_sub, ii_neg, ii_mul, ii_lt, ii_le, ii_eq, if_true, if_false, if_pos, if_neg, gI_0, gI_1, gI_2, gI_4, gI_7, gI_15, gI_59, gI_61, gI_62, gI_66, gI_68, gI_71, gI_72, gI_74, gR_0_0, gR_0_1, gR_0_3, gR_0_4, gR_0_5, gR_0_6, gR_0_7, gR_0_8, gR_1_0, gR_1_1, gR_1_2, gR_2_0, gR_4_0, gR_4_1, gR_15_0, gR_59_0, gR_61_0, gR_61_1, gR_61_2, gR_62_0, gR_62_1, gR_62_2, gR_66_0, gR_66_1, gR_68_0, gR_68_1, gR_71_0, gR_72_0, gR_74_0, gR_74_1, gR_74_3, gR_74_5, gR_74_7, gR_74_8, gR_74_9, gR_74_15, ld_3, ld_5, ld_6, ld_60, ld_63, ld_64, ld_65, ld_67, ld_69, ld_70, ld_73, ld_75, ld_76, ld_77, ld_78, ld_79, ld_80, ld_82, st_3, st_5, st_6, st_60, st_63, st_64, st_65, st_67, st_69, st_70, st_73, st_75, st_76, st_77, st_78, st_79, st_80, st_82, aL_3, aL_5, aL_6, aL_60, aL_63, aL_64, aL_65, aL_67, aL_69, aL_70, aL_73, aL_75, aL_76, aL_77, aL_78, aL_79, aL_80, aL_82, pI_0, pI_1, pI_2, pI_4, pI_7, pI_15, pI_59, pI_61, pI_62, pI_66, pI_68, pI_71, pI_72, pI_74, ld_81, ld_16, aL_16, lX11_fromBeginning_112, lX11_fromBeginning_166, hZ, c1, c3]
theorem rbegin_loop {v : Int → Int} (hW : WF v) : ∀ (f n : Nat) (p : Int) (B : Int → Int) (μ : mMm), v 0 - p ≤ f → f < n → 0 ≤ p → p ≤ v 0 → RZ μ.1 v → RowB μ.1 79 B (v 0) → BB B (v 0) → ∃ m', lX11_fromBeginning_36 oS n μ 74 (ii p) = some (ii (gGo (fun p => lng v p (v 1)) (v 4) (v 5) (v 2) (v 0) f p B (v 0)), (m', μ.2)) ∧ (∀ a, a ≠ 79 → m' a = μ.1 a) := by
  have g0 := wf_0 hW
  have g1 := wf_1 hW
  have g2 := wf_2 hW
  have g3 := wf_3 hW
  have g4 := wf_4 hW
  have g5 := wf_5 hW
  intro f
  induction f with
  | zero =>
    intro n p B μ h1 h2 h3 h4 hR hB hC
    obtain ⟨n, rfl⟩ : ∃ k, n = k + 1 := ⟨n - 1, by omega⟩
    have hZ := hR
    unfold RZ at hZ
    have c1 := hB (v 0) (by omega) (by omega)
    refine ⟨μ.1, ?_, fun _ _ => rfl⟩
    simp (disch := omega) only [Option.bind_some, km1, k0, k1, k2, k3, k4, k5, k6, k7, k8, k9, k10, k11, k15, k16, k20, k32, k33, k39, k40, k43, k44, k45, k48, k49, k50, k51, k52, k57, k59, k60, k63, k64, k80, k97, k100, k101, k108, k112, k114, k117, k126, k130, k650, k100000, k1000000, ii_add, ii_sub, ii_neg, ii_mul, ii_lt, ii_le, ii_eq, if_true, if_false, if_pos, if_neg, gI_0, gI_1, gI_2, gI_4, gI_7, gI_15, gI_59, gI_61, gI_62, gI_66, gI_68, gI_71, gI_72, gI_74, gR_0_0, gR_0_1, gR_0_3, gR_0_4, gR_0_5, gR_0_6, gR_0_7, gR_0_8, gR_1_0, gR_1_1, gR_1_2, gR_2_0, gR_4_0, gR_4_1, gR_15_0, gR_59_0, gR_61_0, gR_61_1, gR_61_2, gR_62_0, gR_62_1, gR_62_2, gR_66_0, gR_66_1, gR_68_0, gR_68_1, gR_71_0, gR_72_0, gR_74_0, gR_74_1, gR_74_3, gR_74_5, gR_74_7, gR_74_8, gR_74_9, gR_74_15, ld_3, ld_5, ld_6, ld_60, ld_63, ld_64, ld_65, ld_67, ld_69, ld_70, ld_73, ld_75, ld_76, ld_77, ld_78, ld_79, ld_80, ld_82, st_3, st_5, st_6, st_60, st_63, st_64, st_65, st_67, st_69, st_70, st_73, st_75, st_76, st_77, st_78, st_79, st_80, st_82, aL_3, aL_5, aL_6, aL_60, aL_63, aL_64, aL_65, aL_67, aL_69, aL_70, aL_73, aL_75, aL_76, aL_77, aL_78, aL_79, aL_80, aL_82, pI_0, pI_1, pI_2, pI_4, pI_7, pI_15, pI_59, pI_61, pI_62, pI_66, pI_68, pI_71, pI_72, pI_74, ld_81, ld_16, aL_16, lX11_fromBeginning_36, hZ, c1, gGo]
  | succ f ih =>
    intro n p B μ h1 h2 h3 h4 hR hB hC
    obtain ⟨n, rfl⟩ : ∃ k, n = k + 1 := ⟨n - 1, by omega⟩
    have hZ := hR
    unfold RZ at hZ
    unfold gGo
    by_cases hp : v 0 ≤ p
    · rw [if_pos hp]
      have c1 := hB (v 0) (by omega) (by omega)
      refine ⟨μ.1, ?_, fun _ _ => rfl⟩
      simp (disch := omega) only [Option.bind_some, km1, k0, k1, k2, k3, k4, k5, k6, k7, k8, k9, k10, k11, k15, k16, k20, k32, k33, k39, k40, k43, k44, k45, k48, k49, k50, k51, k52, k57, k59, k60, k63, k64, k80, k97, k100, k101, k108, k112, k114, k117, k126, k130, k650, k100000, k1000000, ii_add, ii_sub, ii_neg, ii_mul, ii_lt, ii_le, ii_eq, if_true, if_false, if_pos, if_neg, gI_0, gI_1, gI_2, gI_4, gI_7, gI_15, gI_59, gI_61, gI_62, gI_66, gI_68, gI_71, gI_72, gI_74, gR_0_0, gR_0_1, gR_0_3, gR_0_4, gR_0_5, gR_0_6, gR_0_7, gR_0_8, gR_1_0, gR_1_1, gR_1_2, gR_2_0, gR_4_0, gR_4_1, gR_15_0, gR_59_0, gR_61_0, gR_61_1, gR_61_2, gR_62_0, gR_62_1, gR_62_2, gR_66_0, gR_66_1, gR_68_0, gR_68_1, gR_71_0, gR_72_0, gR_74_0, gR_74_1, gR_74_3, gR_74_5, gR_74_7, gR_74_8, gR_74_9, gR_74_15, ld_3, ld_5, ld_6, ld_60, ld_63, ld_64, ld_65, ld_67, ld_69, ld_70, ld_73, ld_75, ld_76, ld_77, ld_78, ld_79, ld_80, ld_82, st_3, st_5, st_6, st_60, st_63, st_64, st_65, st_67, st_69, st_70, st_73, st_75, st_76, st_77, st_78, st_79, st_80, st_82, aL_3, aL_5, aL_6, aL_60, aL_63, aL_64, aL_65, aL_67, aL_69, aL_70, aL_73, aL_75, aL_76, aL_77, aL_78, aL_79, aL_80, aL_82, pI_0, pI_1, pI_2, pI_4, pI_7, pI_15, pI_59, pI_61, pI_62, pI_66, pI_68, pI_71, pI_72, pI_74, ld_81, ld_16, aL_16, lX11_fromBeginning_36, hZ, c1]
    · rw [if_neg hp]
      have hlng := lng_b hW (p := p) (w := v 1) (by omega)
      have hlE := lng_e hW (p := p) (w := v 1) (by omega) (by omega)
      have c1 := hB (p + 1) (by omega) (by omega)
      have c2 := hC (p + 1) (by omega) (by omega)
      have c3 := hB p (by omega) (by omega)
      have c4 := hC p (by omega) (by omega)
      have hR1 : RZ (u2 μ.1 79 (p + 1).toNat (ii (min (B (p + 1)) (B p + v 4)))) v := RZ_fr (by simp (disch := omega) only [u2_offr]) hR
      have hZ1 := hR1
      unfold RZ at hZ1
      have hlo := rlongest_at (μ := (u2 μ.1 79 (p + 1).toNat (ii (min (B (p + 1)) (B p + v 4))), μ.2)) hR1 hW (p := p) (w := v 1) (by omega) (by omega) (by omega) (by omega)
      obtain ⟨m1, i1, i2, i3, i4⟩ := rbegin_in (k36 := lX11_fromBeginning_36 oS n) hW h3 (by omega) hlE (by omega) hlng.1 10 FU (v 2) (upI B (p + 1) (min (B (p + 1)) (B p + v 4))) (u2 μ.1 79 (p + 1).toNat (ii (min (B (p + 1)) (B p + v 4))), μ.2) hR1 (RowB_up hB (by omega)) (BB_up hC (by omega) (by omega) (by omega)) (by omega) (by decide) (by omega) (by omega)
      obtain ⟨m', j1, j2⟩ := ih n (p + 1) _ (m1, μ.2) (by push_cast at h1; omega) (by omega) (by omega) (by omega) (RZ_fr (i2 75 (by omega)) hR1) i3 i4
      refine ⟨m', ?_, fun a ha => (j2 a ha).trans ((i2 a ha).trans (by simp (disch := omega) only [u2_offr]))⟩
      rw [← j1]
      by_cases hc : B (p + 1) ≤ B p + v 4
      · rw [show min (B (p + 1)) (B p + v 4) = B (p + 1) by omega] at hZ1 hlo i1
        simp (disch := omega) only [Option.bind_some, km1, k0, k1, k2, k3, k4, k5, k6, k7, k8, k9, k10, k11, k15, k16, k20, k32, k33, k39, k40, k43, k44, k45, k48, k49, k50, k51, k52, k57, k59, k60, k63, k64, k80, k97, k100, k101, k108, k112, k114, k117, k126, k130, k650, k100000, k1000000, ii_add, ii_sub, ii_neg, ii_mul, ii_lt, ii_le, ii_eq, if_true, if_false, if_pos, if_neg, gI_0, gI_1, gI_2, gI_4, gI_7, gI_15, gI_59, gI_61, gI_62, gI_66, gI_68, gI_71, gI_72, gI_74, gR_0_0, gR_0_1, gR_0_3, gR_0_4, gR_0_5, gR_0_6, gR_0_7, gR_0_8, gR_1_0, gR_1_1, gR_1_2, gR_2_0, gR_4_0, gR_4_1, gR_15_0, gR_59_0, gR_61_0, gR_61_1, gR_61_2, gR_62_0, gR_62_1, gR_62_2, gR_66_0, gR_66_1, gR_68_0, gR_68_1, gR_71_0, gR_72_0, gR_74_0, gR_74_1, gR_74_3, gR_74_5, gR_74_7, gR_74_8, gR_74_9, gR_74_15, ld_3, ld_5, ld_6, ld_60, ld_63, ld_64, ld_65, ld_67, ld_69, ld_70, ld_73, ld_75, ld_76, ld_77, ld_78, ld_79, ld_80, ld_82, st_3, st_5, st_6, st_60, st_63, st_64, st_65, st_67, st_69, st_70, st_73, st_75, st_76, st_77, st_78, st_79, st_80, st_82, aL_3, aL_5, aL_6, aL_60, aL_63, aL_64, aL_65, aL_67, aL_69, aL_70, aL_73, aL_75, aL_76, aL_77, aL_78, aL_79, aL_80, aL_82, pI_0, pI_1, pI_2, pI_4, pI_7, pI_15, pI_59, pI_61, pI_62, pI_66, pI_68, pI_71, pI_72, pI_74, ld_81, ld_16, aL_16, lX11_fromBeginning_36, lX11_fromBeginning_91, hZ, c1, c3, hZ1, hlo, i1]
      · rw [show min (B (p + 1)) (B p + v 4) = B p + v 4 by omega] at hZ1 hlo i1
        simp (disch := omega) only [Option.bind_some, km1, k0, k1, k2, k3, k4, k5, k6, k7, k8, k9, k10, k11, k15, k16, k20, k32, k33, k39, k40, k43, k44, k45, k48, k49, k50, k51, k52, k57, k59, k60, k63, k64, k80, k97, k100, k101, k108, k112, k114, k117, k126, k130, k650, k100000, k1000000, ii_add, ii_sub, ii_neg, ii_mul, ii_lt, ii_le, ii_eq, if_true, if_false, if_pos, if_neg, gI_0, gI_1, gI_2, gI_4, gI_7, gI_15, gI_59, gI_61, gI_62, gI_66, gI_68, gI_71, gI_72, gI_74, gR_0_0, gR_0_1, gR_0_3, gR_0_4, gR_0_5, gR_0_6, gR_0_7, gR_0_8, gR_1_0, gR_1_1, gR_1_2, gR_2_0, gR_4_0, gR_4_1, gR_15_0, gR_59_0, gR_61_0, gR_61_1, gR_61_2, gR_62_0, gR_62_1, gR_62_2, gR_66_0, gR_66_1, gR_68_0, gR_68_1, gR_71_0, gR_72_0, gR_74_0, gR_74_1, gR_74_3, gR_74_5, gR_74_7, gR_74_8, gR_74_9, gR_74_15, ld_3, ld_5, ld_6, ld_60, ld_63, ld_64, ld_65, ld_67, ld_69, ld_70, ld_73, ld_75, ld_76, ld_77, ld_78, ld_79, ld_80, ld_82, st_3, st_5, st_6, st_60, st_63, st_64, st_65, st_67, st_69, st_70, st_73, st_75, st_76, st_77, st_78, st_79, st_80, st_82, aL_3, aL_5, aL_6, aL_60, aL_63, aL_64, aL_65, aL_67, aL_69, aL_70, aL_73, aL_75, aL_76, aL_77, aL_78, aL_79, aL_80, aL_82, pI_0, pI_1, pI_2, pI_4, pI_7, pI_15, pI_59, pI_61, pI_62, pI_66, pI_68, pI_71, pI_72, pI_74, ld_81, ld_16, aL_16, lX11_fromBeginning_36, lX11_fromBeginning_91, hZ, c1, c3, hZ1, hlo, i1]
theorem rbegin_init {v : Int → Int} (hW : WF v) : ∀ (f n : Nat) (p : Int) (μ : mMm), RZ μ.1 v → v 0 + 1 - p ≤ f → f < n → 0 ≤ p → p ≤ v 0 + 1 → (∀ k, 0 ≤ k → k < p → μ.1 79 k.toNat = ii (bG0 100000 k)) → ∃ m', lX11_fromBeginning_2 oS n μ 74 (ii p) = lX11_fromBeginning_36 oS FU (m', μ.2) 74 (ii 0) ∧ (∀ a, a ≠ 79 → m' a = μ.1 a) ∧ ∀ k, 0 ≤ k → k ≤ v 0 → m' 79 k.toNat = ii (bG0 100000 k) := by
  have g0 := wf_0 hW
  intro f
  induction f with
  | zero =>
    intro n p μ hR h1 h2 h3 h4 hB
    obtain ⟨n, rfl⟩ : ∃ k, n = k + 1 := ⟨n - 1, by omega⟩
    have hZ := hR
    unfold RZ at hZ
    refine ⟨μ.1, ?_, fun _ _ => rfl, fun k h0 h1 => hB k h0 (by omega)⟩
    simp (disch := omega) only [Option.bind_some, km1, k0, k1, k2, k3, k4, k5, k6, k7, k8, k9, k10, k11, k15, k16, k20, k32, k33, k39, k40, k43, k44, k45, k48, k49, k50, k51, k52, k57, k59, k60, k63, k64, k80, k97, k100, k101, k108, k112, k114, k117, k126, k130, k650, k100000, k1000000, ii_add, ii_sub, ii_neg, ii_mul, ii_lt, ii_le, ii_eq, if_true, if_false, if_pos, if_neg, gI_0, gI_1, gI_2, gI_4, gI_7, gI_15, gI_59, gI_61, gI_62, gI_66, gI_68, gI_71, gI_72, gI_74, gR_0_0, gR_0_1, gR_0_3, gR_0_4, gR_0_5, gR_0_6, gR_0_7, gR_0_8, gR_1_0, gR_1_1, gR_1_2, gR_2_0, gR_4_0, gR_4_1, gR_15_0, gR_59_0, gR_61_0, gR_61_1, gR_61_2, gR_62_0, gR_62_1, gR_62_2, gR_66_0, gR_66_1, gR_68_0, gR_68_1, gR_71_0, gR_72_0, gR_74_0, gR_74_1, gR_74_3, gR_74_5, gR_74_7, gR_74_8, gR_74_9, gR_74_15, ld_3, ld_5, ld_6, ld_60, ld_63, ld_64, ld_65, ld_67, ld_69, ld_70, ld_73, ld_75, ld_76, ld_77, ld_78, ld_79, ld_80, ld_82, st_3, st_5, st_6, st_60, st_63, st_64, st_65, st_67, st_69, st_70, st_73, st_75, st_76, st_77, st_78, st_79, st_80, st_82, aL_3, aL_5, aL_6, aL_60, aL_63, aL_64, aL_65, aL_67, aL_69, aL_70, aL_73, aL_75, aL_76, aL_77, aL_78, aL_79, aL_80, aL_82, pI_0, pI_1, pI_2, pI_4, pI_7, pI_15, pI_59, pI_61, pI_62, pI_66, pI_68, pI_71, pI_72, pI_74, ld_81, ld_16, aL_16, lX11_fromBeginning_2, hZ]
  | succ f ih =>
    intro n p μ hR h1 h2 h3 h4 hB
    obtain ⟨n, rfl⟩ : ∃ k, n = k + 1 := ⟨n - 1, by omega⟩
    have hZ := hR
    unfold RZ at hZ
    by_cases hp : v 0 < p
    · refine ⟨μ.1, ?_, fun _ _ => rfl, fun k h0 h1 => hB k h0 (by omega)⟩
      simp (disch := omega) only [Option.bind_some, km1, k0, k1, k2, k3, k4, k5, k6, k7, k8, k9, k10, k11, k15, k16, k20, k32, k33, k39, k40, k43, k44, k45, k48, k49, k50, k51, k52, k57, k59, k60, k63, k64, k80, k97, k100, k101, k108, k112, k114, k117, k126, k130, k650, k100000, k1000000, ii_add, ii_sub, ii_neg, ii_mul, ii_lt, ii_le, ii_eq, if_true, if_false, if_pos, if_neg, gI_0, gI_1, gI_2, gI_4, gI_7, gI_15, gI_59, gI_61, gI_62, gI_66, gI_68, gI_71, gI_72, gI_74, gR_0_0, gR_0_1, gR_0_3, gR_0_4, gR_0_5, gR_0_6, gR_0_7, gR_0_8, gR_1_0, gR_1_1, gR_1_2, gR_2_0, gR_4_0, gR_4_1, gR_15_0, gR_59_0, gR_61_0, gR_61_1, gR_61_2, gR_62_0, gR_62_1, gR_62_2, gR_66_0, gR_66_1, gR_68_0, gR_68_1, gR_71_0, gR_72_0, gR_74_0, gR_74_1, gR_74_3, gR_74_5, gR_74_7, gR_74_8, gR_74_9, gR_74_15, ld_3, ld_5, ld_6, ld_60, ld_63, ld_64, ld_65, ld_67, ld_69, ld_70, ld_73, ld_75, ld_76, ld_77, ld_78, ld_79, ld_80, ld_82, st_3, st_5, st_6, st_60, st_63, st_64, st_65, st_67, st_69, st_70, st_73, st_75, st_76, st_77, st_78, st_79, st_80, st_82, aL_3, aL_5, aL_6, aL_60, aL_63, aL_64, aL_65, aL_67, aL_69, aL_70, aL_73, aL_75, aL_76, aL_77, aL_78, aL_79, aL_80, aL_82, pI_0, pI_1, pI_2, pI_4, pI_7, pI_15, pI_59, pI_61, pI_62, pI_66, pI_68, pI_71, pI_72, pI_74, ld_81, ld_16, aL_16, lX11_fromBeginning_2, hZ]
    · obtain ⟨m', j1, j2, j3⟩ := ih n (p + 1) (u2 μ.1 79 p.toNat (ii (bG0 100000 p)), μ.2) (RZ_fr (by simp (disch := omega) only [u2_offr]) hR) (by push_cast at h1; omega) (by omega) (by omega) (by omega) (fun k hk0 hk1 => by
        by_cases hk : k = p
        · subst hk; simp (disch := omega) only [u2_at]
        · simp (disch := omega) only [u2_off]; exact hB k hk0 (by omega))
      refine ⟨m', ?_, fun a ha => (j2 a ha).trans (by simp (disch := omega) only [u2_offr]), j3⟩
      rw [← j1]
      unfold bG0
      by_cases hz : p = 0
      · subst hz
        simp (disch := omega) only [Option.bind_some, km1, k0, k1, k2, k3, k4, k5, k6, k7, k8, k9, k10, k11, k15, k16, k20, k32, k33, k39, k40, k43, k44, k45, k48, k49, k50, k51, k52, k57, k59, k60, k63, k64, k80, k97, k100, k101, k108, k112, k114, k117, k126, k130, k650, k100000, k1000000, ii_add, ii_sub, ii_neg, ii_mul, ii_lt, ii_le, ii_eq, if_true, if_false, if_pos, if_neg, gI_0, gI_1, gI_2, gI_4, gI_7, gI_15, gI_59, gI_61, gI_62, gI_66, gI_68, gI_71, gI_72, gI_74, gR_0_0, gR_0_1, gR_0_3, gR_0_4, gR_0_5, gR_0_6, gR_0_7, gR_0_8, gR_1_0, gR_1_1, gR_1_2, gR_2_0, gR_4_0, gR_4_1, gR_15_0, gR_59_0, gR_61_0, gR_61_1, gR_61_2, gR_62_0, gR_62_1, gR_62_2, gR_66_0, gR_66_1, gR_68_0, gR_68_1, gR_71_0, gR_72_0, gR_74_0, gR_74_1, gR_74_3, gR_74_5, gR_74_7, gR_74_8, gR_74_9, gR_74_15, ld_3, ld_5, ld_6, ld_60, ld_63, ld_64, ld_65, ld_67, ld_69, ld_70, ld_73, ld_75, ld_76, ld_77, ld_78, ld_79, ld_80, ld_82, st_3, st_5, st_6, st_60, st_63, st_64, st_65, st_67, st_69, st_70, st_73, st_75, st_76, st_77, st_78, st_79, st_80, st_82, aL_3, aL_5, aL_6, aL_60, aL_63, aL_64, aL_65, aL_67, aL_69, aL_70, aL_73, aL_75, aL_76, aL_77, aL_78, aL_79, aL_80, aL_82, pI_0, pI_1, pI_2, pI_4, pI_7, pI_15, pI_59, pI_61, pI_62, pI_66, pI_68, pI_71, pI_72, pI_74, ld_81, ld_16, aL_16, lX11_fromBeginning_2, lX11_fromBeginning_27, hZ]
      · simp (disch := omega) only [Option.bind_some, km1, k0, k1, k2, k3, k4, k5, k6, k7, k8, k9, k10, k11, k15, k16, k20, k32, k33, k39, k40, k43, k44, k45, k48, k49, k50, k51, k52, k57, k59, k60, k63, k64, k80, k97, k100, k101, k108, k112, k114, k117, k126, k130, k650, k100000, k1000000, ii_add, ii_sub, ii_neg, ii_mul, ii_lt, ii_le, ii_eq, if_true, if_false, if_pos, if_neg, gI_0, gI_1, gI_2, gI_4, gI_7, gI_15, gI_59, gI_61, gI_62, gI_66, gI_68, gI_71, gI_72, gI_74, gR_0_0, gR_0_1, gR_0_3, gR_0_4, gR_0_5, gR_0_6, gR_0_7, gR_0_8, gR_1_0, gR_1_1, gR_1_2, gR_2_0, gR_4_0, gR_4_1, gR_15_0, gR_59_0, gR_61_0, gR_61_1, gR_61_2, gR_62_0, gR_62_1, gR_62_2, gR_66_0, gR_66_1, gR_68_0, gR_68_1, gR_71_0, gR_72_0, gR_74_0, gR_74_1, gR_74_3, gR_74_5, gR_74_7, gR_74_8, gR_74_9, gR_74_15, ld_3, ld_5, ld_6, ld_60, ld_63, ld_64, ld_65, ld_67, ld_69, ld_70, ld_73, ld_75, ld_76, ld_77, ld_78, ld_79, ld_80, ld_82, st_3, st_5, st_6, st_60, st_63, st_64, st_65, st_67, st_69, st_70, st_73, st_75, st_76, st_77, st_78, st_79, st_80, st_82, aL_3, aL_5, aL_6, aL_60, aL_63, aL_64, aL_65, aL_67, aL_69, aL_70, aL_73, aL_75, aL_76, aL_77, aL_78, aL_79, aL_80, aL_82, pI_0, pI_1, pI_2, pI_4, pI_7, pI_15, pI_59, pI_61, pI_62, pI_66, pI_68, pI_71, pI_72, pI_74, ld_81, ld_16, aL_16, lX11_fromBeginning_2, lX11_fromBeginning_27, hZ]
theorem rbegin_at {μ : mMm} {v : Int → Int} (hR : RZ μ.1 v) (hW : WF v) : ∃ m', fX11_fromBeginning oS μ 74 = some (ii (fbg v), (m', μ.2)) ∧ (∀ a, a ≠ 79 → m' a = μ.1 a) := by
  have g0 := wf_0 hW
  obtain ⟨m1, i1, i2, i3⟩ := rbegin_init hW 41 FU 0 μ hR (by omega) (by decide) (by omega) (by omega) (fun k h0 h1 => by omega)
  obtain ⟨m', j1, j2⟩ := rbegin_loop hW 41 FU 0 (bG0 100000) (m1, μ.2) (by omega) (by decide) (by omega) (by omega) (RZ_fr (i2 75 (by omega)) hR) (fun k h0 h1 => i3 k h0 h1) (fun k h0 h1 => by unfold bG0; split <;> omega)
  refine ⟨m', ?_, fun a ha => (j2 a ha).trans (i2 a ha)⟩
  unfold fX11_fromBeginning bX11_fromBeginning
  rw [if_pos o74, show (0 : Int32) = ii 0 from rfl, i1, j1]
  rfl
