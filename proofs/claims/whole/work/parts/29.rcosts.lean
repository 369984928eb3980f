/-! the reference's least costs from the end -/
theorem RZ_fr {m m' : Nat → Nat → Int32} {v : Int → Int} (h : m' 75 = m 75) (hR : RZ m v) : RZ m' v := by
  unfold RZ at hR ⊢
  rw [h]
  exact hR
theorem toEnd_in {v : Int → Int} (hW : WF v) {B : Int → Int} {w p m : Int} {k21 : mMm → Nat → Int32 → Int32 → Option mMm} (hp0 : 0 ≤ p) (hp : p < v 0) (hm : p + m ≤ v 0) (hm9 : m ≤ 9) (hm0 : 0 ≤ m) (hC : CB B p (v 0)) : ∀ (f n : Nat) (l b : Int) (μ : mMm), RZ μ.1 v → (∀ k, p < k → k ≤ v 0 → μ.1 79 k.toNat = ii (B k)) → μ.1 79 p.toNat = ii b → m + 1 - l ≤ f → f < n → 1 ≤ l → l ≤ 10 → 0 ≤ b → b ≤ 400 → ∃ m', lX11_costsToEnd_61 k21 oS n μ 74 (ii w) (ii p) (ii m) (ii l) = k21 (m', μ.2) 74 (ii w) (ii (p + -1)) ∧ (∀ a, a ≠ 79 → m' a = μ.1 a) ∧ (∀ k, p < k → k ≤ v 0 → m' 79 k.toNat = ii (B k)) ∧ m' 79 p.toNat = ii (iGo B (v 5) p m f l b) := by
  have g0 := wf_0 hW
  have g5 := wf_5 hW
  intro f
  induction f with
  | zero =>
    intro n l b μ hR hB hb h1 h2 h3 h4 h5 h6
    obtain ⟨n, rfl⟩ : ∃ k, n = k + 1 := ⟨n - 1, by omega⟩
    refine ⟨μ.1, ?_, fun _ _ => rfl, hB, hb⟩
    simp (disch := omega) only [Option.bind_some, km1, k0, k1, k2, k3, k4, k5, k6, k7, k8, k9, k10, k11, k15, k16, k20, k32, k33, k39, k40, k43, k44, k45, k48, k49, k50, k51, k52, k57, k59, k60, k63, k64, k80, k97, k100, k101, k108, k112, k114, k117, k126, k130, k650, k100000, k1000000, ii_add, ii_sub, ii_neg, ii_mul, ii_lt, ii_le, ii_eq, if_true, if_false, if_pos, if_neg, gI_0, gI_1, gI_2, gI_4, gI_7, gI_15, gI_59, gI_61, gI_62, gI_66, gI_68, gI_71, gI_72, gI_74, gR_0_0, gR_0_1, gR_0_3, gR_0_4, gR_0_5, gR_0_6, gR_0_7, gR_0_8, gR_1_0, gR_1_1, gR_1_2, gR_2_0, gR_4_0, gR_4_1, gR_15_0, gR_59_0, gR_61_0, gR_61_1, gR_61_2, gR_62_0, gR_62_1, gR_62_2, gR_66_0, gR_66_1, gR_68_0, gR_68_1, gR_71_0, gR_72_0, gR_74_0, gR_74_1, gR_74_3, gR_74_5, gR_74_7, gR_74_8, gR_74_9, gR_74_15, ld_3, ld_5, ld_6, ld_60, ld_63, ld_64, ld_65, ld_67, ld_69, ld_70, ld_73, ld_75, ld_76, ld_77, ld_78, ld_79, ld_80, ld_82, st_3, st_5, st_6, st_60, st_63, st_64, st_65, st_67, st_69, st_70, st_73, st_75, st_76, st_77, st_78, st_79, st_80, st_82, aL_3, aL_5, aL_6, aL_60, aL_63, aL_64, aL_65, aL_67, aL_69, aL_70, aL_73, aL_75, aL_76, aL_77, aL_78, aL_79, aL_80, aL_82, pI_0, pI_1, pI_2, pI_4, pI_7, pI_15, pI_59, pI_61, pI_62, pI_66, pI_68, pI_71, pI_72, pI_74, ld_81, ld_16, aL_16, lX11_costsToEnd_61]
  | succ f ih =>
    intro n l b μ hR hB hb h1 h2 h3 h4 h5 h6
    obtain ⟨n, rfl⟩ : ∃ k, n = k + 1 := ⟨n - 1, by omega⟩
    have hZ := hR
    unfold RZ at hZ
    unfold iGo
    by_cases hl : m < l
    · rw [if_pos hl]
      refine ⟨μ.1, ?_, fun _ _ => rfl, hB, hb⟩
      simp (disch := omega) only [Option.bind_some, km1, k0, k1, k2, k3, k4, k5, k6, k7, k8, k9, k10, k11, k15, k16, k20, k32, k33, k39, k40, k43, k44, k45, k48, k49, k50, k51, k52, k57, k59, k60, k63, k64, k80, k97, k100, k101, k108, k112, k114, k117, k126, k130, k650, k100000, k1000000, ii_add, ii_sub, ii_neg, ii_mul, ii_lt, ii_le, ii_eq, if_true, if_false, if_pos, if_neg, gI_0, gI_1, gI_2, gI_4, gI_7, gI_15, gI_59, gI_61, gI_62, gI_66, gI_68, gI_71, gI_72, gI_74, gR_0_0, gR_0_1, gR_0_3, gR_0_4, gR_0_5, gR_0_6, gR_0_7, gR_0_8, gR_1_0, gR_1_1, gR_1_2, gR_2_0, gR_4_0, gR_4_1, gR_15_0, gR_59_0, gR_61_0, gR_61_1, gR_61_2, gR_62_0, gR_62_1, gR_62_2, gR_66_0, gR_66_1, gR_68_0, gR_68_1, gR_71_0, gR_72_0, gR_74_0, gR_74_1, gR_74_3, gR_74_5, gR_74_7, gR_74_8, gR_74_9, gR_74_15, ld_3, ld_5, ld_6, ld_60, ld_63, ld_64, ld_65, ld_67, ld_69, ld_70, ld_73, ld_75, ld_76, ld_77, ld_78, ld_79, ld_80, ld_82, st_3, st_5, st_6, st_60, st_63, st_64, st_65, st_67, st_69, st_70, st_73, st_75, st_76, st_77, st_78, st_79, st_80, st_82, aL_3, aL_5, aL_6, aL_60, aL_63, aL_64, aL_65, aL_67, aL_69, aL_70, aL_73, aL_75, aL_76, aL_77, aL_78, aL_79, aL_80, aL_82, pI_0, pI_1, pI_2, pI_4, pI_7, pI_15, pI_59, pI_61, pI_62, pI_66, pI_68, pI_71, pI_72, pI_74, ld_81, ld_16, aL_16, lX11_costsToEnd_61]
    · rw [if_neg hl]
      have c1 := hB (p + l) (by omega) (by omega)
      have c2 := hC (p + l) (by omega) (by omega)
      have key : ∀ x, x = min b (v 5 + B (p + l)) → ∃ m', lX11_costsToEnd_61 k21 oS n (u2 μ.1 79 p.toNat (ii x), μ.2) 74 (ii w) (ii p) (ii m) (ii (l + 1)) = k21 (m', μ.2) 74 (ii w) (ii (p + -1)) ∧ (∀ a, a ≠ 79 → m' a = μ.1 a) ∧ (∀ k, p < k → k ≤ v 0 → m' 79 k.toNat = ii (B k)) ∧ m' 79 p.toNat = ii (iGo B (v 5) p m f (l + 1) (min b (v 5 + B (p + l)))) := fun x hx => by
        subst hx
        obtain ⟨m', j1, j2, j3, j4⟩ := ih n (l + 1) (min b (v 5 + B (p + l))) (u2 μ.1 79 p.toNat (ii (min b (v 5 + B (p + l)))), μ.2) (RZ_fr (by simp (disch := omega) only [u2_offr]) hR) (fun k hk1 hk2 => by simp (disch := omega) only [u2_off]; exact hB k hk1 hk2) (by simp (disch := omega) only [u2_at]) (by push_cast at h1; omega) (by omega) (by omega) (by omega) (by omega) (by omega)
        exact ⟨m', j1, fun a ha => (j2 a ha).trans (by simp (disch := omega) only [u2_offr]), j3, j4⟩
      by_cases hc : b ≤ v 5 + B (p + l)
      · obtain ⟨m', j1, j2⟩ := key b (by omega)
        refine ⟨m', ?_, j2⟩
        rw [← j1]
        simp (disch := omega) only [Option.bind_some, km1, k0, k1, k2, k3, k4, k5, k6, k7, k8, k9, k10, k11, k15, k16, k20, k32, k33, k39, k40, k43, k44, k45, k48, k49, k50, k51, k52, k57, k59, k60, k63, k64, k80, k97, k100, k101, k108, k112, k114, k117, k126, k130, k650, k100000, k1000000, ii_add, ii_sub, ii_neg, ii_mul, ii_lt, ii_le, ii_eq, if_true, if_false, if_pos, if_neg, gI_0, gI_1, gI_2, gI_4, gI_7, gI_15, gI_59, gI_61, gI_62, gI_66, gI_68, gI_71, gI_72, gI_74, gR_0_0, gR_0_1, gR_0_3, gR_0_4, gR_0_5, gR_0_6, gR_0_7, gR_0_8, gR_1_0, gR_1_1, gR_1_2, gR_2_0, gR_4_0, gR_4_1, gR_15_0, gR_59_0, gR_61_0, gR_61_1, gR_61_2, gR_62_0, gR_62_1, gR_62_2, gR_66_0, gR_66_1, gR_68_0, gR_68_1, gR_71_0, gR_72_0, gR_74_0, gR_74_1, gR_74_3, gR_74_5, gR_74_7, gR_74_8, gR_74_9, gR_74_15, ld_3, ld_5, ld_6, ld_60, ld_63, ld_64, ld_65, ld_67, ld_69, ld_70, ld_73, ld_75, ld_76, ld_77, ld_78, ld_79, ld_80, ld_82, st_3, st_5, st_6, st_60, st_63, st_64, st_65, st_67, st_69, st_70, st_73, st_75, st_76, st_77, st_78, st_79, st_80, st_82, aL_3, aL_5, aL_6, aL_60, aL_63, aL_64, aL_65, aL_67, aL_69, aL_70, aL_73, aL_75, aL_76, aL_77, aL_78, aL_79, aL_80, aL_82, pI_0, pI_1, pI_2, pI_4, pI_7, pI_15, pI_59, pI_61, pI_62, pI_66, pI_68, pI_71, pI_72, pI_74, ld_81, ld_16, aL_16, lX11_costsToEnd_61, lX11_costsToEnd_112, hZ, c1, hb]
      · obtain ⟨m', j1, j2⟩ := key (v 5 + B (p + l)) (by omega)
        refine ⟨m', ?_, j2⟩
        rw [← j1]
        simp (disch := omega) only [Option.bind_some, km1, k0, k1, k2, k3, k4, k5, k6, k7, k8, k9, k10, k11, k15, k16, k20, k32, k33, k39, k40, k43, k44, k45, k48, k49, k50, k51, k52, k57, k59, k60, k63, k64, k80, k97, k100, k101, k108, k112, k114, k117, k126, k130, k650, k100000, k1000000, ii_add, ii_sub, ii_neg, ii_mul, ii_lt, ii_le, ii_eq, if_true, if_false, if_pos, if_neg, gI_0, gI_1, gI_2, gI_4, gI_7, gI_15, gI_59, gI_61, gI_62, gI_66, gI_68, gI_71, gI_72, gI_74, gR_0_0, gR_0_1, gR_0_3, gR_0_4, gR_0_5, gR_0_6, gR_0_7, gR_0_8, gR_1_0, gR_1_1, gR_1_2, gR_2_0, gR_4_0, gR_4_1, gR_15_0, gR_59_0, gR_61_0, gR_61_1, gR_61_2, gR_62_0, gR_62_1, gR_62_2, gR_66_0, gR_66_1, gR_68_0, gR_68_1, gR_71_0, gR_72_0, gR_74_0, gR_74_1, gR_74_3, gR_74_5, gR_74_7, gR_74_8, gR_74_9, gR_74_15, ld_3, ld_5, ld_6, ld_60, ld_63, ld_64, ld_65, ld_67, ld_69, ld_70, ld_73, ld_75, ld_76, ld_77, ld_78, ld_79, ld_80, ld_82, st_3, st_5, st_6, st_60, st_63, st_64, st_65, st_67, st_69, st_70, st_73, st_75, st_76, st_77, st_78, st_79, st_80, st_82, aL_3, aL_5, aL_6, aL_60, aL_63, aL_64, aL_65, aL_67, aL_69, aL_70, aL_73, aL_75, aL_76, aL_77, aL_78, aL_79, aL_80, aL_82, pI_0, pI_1, pI_2, pI_4, pI_7, pI_15, pI_59, pI_61, pI_62, pI_66, pI_68, pI_71, pI_72, pI_74, ld_81, ld_16, aL_16, lX11_costsToEnd_61, lX11_costsToEnd_112, hZ, c1, hb]
theorem toEnd_loop {v : Int → Int} (hW : WF v) {w : Int} (hw0 : 1 ≤ w) (hw : w ≤ 32) : ∀ (f n : Nat) (p : Int) (B : Int → Int) (μ : mMm), p < f → f < n → -1 ≤ p → p < v 0 → RZ μ.1 v → (∀ k, p < k → k ≤ v 0 → μ.1 79 k.toNat = ii (B k)) → CB B p (v 0) → ∃ m', lX11_costsToEnd_21 oS n μ 74 (ii w) (ii p) = some (m', μ.2) ∧ (∀ a, a ≠ 79 → m' a = μ.1 a) ∧ ∀ k, 0 ≤ k → k ≤ v 0 → m' 79 k.toNat = ii (cGo (fun p => lng v p w) (v 4) (v 5) (v 2) f p B k) := by
  have g0 := wf_0 hW
  have g2 := wf_2 hW
  have g3 := wf_3 hW
  have g4 := wf_4 hW
  have g5 := wf_5 hW
  intro f
  induction f with
  | zero =>
    intro n p B μ h1 h2 h3 h4 hR hB hC
    obtain ⟨n, rfl⟩ : ∃ k, n = k + 1 := ⟨n - 1, by omega⟩
    have : p = -1 := by push_cast at h1; omega
    subst this
    refine ⟨μ.1, ?_, fun _ _ => rfl, fun k hk0 hk => hB k (by omega) hk⟩
    simp (disch := omega) only [Option.bind_some, km1, k0, k1, k2, k3, k4, k5, k6, k7, k8, k9, k10, k11, k15, k16, k20, k32, k33, k39, k40, k43, k44, k45, k48, k49, k50, k51, k52, k57, k59, k60, k63, k64, k80, k97, k100, k101, k108, k112, k114, k117, k126, k130, k650, k100000, k1000000, ii_add, ii_sub, ii_neg, ii_mul, ii_lt, ii_le, ii_eq, if_true, if_false, if_pos, if_neg, gI_0, gI_1, gI_2, gI_4, gI_7, gI_15, gI_59, gI_61, gI_62, gI_66, gI_68, gI_71, gI_72, gI_74, gR_0_0, gR_0_1, gR_0_3, gR_0_4, gR_0_5, gR_0_6, gR_0_7, gR_0_8, gR_1_0, gR_1_1, gR_1_2, gR_2_0, gR_4_0, gR_4_1, gR_15_0, gR_59_0, gR_61_0, gR_61_1, gR_61_2, gR_62_0, gR_62_1, gR_62_2, gR_66_0, gR_66_1, gR_68_0, gR_68_1, gR_71_0, gR_72_0, gR_74_0, gR_74_1, gR_74_3, gR_74_5, gR_74_7, gR_74_8, gR_74_9, gR_74_15, ld_3, ld_5, ld_6, ld_60, ld_63, ld_64, ld_65, ld_67, ld_69, ld_70, ld_73, ld_75, ld_76, ld_77, ld_78, ld_79, ld_80, ld_82, st_3, st_5, st_6, st_60, st_63, st_64, st_65, st_67, st_69, st_70, st_73, st_75, st_76, st_77, st_78, st_79, st_80, st_82, aL_3, aL_5, aL_6, aL_60, aL_63, aL_64, aL_65, aL_67, aL_69, aL_70, aL_73, aL_75, aL_76, aL_77, aL_78, aL_79, aL_80, aL_82, pI_0, pI_1, pI_2, pI_4, pI_7, pI_15, pI_59, pI_61, pI_62, pI_66, pI_68, pI_71, pI_72, pI_74, ld_81, ld_16, aL_16, lX11_costsToEnd_21]
  | succ f ih =>
    intro n p B μ h1 h2 h3 h4 hR hB hC
    obtain ⟨n, rfl⟩ : ∃ k, n = k + 1 := ⟨n - 1, by omega⟩
    unfold cGo
    by_cases hp : p < 0
    · have : p = -1 := by omega
      subst this
      rw [if_pos hp]
      refine ⟨μ.1, ?_, fun _ _ => rfl, fun k hk0 hk => hB k (by omega) hk⟩
      simp (disch := omega) only [Option.bind_some, km1, k0, k1, k2, k3, k4, k5, k6, k7, k8, k9, k10, k11, k15, k16, k20, k32, k33, k39, k40, k43, k44, k45, k48, k49, k50, k51, k52, k57, k59, k60, k63, k64, k80, k97, k100, k101, k108, k112, k114, k117, k126, k130, k650, k100000, k1000000, ii_add, ii_sub, ii_neg, ii_mul, ii_lt, ii_le, ii_eq, if_true, if_false, if_pos, if_neg, gI_0, gI_1, gI_2, gI_4, gI_7, gI_15, gI_59, gI_61, gI_62, gI_66, gI_68, gI_71, gI_72, gI_74, gR_0_0, gR_0_1, gR_0_3, gR_0_4, gR_0_5, gR_0_6, gR_0_7, gR_0_8, gR_1_0, gR_1_1, gR_1_2, gR_2_0, gR_4_0, gR_4_1, gR_15_0, gR_59_0, gR_61_0, gR_61_1, gR_61_2, gR_62_0, gR_62_1, gR_62_2, gR_66_0, gR_66_1, gR_68_0, gR_68_1, gR_71_0, gR_72_0, gR_74_0, gR_74_1, gR_74_3, gR_74_5, gR_74_7, gR_74_8, gR_74_9, gR_74_15, ld_3, ld_5, ld_6, ld_60, ld_63, ld_64, ld_65, ld_67, ld_69, ld_70, ld_73, ld_75, ld_76, ld_77, ld_78, ld_79, ld_80, ld_82, st_3, st_5, st_6, st_60, st_63, st_64, st_65, st_67, st_69, st_70, st_73, st_75, st_76, st_77, st_78, st_79, st_80, st_82, aL_3, aL_5, aL_6, aL_60, aL_63, aL_64, aL_65, aL_67, aL_69, aL_70, aL_73, aL_75, aL_76, aL_77, aL_78, aL_79, aL_80, aL_82, pI_0, pI_1, pI_2, pI_4, pI_7, pI_15, pI_59, pI_61, pI_62, pI_66, pI_68, pI_71, pI_72, pI_74, ld_81, ld_16, aL_16, lX11_costsToEnd_21]
    · rw [if_neg hp]
      have hZ := hR
      unfold RZ at hZ
      have hlng := lng_b hW (p := p) (w := w) (by omega)
      have hlE := lng_e hW (p := p) (w := w) (by omega) (by omega)
      have c1 := hB (p + 1) (by omega) (by omega)
      have c2 := hC (p + 1) (by omega) (by omega)
      have hR1 : RZ (u2 μ.1 79 p.toNat (ii (v 4 + B (p + 1)))) v := RZ_fr (by simp (disch := omega) only [u2_offr]) hR
      have hZ1 := hR1
      unfold RZ at hZ1
      have hlo := rlongest_at (μ := (u2 μ.1 79 p.toNat (ii (v 4 + B (p + 1))), μ.2)) hR1 hW (p := p) (w := w) (by omega) (by omega) hw0 hw
      obtain ⟨m1, i1, i2, i3, i4⟩ := toEnd_in (k21 := lX11_costsToEnd_21 oS n) (w := w) hW (by omega) h4 hlE (by omega) hlng.1 hC 10 FU (v 2) (v 4 + B (p + 1)) (u2 μ.1 79 p.toNat (ii (v 4 + B (p + 1))), μ.2) hR1 (fun k hk1 hk2 => by simp (disch := omega) only [u2_off]; exact hB k hk1 hk2) (by simp (disch := omega) only [u2_at]) (by omega) (by decide) (by omega) (by omega) (by omega) (by omega)
      obtain ⟨m', j1, j2, j3⟩ := ih n (p - 1) (upI B p (iGo B (v 5) p (lng v p w) 10 (v 2) (v 4 + B (p + 1)))) (m1, μ.2) (by push_cast at h1; omega) (by omega) (by omega) (by omega) (RZ_fr (i2 75 (by omega)) hR1) (fun k hk1 hk2 => by
        by_cases hk : k = p
        · subst hk
          rw [upI_s]
          exact i4
        · rw [upI_n hk]
          exact i3 k (by omega) hk2) (CB_st hC h4 (by omega) (by omega) (by omega) (by omega) hlE)
      refine ⟨m', ?_, fun a ha => (j2 a ha).trans ((i2 a ha).trans (by simp (disch := omega) only [u2_offr])), j3⟩
      rw [← j1]
      simp (disch := omega) only [Option.bind_some, km1, k0, k1, k2, k3, k4, k5, k6, k7, k8, k9, k10, k11, k15, k16, k20, k32, k33, k39, k40, k43, k44, k45, k48, k49, k50, k51, k52, k57, k59, k60, k63, k64, k80, k97, k100, k101, k108, k112, k114, k117, k126, k130, k650, k100000, k1000000, ii_add, ii_sub, ii_neg, ii_mul, ii_lt, ii_le, ii_eq, if_true, if_false, if_pos, if_neg, gI_0, gI_1, gI_2, gI_4, gI_7, gI_15, gI_59, gI_61, gI_62, gI_66, gI_68, gI_71, gI_72, gI_74, gR_0_0, gR_0_1, gR_0_3, gR_0_4, gR_0_5, gR_0_6, gR_0_7, gR_0_8, gR_1_0, gR_1_1, gR_1_2, gR_2_0, gR_4_0, gR_4_1, gR_15_0, gR_59_0, gR_61_0, gR_61_1, gR_61_2, gR_62_0, gR_62_1, gR_62_2, gR_66_0, gR_66_1, gR_68_0, gR_68_1, gR_71_0, gR_72_0, gR_74_0, gR_74_1, gR_74_3, gR_74_5, gR_74_7, gR_74_8, gR_74_9, gR_74_15, ld_3, ld_5, ld_6, ld_60, ld_63, ld_64, ld_65, ld_67, ld_69, ld_70, ld_73, ld_75, ld_76, ld_77, ld_78, ld_79, ld_80, ld_82, st_3, st_5, st_6, st_60, st_63, st_64, st_65, st_67, st_69, st_70, st_73, st_75, st_76, st_77, st_78, st_79, st_80, st_82, aL_3, aL_5, aL_6, aL_60, aL_63, aL_64, aL_65, aL_67, aL_69, aL_70, aL_73, aL_75, aL_76, aL_77, aL_78, aL_79, aL_80, aL_82, pI_0, pI_1, pI_2, pI_4, pI_7, pI_15, pI_59, pI_61, pI_62, pI_66, pI_68, pI_71, pI_72, pI_74, ld_81, ld_16, aL_16, lX11_costsToEnd_21, hZ, c1, hlo, hZ1, i1]
      rfl
theorem toEnd_at {μ : mMm} {v : Int → Int} (hR : RZ μ.1 v) (hW : WF v) {w : Int} (hw0 : 1 ≤ w) (hw : w ≤ 32) : ∃ m', fX11_costsToEnd oS μ 74 (ii w) = some (m', μ.2) ∧ (∀ a, a ≠ 79 → m' a = μ.1 a) ∧ ∀ k, 0 ≤ k → k ≤ v 0 → m' 79 k.toNat = ii (cst v w k) := by
  have g0 := wf_0 hW
  have hR1 : RZ (u2 μ.1 79 (v 0).toNat (ii 0)) v := RZ_fr (by simp (disch := omega) only [u2_offr]) hR
  have hZ := hR
  unfold RZ at hZ
  have hZ1 := hR1
  unfold RZ at hZ1
  obtain ⟨m', j1, j2, j3⟩ := toEnd_loop hW hw0 hw 41 FU (v 0 - 1) (fun _ => 0) (u2 μ.1 79 (v 0).toNat (ii 0), μ.2) (by omega) (by decide) (by omega) (by omega) hR1 (fun k h1 h2 => by
    have : k = v 0 := by omega
    subst this
    simp (disch := omega) only [u2_at]) CB_0
  refine ⟨m', ?_, fun a ha => (j2 a ha).trans (by simp (disch := omega) only [u2_offr]), j3⟩
  unfold fX11_costsToEnd bX11_costsToEnd
  simp (disch := omega) only [Option.bind_some, km1, k0, k1, k2, k3, k4, k5, k6, k7, k8, k9, k10, k11, k15, k16, k20, k32, k33, k39, k40, k43, k44, k45, k48, k49, k50, k51, k52, k57, k59, k60, k63, k64, k80, k97, k100, k101, k108, k112, k114, k117, k126, k130, k650, k100000, k1000000, ii_add, ii_sub, ii_neg, ii_mul, ii_lt, ii_le, ii_eq, if_true, if_false, if_pos, if_neg, gI_0, gI_1, gI_2, gI_4, gI_7, gI_15, gI_59, gI_61, gI_62, gI_66, gI_68, gI_71, gI_72, gI_74, gR_0_0, gR_0_1, gR_0_3, gR_0_4, gR_0_5, gR_0_6, gR_0_7, gR_0_8, gR_1_0, gR_1_1, gR_1_2, gR_2_0, gR_4_0, gR_4_1, gR_15_0, gR_59_0, gR_61_0, gR_61_1, gR_61_2, gR_62_0, gR_62_1, gR_62_2, gR_66_0, gR_66_1, gR_68_0, gR_68_1, gR_71_0, gR_72_0, gR_74_0, gR_74_1, gR_74_3, gR_74_5, gR_74_7, gR_74_8, gR_74_9, gR_74_15, ld_3, ld_5, ld_6, ld_60, ld_63, ld_64, ld_65, ld_67, ld_69, ld_70, ld_73, ld_75, ld_76, ld_77, ld_78, ld_79, ld_80, ld_82, st_3, st_5, st_6, st_60, st_63, st_64, st_65, st_67, st_69, st_70, st_73, st_75, st_76, st_77, st_78, st_79, st_80, st_82, aL_3, aL_5, aL_6, aL_60, aL_63, aL_64, aL_65, aL_67, aL_69, aL_70, aL_73, aL_75, aL_76, aL_77, aL_78, aL_79, aL_80, aL_82, pI_0, pI_1, pI_2, pI_4, pI_7, pI_15, pI_59, pI_61, pI_62, pI_66, pI_68, pI_71, pI_72, pI_74, ld_81, ld_16, aL_16, if_pos o74, hZ, hZ1]
  exact j1
theorem cheapest_at {μ : mMm} {v : Int → Int} (hR : RZ μ.1 v) (hW : WF v) {w : Int} (hw0 : 1 ≤ w) (hw : w ≤ 32) : ∃ m', fX11_cheapest oS μ 74 (ii w) = some (ii (cst v w 0), (m', μ.2)) ∧ (∀ a, a ≠ 79 → m' a = μ.1 a) := by
  have g0 := wf_0 hW
  obtain ⟨m', j1, j2, j3⟩ := toEnd_at hR hW hw0 hw
  refine ⟨m', ?_, j2⟩
  have := j3 0 (by omega) (by omega)
  unfold fX11_cheapest bX11_cheapest
  simp (disch := omega) only [Option.bind_some, km1, k0, k1, k2, k3, k4, k5, k6, k7, k8, k9, k10, k11, k15, k16, k20, k32, k33, k39, k40, k43, k44, k45, k48, k49, k50, k51, k52, k57, k59, k60, k63, k64, k80, k97, k100, k101, k108, k112, k114, k117, k126, k130, k650, k100000, k1000000, ii_add, ii_sub, ii_neg, ii_mul, ii_lt, ii_le, ii_eq, if_true, if_false, if_pos, if_neg, gI_0, gI_1, gI_2, gI_4, gI_7, gI_15, gI_59, gI_61, gI_62, gI_66, gI_68, gI_71, gI_72, gI_74, gR_0_0, gR_0_1, gR_0_3, gR_0_4, gR_0_5, gR_0_6, gR_0_7, gR_0_8, gR_1_0, gR_1_1, gR_1_2, gR_2_0, gR_4_0, gR_4_1, gR_15_0, gR_59_0, gR_61_0, gR_61_1, gR_61_2, gR_62_0, gR_62_1, gR_62_2, gR_66_0, gR_66_1, gR_68_0, gR_68_1, gR_71_0, gR_72_0, gR_74_0, gR_74_1, gR_74_3, gR_74_5, gR_74_7, gR_74_8, gR_74_9, gR_74_15, ld_3, ld_5, ld_6, ld_60, ld_63, ld_64, ld_65, ld_67, ld_69, ld_70, ld_73, ld_75, ld_76, ld_77, ld_78, ld_79, ld_80, ld_82, st_3, st_5, st_6, st_60, st_63, st_64, st_65, st_67, st_69, st_70, st_73, st_75, st_76, st_77, st_78, st_79, st_80, st_82, aL_3, aL_5, aL_6, aL_60, aL_63, aL_64, aL_65, aL_67, aL_69, aL_70, aL_73, aL_75, aL_76, aL_77, aL_78, aL_79, aL_80, aL_82, pI_0, pI_1, pI_2, pI_4, pI_7, pI_15, pI_59, pI_61, pI_62, pI_66, pI_68, pI_71, pI_72, pI_74, ld_81, ld_16, aL_16, if_pos o74, j1, this]
