/-! the calls of the reference over saved states and the buffer -/
theorem undo_loop {c : Int} {v : Int → Int} (hc0 : 0 ≤ c) (hc5 : c ≤ 5) : ∀ (f n : Nat) (x : Int) (μ : mMm), 130 - x ≤ f → f < n → 0 ≤ x → x ≤ 130 → μ.1 74 2 = ii c → RM μ.1 76 (c * 130) v → (∀ k, 0 ≤ k → k < x → μ.1 75 k.toNat = ii (v k)) → ∃ m', lX11_undo_33 oS n μ 74 (ii x) = some (ii c, (m', μ.2)) ∧ (∀ b, b ≠ 75 → m' b = μ.1 b) ∧ RZ m' v := by
  intro f
  induction f with
  | zero =>
    intro n x μ h1 h2 h3 h4 hc hM hA
    obtain ⟨n, rfl⟩ : ∃ k, n = k + 1 := ⟨n - 1, by omega⟩
    have : x = 130 := by push_cast at h1; omega
    subst this
    refine ⟨μ.1, ?_, fun _ _ => rfl, hA⟩
    simp (disch := omega) only [Option.bind_some, km1, k0, k1, k2, k3, k4, k5, k6, k7, k8, k9, k10, k11, k15, k16, k20, k32, k33, k39, k40, k43, k44, k45, k48, k49, k50, k51, k52, k57, k59, k60, k63, k64, k80, k97, k100, k101, k108, k112, k114, k117, k126, k130, k650, k100000, k1000000, ii_add, ii_sub, ii_neg, ii_mul, ii_lt, ii_le, ii_eq, if_true, if_false, if_pos, if_neg, gI_0, gI_1, gI_2, gI_4, gI_7, gI_15, gI_59, gI_61, gI_62, gI_66, gI_68, gI_71, gI_72, gI_74, gR_0_0, gR_0_1, gR_0_3, gR_0_4, gR_0_5, gR_0_6, gR_0_7, gR_0_8, gR_1_0, gR_1_1, gR_1_2, gR_2_0, gR_4_0, gR_4_1, gR_15_0, gR_59_0, gR_61_0, gR_61_1, gR_61_2, gR_62_0, gR_62_1, gR_62_2, gR_66_0, gR_66_1, gR_68_0, gR_68_1, gR_71_0, gR_72_0, gR_74_0, gR_74_1, gR_74_3, gR_74_5, gR_74_7, gR_74_8, gR_74_9, gR_74_15, ld_3, ld_5, ld_6, ld_60, ld_63, ld_64, ld_65, ld_67, ld_69, ld_70, ld_73, ld_75, ld_76, ld_77, ld_78, ld_79, ld_80, ld_82, st_3, st_5, st_6, st_60, st_63, st_64, st_65, st_67, st_69, st_70, st_73, st_75, st_76, st_77, st_78, st_79, st_80, st_82, aL_3, aL_5, aL_6, aL_60, aL_63, aL_64, aL_65, aL_67, aL_69, aL_70, aL_73, aL_75, aL_76, aL_77, aL_78, aL_79, aL_80, aL_82, pI_0, pI_1, pI_2, pI_4, pI_7, pI_15, pI_59, pI_61, pI_62, pI_66, pI_68, pI_71, pI_72, pI_74, ld_81, ld_16, aL_16, lX11_undo_33, hc]
  | succ f ih =>
    intro n x μ h1 h2 h3 h4 hc hM hA
    obtain ⟨n, rfl⟩ : ∃ k, n = k + 1 := ⟨n - 1, by omega⟩
    by_cases hx : x = 130
    · subst hx
      refine ⟨μ.1, ?_, fun _ _ => rfl, hA⟩
      simp (disch := omega) only [Option.bind_some, km1, k0, k1, k2, k3, k4, k5, k6, k7, k8, k9, k10, k11, k15, k16, k20, k32, k33, k39, k40, k43, k44, k45, k48, k49, k50, k51, k52, k57, k59, k60, k63, k64, k80, k97, k100, k101, k108, k112, k114, k117, k126, k130, k650, k100000, k1000000, ii_add, ii_sub, ii_neg, ii_mul, ii_lt, ii_le, ii_eq, if_true, if_false, if_pos, if_neg, gI_0, gI_1, gI_2, gI_4, gI_7, gI_15, gI_59, gI_61, gI_62, gI_66, gI_68, gI_71, gI_72, gI_74, gR_0_0, gR_0_1, gR_0_3, gR_0_4, gR_0_5, gR_0_6, gR_0_7, gR_0_8, gR_1_0, gR_1_1, gR_1_2, gR_2_0, gR_4_0, gR_4_1, gR_15_0, gR_59_0, gR_61_0, gR_61_1, gR_61_2, gR_62_0, gR_62_1, gR_62_2, gR_66_0, gR_66_1, gR_68_0, gR_68_1, gR_71_0, gR_72_0, gR_74_0, gR_74_1, gR_74_3, gR_74_5, gR_74_7, gR_74_8, gR_74_9, gR_74_15, ld_3, ld_5, ld_6, ld_60, ld_63, ld_64, ld_65, ld_67, ld_69, ld_70, ld_73, ld_75, ld_76, ld_77, ld_78, ld_79, ld_80, ld_82, st_3, st_5, st_6, st_60, st_63, st_64, st_65, st_67, st_69, st_70, st_73, st_75, st_76, st_77, st_78, st_79, st_80, st_82, aL_3, aL_5, aL_6, aL_60, aL_63, aL_64, aL_65, aL_67, aL_69, aL_70, aL_73, aL_75, aL_76, aL_77, aL_78, aL_79, aL_80, aL_82, pI_0, pI_1, pI_2, pI_4, pI_7, pI_15, pI_59, pI_61, pI_62, pI_66, pI_68, pI_71, pI_72, pI_74, ld_81, ld_16, aL_16, lX11_undo_33, hc]
    · have q1 := hM x h3 (by omega)
      obtain ⟨m', j1, j2, j3⟩ := ih n (x + 1) (u2 μ.1 75 x.toNat (ii (v x)), μ.2) (by push_cast at h1; omega) (by omega) (by omega) (by omega) (by simp (disch := omega) only [u2_off]; exact hc) (fun k h5 h6 => by simp (disch := omega) only [u2_offr]; exact hM k h5 h6) (fun k h5 h6 => by
        by_cases hk : k = x
        · subst hk
          simp (disch := omega) only [u2_at]
        · simp (disch := omega) only [u2_off]
          exact hA k h5 (by omega))
      refine ⟨m', ?_, fun b hb => (j2 b hb).trans (by simp (disch := omega) only [u2_offr]), j3⟩
      rw [← j1]
      simp (disch := omega) only [Option.bind_some, km1, k0, k1, k2, k3, k4, k5, k6, k7, k8, k9, k10, k11, k15, k16, k20, k32, k33, k39, k40, k43, k44, k45, k48, k49, k50, k51, k52, k57, k59, k60, k63, k64, k80, k97, k100, k101, k108, k112, k114, k117, k126, k130, k650, k100000, k1000000, ii_add, ii_sub, ii_neg, ii_mul, ii_lt, ii_le, ii_eq, if_true, if_false, if_pos, if_neg, gI_0, gI_1, gI_2, gI_4, gI_7, gI_15, gI_59, gI_61, gI_62, gI_66, gI_68, gI_71, gI_72, gI_74, gR_0_0, gR_0_1, gR_0_3, gR_0_4, gR_0_5, gR_0_6, gR_0_7, gR_0_8, gR_1_0, gR_1_1, gR_1_2, gR_2_0, gR_4_0, gR_4_1, gR_15_0, gR_59_0, gR_61_0, gR_61_1, gR_61_2, gR_62_0, gR_62_1, gR_62_2, gR_66_0, gR_66_1, gR_68_0, gR_68_1, gR_71_0, gR_72_0, gR_74_0, gR_74_1, gR_74_3, gR_74_5, gR_74_7, gR_74_8, gR_74_9, gR_74_15, ld_3, ld_5, ld_6, ld_60, ld_63, ld_64, ld_65, ld_67, ld_69, ld_70, ld_73, ld_75, ld_76, ld_77, ld_78, ld_79, ld_80, ld_82, st_3, st_5, st_6, st_60, st_63, st_64, st_65, st_67, st_69, st_70, st_73, st_75, st_76, st_77, st_78, st_79, st_80, st_82, aL_3, aL_5, aL_6, aL_60, aL_63, aL_64, aL_65, aL_67, aL_69, aL_70, aL_73, aL_75, aL_76, aL_77, aL_78, aL_79, aL_80, aL_82, pI_0, pI_1, pI_2, pI_4, pI_7, pI_15, pI_59, pI_61, pI_62, pI_66, pI_68, pI_71, pI_72, pI_74, ld_81, ld_16, aL_16, lX11_undo_33, hc, q1]
theorem keep_loop {v : Int → Int} : ∀ (f n : Nat) (x : Int) (μ : mMm), 130 - x ≤ f → f < n → 0 ≤ x → x ≤ 130 → RZ μ.1 v → (∀ k, 0 ≤ k → k < x → μ.1 77 (0 + k).toNat = ii (v k)) → ∃ m', lX11_keep_7 oS n μ 74 (ii x) = some (ii (v 0), (u2 m' 74 11 (ii 0), μ.2)) ∧ (∀ b, b ≠ 77 → m' b = μ.1 b) ∧ RM m' 77 0 v := by
  intro f
  induction f with
  | zero =>
    intro n x μ h1 h2 h3 h4 hR hA
    obtain ⟨n, rfl⟩ : ∃ k, n = k + 1 := ⟨n - 1, by omega⟩
    have : x = 130 := by push_cast at h1; omega
    subst this
    have hZ := hR
    unfold RZ at hZ
    refine ⟨μ.1, ?_, fun _ _ => rfl, hA⟩
    simp (disch := omega) only [Option.bind_some, km1, k0, k1, k2, k3, k4, k5, k6, k7, k8, k9, k10, k11, k15, k16, k20, k32, k33, k39, k40, k43, k44, k45, k48, k49, k50, k51, k52, k57, k59, k60, k63, k64, k80, k97, k100, k101, k108, k112, k114, k117, k126, k130, k650, k100000, k1000000, ii_add, ii_sub, ii_neg, ii_mul, ii_lt, ii_le, ii_eq, if_true, if_false, if_pos, if_neg, gI_0, gI_1, gI_2, gI_4, gI_7, gI_15, gI_59, gI_61, gI_62, gI_66, gI_68, gI_71, gI_72, gI_74, gR_0_0, gR_0_1, gR_0_3, gR_0_4, gR_0_5, gR_0_6, gR_0_7, gR_0_8, gR_1_0, gR_1_1, gR_1_2, gR_2_0, gR_4_0, gR_4_1, gR_15_0, gR_59_0, gR_61_0, gR_61_1, gR_61_2, gR_62_0, gR_62_1, gR_62_2, gR_66_0, gR_66_1, gR_68_0, gR_68_1, gR_71_0, gR_72_0, gR_74_0, gR_74_1, gR_74_3, gR_74_5, gR_74_7, gR_74_8, gR_74_9, gR_74_15, ld_3, ld_5, ld_6, ld_60, ld_63, ld_64, ld_65, ld_67, ld_69, ld_70, ld_73, ld_75, ld_76, ld_77, ld_78, ld_79, ld_80, ld_82, st_3, st_5, st_6, st_60, st_63, st_64, st_65, st_67, st_69, st_70, st_73, st_75, st_76, st_77, st_78, st_79, st_80, st_82, aL_3, aL_5, aL_6, aL_60, aL_63, aL_64, aL_65, aL_67, aL_69, aL_70, aL_73, aL_75, aL_76, aL_77, aL_78, aL_79, aL_80, aL_82, pI_0, pI_1, pI_2, pI_4, pI_7, pI_15, pI_59, pI_61, pI_62, pI_66, pI_68, pI_71, pI_72, pI_74, ld_81, ld_16, aL_16, lX11_keep_7, hZ, says_at]
  | succ f ih =>
    intro n x μ h1 h2 h3 h4 hR hA
    obtain ⟨n, rfl⟩ : ∃ k, n = k + 1 := ⟨n - 1, by omega⟩
    have hZ := hR
    unfold RZ at hZ
    by_cases hx : x = 130
    · subst hx
      refine ⟨μ.1, ?_, fun _ _ => rfl, hA⟩
      simp (disch := omega) only [Option.bind_some, km1, k0, k1, k2, k3, k4, k5, k6, k7, k8, k9, k10, k11, k15, k16, k20, k32, k33, k39, k40, k43, k44, k45, k48, k49, k50, k51, k52, k57, k59, k60, k63, k64, k80, k97, k100, k101, k108, k112, k114, k117, k126, k130, k650, k100000, k1000000, ii_add, ii_sub, ii_neg, ii_mul, ii_lt, ii_le, ii_eq, if_true, if_false, if_pos, if_neg, gI_0, gI_1, gI_2, gI_4, gI_7, gI_15, gI_59, gI_61, gI_62, gI_66, gI_68, gI_71, gI_72, gI_74, gR_0_0, gR_0_1, gR_0_3, gR_0_4, gR_0_5, gR_0_6, gR_0_7, gR_0_8, gR_1_0, gR_1_1, gR_1_2, gR_2_0, gR_4_0, gR_4_1, gR_15_0, gR_59_0, gR_61_0, gR_61_1, gR_61_2, gR_62_0, gR_62_1, gR_62_2, gR_66_0, gR_66_1, gR_68_0, gR_68_1, gR_71_0, gR_72_0, gR_74_0, gR_74_1, gR_74_3, gR_74_5, gR_74_7, gR_74_8, gR_74_9, gR_74_15, ld_3, ld_5, ld_6, ld_60, ld_63, ld_64, ld_65, ld_67, ld_69, ld_70, ld_73, ld_75, ld_76, ld_77, ld_78, ld_79, ld_80, ld_82, st_3, st_5, st_6, st_60, st_63, st_64, st_65, st_67, st_69, st_70, st_73, st_75, st_76, st_77, st_78, st_79, st_80, st_82, aL_3, aL_5, aL_6, aL_60, aL_63, aL_64, aL_65, aL_67, aL_69, aL_70, aL_73, aL_75, aL_76, aL_77, aL_78, aL_79, aL_80, aL_82, pI_0, pI_1, pI_2, pI_4, pI_7, pI_15, pI_59, pI_61, pI_62, pI_66, pI_68, pI_71, pI_72, pI_74, ld_81, ld_16, aL_16, lX11_keep_7, hZ, says_at]
    · obtain ⟨m', j1, j2, j3⟩ := ih n (x + 1) (u2 μ.1 77 x.toNat (ii (v x)), μ.2) (by push_cast at h1; omega) (by omega) (by omega) (by omega) (RZ_fr (by simp (disch := omega) only [u2_offr]) hR) (fun k h5 h6 => by
        by_cases hk : k = x
        · subst hk
          simp (disch := omega) only [u2_at]
        · simp (disch := omega) only [u2_off]
          exact hA k h5 (by omega))
      refine ⟨m', ?_, fun b hb => (j2 b hb).trans (by simp (disch := omega) only [u2_offr]), j3⟩
      rw [← j1]
      simp (disch := omega) only [Option.bind_some, km1, k0, k1, k2, k3, k4, k5, k6, k7, k8, k9, k10, k11, k15, k16, k20, k32, k33, k39, k40, k43, k44, k45, k48, k49, k50, k51, k52, k57, k59, k60, k63, k64, k80, k97, k100, k101, k108, k112, k114, k117, k126, k130, k650, k100000, k1000000, ii_add, ii_sub, ii_neg, ii_mul, ii_lt, ii_le, ii_eq, if_true, if_false, if_pos, if_neg, gI_0, gI_1, gI_2, gI_4, gI_7, gI_15, gI_59, gI_61, gI_62, gI_66, gI_68, gI_71, gI_72, gI_74, gR_0_0, gR_0_1, gR_0_3, gR_0_4, gR_0_5, gR_0_6, gR_0_7, gR_0_8, gR_1_0, gR_1_1, gR_1_2, gR_2_0, gR_4_0, gR_4_1, gR_15_0, gR_59_0, gR_61_0, gR_61_1, gR_61_2, gR_62_0, gR_62_1, gR_62_2, gR_66_0, gR_66_1, gR_68_0, gR_68_1, gR_71_0, gR_72_0, gR_74_0, gR_74_1, gR_74_3, gR_74_5, gR_74_7, gR_74_8, gR_74_9, gR_74_15, ld_3, ld_5, ld_6, ld_60, ld_63, ld_64, ld_65, ld_67, ld_69, ld_70, ld_73, ld_75, ld_76, ld_77, ld_78, ld_79, ld_80, ld_82, st_3, st_5, st_6, st_60, st_63, st_64, st_65, st_67, st_69, st_70, st_73, st_75, st_76, st_77, st_78, st_79, st_80, st_82, aL_3, aL_5, aL_6, aL_60, aL_63, aL_64, aL_65, aL_67, aL_69, aL_70, aL_73, aL_75, aL_76, aL_77, aL_78, aL_79, aL_80, aL_82, pI_0, pI_1, pI_2, pI_4, pI_7, pI_15, pI_59, pI_61, pI_62, pI_66, pI_68, pI_71, pI_72, pI_74, ld_81, ld_16, aL_16, lX11_keep_7, hZ]
theorem rest_loop {v : Int → Int} : ∀ (f n : Nat) (x : Int) (μ : mMm), 130 - x ≤ f → f < n → 0 ≤ x → x ≤ 130 → RM μ.1 77 0 v → (∀ k, 0 ≤ k → k < x → μ.1 75 k.toNat = ii (v k)) → ∃ m', lX11_restore_19 oS n μ 74 (ii x) = some (ii (v 0), (m', μ.2)) ∧ (∀ b, b ≠ 75 → m' b = μ.1 b) ∧ RZ m' v := by
  intro f
  induction f with
  | zero =>
    intro n x μ h1 h2 h3 h4 hM hA
    obtain ⟨n, rfl⟩ : ∃ k, n = k + 1 := ⟨n - 1, by omega⟩
    have : x = 130 := by push_cast at h1; omega
    subst this
    have h0 : μ.1 75 (0 : Int).toNat = ii (v 0) := hA 0 (by omega) (by omega)
    refine ⟨μ.1, ?_, fun _ _ => rfl, hA⟩
    simp (disch := omega) only [Option.bind_some, km1, k0, k1, k2, k3, k4, k5, k6, k7, k8, k9, k10, k11, k15, k16, k20, k32, k33, k39, k40, k43, k44, k45, k48, k49, k50, k51, k52, k57, k59, k60, k63, k64, k80, k97, k100, k101, k108, k112, k114, k117, k126, k130, k650, k100000, k1000000, ii_add, ii_sub, ii_neg, ii_mul, ii_lt, ii_le, ii_eq, if_true, if_false, if_pos, if_neg, gI_0, gI_1, gI_2, gI_4, gI_7, gI_15, gI_59, gI_61, gI_62, gI_66, gI_68, gI_71, gI_72, gI_74, gR_0_0, gR_0_1, gR_0_3, gR_0_4, gR_0_5, gR_0_6, gR_0_7, gR_0_8, gR_1_0, gR_1_1, gR_1_2, gR_2_0, gR_4_0, gR_4_1, gR_15_0, gR_59_0, gR_61_0, gR_61_1, gR_61_2, gR_62_0, gR_62_1, gR_62_2, gR_66_0, gR_66_1, gR_68_0, gR_68_1, gR_71_0, gR_72_0, gR_74_0, gR_74_1, gR_74_3, gR_74_5, gR_74_7, gR_74_8, gR_74_9, gR_74_15, ld_3, ld_5, ld_6, ld_60, ld_63, ld_64, ld_65, ld_67, ld_69, ld_70, ld_73, ld_75, ld_76, ld_77, ld_78, ld_79, ld_80, ld_82, st_3, st_5, st_6, st_60, st_63, st_64, st_65, st_67, st_69, st_70, st_73, st_75, st_76, st_77, st_78, st_79, st_80, st_82, aL_3, aL_5, aL_6, aL_60, aL_63, aL_64, aL_65, aL_67, aL_69, aL_70, aL_73, aL_75, aL_76, aL_77, aL_78, aL_79, aL_80, aL_82, pI_0, pI_1, pI_2, pI_4, pI_7, pI_15, pI_59, pI_61, pI_62, pI_66, pI_68, pI_71, pI_72, pI_74, ld_81, ld_16, aL_16, lX11_restore_19, h0]
  | succ f ih =>
    intro n x μ h1 h2 h3 h4 hM hA
    obtain ⟨n, rfl⟩ : ∃ k, n = k + 1 := ⟨n - 1, by omega⟩
    by_cases hx : x = 130
    · subst hx
      have h0 : μ.1 75 (0 : Int).toNat = ii (v 0) := hA 0 (by omega) (by omega)
      refine ⟨μ.1, ?_, fun _ _ => rfl, hA⟩
      simp (disch := omega) only [Option.bind_some, km1, k0, k1, k2, k3, k4, k5, k6, k7, k8, k9, k10, k11, k15, k16, k20, k32, k33, k39, k40, k43, k44, k45, k48, k49, k50, k51, k52, k57, k59, k60, k63, k64, k80, k97, k100, k101, k108, k112, k114, k117, k126, k130, k650, k100000, k1000000, ii_add, ii_sub, ii_neg, ii_mul, ii_lt, ii_le, ii_eq, if_true, if_false, if_pos, if_neg, gI_0, gI_1, gI_2, gI_4, gI_7, gI_15, gI_59, gI_61, gI_62, gI_66, gI_68, gI_71, gI_72, gI_74, gR_0_0, gR_0_1, gR_0_3, gR_0_4, gR_0_5, gR_0_6, gR_0_7, gR_0_8, gR_1_0, gR_1_1, gR_1_2, gR_2_0, gR_4_0, gR_4_1, gR_15_0, gR_59_0, gR_61_0, gR_61_1, gR_61_2, gR_62_0, gR_62_1, gR_62_2, gR_66_0, gR_66_1, gR_68_0, gR_68_1, gR_71_0, gR_72_0, gR_74_0, gR_74_1, gR_74_3, gR_74_5, gR_74_7, gR_74_8, gR_74_9, gR_74_15, ld_3, ld_5, ld_6, ld_60, ld_63, ld_64, ld_65, ld_67, ld_69, ld_70, ld_73, ld_75, ld_76, ld_77, ld_78, ld_79, ld_80, ld_82, st_3, st_5, st_6, st_60, st_63, st_64, st_65, st_67, st_69, st_70, st_73, st_75, st_76, st_77, st_78, st_79, st_80, st_82, aL_3, aL_5, aL_6, aL_60, aL_63, aL_64, aL_65, aL_67, aL_69, aL_70, aL_73, aL_75, aL_76, aL_77, aL_78, aL_79, aL_80, aL_82, pI_0, pI_1, pI_2, pI_4, pI_7, pI_15, pI_59, pI_61, pI_62, pI_66, pI_68, pI_71, pI_72, pI_74, ld_81, ld_16, aL_16, lX11_restore_19, h0]
    · have q1 := hM x h3 (by omega)
      rw [Int.zero_add] at q1
      obtain ⟨m', j1, j2, j3⟩ := ih n (x + 1) (u2 μ.1 75 x.toNat (ii (v x)), μ.2) (by push_cast at h1; omega) (by omega) (by omega) (by omega) (fun k h5 h6 => by simp (disch := omega) only [u2_offr]; exact hM k h5 h6) (fun k h5 h6 => by
        by_cases hk : k = x
        · subst hk
          simp (disch := omega) only [u2_at]
        · simp (disch := omega) only [u2_off]
          exact hA k h5 (by omega))
      refine ⟨m', ?_, fun b hb => (j2 b hb).trans (by simp (disch := omega) only [u2_offr]), j3⟩
      rw [← j1]
      simp (disch := omega) only [Option.bind_some, km1, k0, k1, k2, k3, k4, k5, k6, k7, k8, k9, k10, k11, k15, k16, k20, k32, k33, k39, k40, k43, k44, k45, k48, k49, k50, k51, k52, k57, k59, k60, k63, k64, k80, k97, k100, k101, k108, k112, k114, k117, k126, k130, k650, k100000, k1000000, ii_add, ii_sub, ii_neg, ii_mul, ii_lt, ii_le, ii_eq, if_true, if_false, if_pos, if_neg, gI_0, gI_1, gI_2, gI_4, gI_7, gI_15, gI_59, gI_61, gI_62, gI_66, gI_68, gI_71, gI_72, gI_74, gR_0_0, gR_0_1, gR_0_3, gR_0_4, gR_0_5, gR_0_6, gR_0_7, gR_0_8, gR_1_0, gR_1_1, gR_1_2, gR_2_0, gR_4_0, gR_4_1, gR_15_0, gR_59_0, gR_61_0, gR_61_1, gR_61_2, gR_62_0, gR_62_1, gR_62_2, gR_66_0, gR_66_1, gR_68_0, gR_68_1, gR_71_0, gR_72_0, gR_74_0, gR_74_1, gR_74_3, gR_74_5, gR_74_7, gR_74_8, gR_74_9, gR_74_15, ld_3, ld_5, ld_6, ld_60, ld_63, ld_64, ld_65, ld_67, ld_69, ld_70, ld_73, ld_75, ld_76, ld_77, ld_78, ld_79, ld_80, ld_82, st_3, st_5, st_6, st_60, st_63, st_64, st_65, st_67, st_69, st_70, st_73, st_75, st_76, st_77, st_78, st_79, st_80, st_82, aL_3, aL_5, aL_6, aL_60, aL_63, aL_64, aL_65, aL_67, aL_69, aL_70, aL_73, aL_75, aL_76, aL_77, aL_78, aL_79, aL_80, aL_82, pI_0, pI_1, pI_2, pI_4, pI_7, pI_15, pI_59, pI_61, pI_62, pI_66, pI_68, pI_71, pI_72, pI_74, ld_81, ld_16, aL_16, lX11_restore_19, q1]
variable {μ : mMm} {A : AS} {q q2 : Int}
theorem rUndo_e1 (h1 : μ.1 74 2 = ii 0) : bX11_undo oS μ 74 = lX11_undo_13 oS μ 74 (0 : Int32) 74 := by
  unfold bX11_undo
  rw [gI_74, Option.bind_some, h1, k0]
  exact if_pos ((ii_le (by omega) (by omega) (by omega) (by omega)).mpr (by omega))
theorem rUndo_e2 : lX11_undo_13 oS μ 74 (ii 0) 74 = some (ii 0, (u2 μ.1 74 11 (ii 1), μ.2)) := by
  unfold lX11_undo_13
  rw [asks0, Option.bind_some, k0]
  exact if_pos rfl
theorem rUndo_f1 {c : Int} (h1 : μ.1 74 2 = ii c) (h0 : 0 < c) (h6 : c ≤ 6) : bX11_undo oS μ 74 = lX11_undo_13 oS μ 74 (1 : Int32) 74 := by
  unfold bX11_undo
  rw [gI_74, Option.bind_some, h1, k0]
  exact if_neg (fun h => by
    have := (ii_le (by omega) (by omega) (by omega) (by omega)).mp h
    omega)
theorem rUndo_f2 {c : Int} (h1 : μ.1 74 2 = ii c) : lX11_undo_13 oS μ 74 (ii 1) 74 = lX11_undo_33 oS FU (u2 (u2 μ.1 74 11 (ii 0)) 74 2 (ii (c - 1)), μ.2) 74 (ii 0) := by
  have hne : ¬ (ii 1 = ii 0) := by decide
  have e : (u2 μ.1 74 11 (ii 0)) 74 2 = ii c := (u2_off (by omega)).trans h1
  unfold lX11_undo_13
  generalize lX11_undo_33 oS FU = K
  rw [asks1, Option.bind_some]
  dsimp only
  rw [k0, if_neg hne, gI_74, Option.bind_some, pI_74, Option.bind_some]
  dsimp only
  rw [e, k1, ii_sub]
theorem rUndo_1 (hI : RI μ.1 A) (hc : ¬ 0 < A.c) : RV (fX11_undo oS μ 74) μ 1 0 A := by
  have h1 : μ.1 74 2 = ii A.c := hI.2.1.1
  have h2 : 0 ≤ A.c ∧ A.c ≤ 6 := hI.2.1.2.1
  have h3 : A.c = 0 := by omega
  rw [h3] at h1
  refine ⟨u2 μ.1 74 11 (ii 1), ?_, fun a ha => by simp (disch := omega) only [u2_offr], u2_at rfl rfl, RI_w hI⟩
  unfold fX11_undo
  rw [if_pos o74, rUndo_e1 h1, k0, rUndo_e2]
theorem rUndo (hI : RI μ.1 A) (hc : 0 < A.c) : RV (fX11_undo oS μ 74) μ 0 (A.c - 1) (popA A) := by
  obtain ⟨c1, ⟨p1, p2, p3⟩, c3, c4, c5, c6⟩ := hI
  have p0 := p3 0 hc
  obtain ⟨m', j1, j2, j3⟩ := undo_loop (c := A.c - 1) (v := A.H 0) (by omega) (by omega) 130 FU 0 (u2 (u2 μ.1 74 11 (ii 0)) 74 2 (ii (A.c - 1)), μ.2) (by omega) (by decide) (by omega) (by omega) (show u2 (u2 μ.1 74 11 (ii 0)) 74 2 (ii (A.c - 1)) 74 2 = ii (A.c - 1) from u2_at rfl rfl) (fun k h5 h6 => by
    simp (disch := omega) only [u2_offr]
    rw [show (A.c - 1) * 130 = (A.c - 1 - ((0 : Nat) : Int)) * 130 by omega]
    exact p0 k h5 h6) (fun k h5 h6 => by omega)
  have k : ∀ b, b ≠ 75 → b ≠ 74 → m' b = μ.1 b := fun b hb hb1 => (j2 b hb).trans (by simp (disch := omega) only [u2_offr])
  have k74 : ∀ f, f ≠ 11 → f ≠ 2 → m' 74 f = μ.1 74 f := fun f hf hf2 => (congrFun (j2 74 (by omega)) f).trans (by simp (disch := omega) only [u2_off])
  refine ⟨m', ?_, fun a ha => k a (by omega) (by omega), (congrFun (j2 74 (by omega)) 11).trans (by simp (disch := omega) only [u2_off, u2_at]), j3, ⟨(congrFun (j2 74 (by omega)) 2).trans (by simp (disch := omega) only [u2_at]; rfl), ?_, fun i hi => ?_⟩, ?_, fun hs x h7 h8 => ?_, ?_, fun j h7 h8 => ?_⟩
  · unfold fX11_undo
    rw [if_pos o74, rUndo_f1 p1 hc p2.2, k1, rUndo_f2 p1]
    exact j1
  · show 0 ≤ A.c - 1 ∧ A.c - 1 ≤ 6
    omega
  · have hi2 : (i : Int) < A.c - 1 := hi
    have r := p3 (i + 1) (by omega)
    show RM m' 76 ((A.c - 1 - 1 - (i : Int)) * 130) (A.H (i + 1))
    rw [show (A.c - 1 - 1 - (i : Int)) * 130 = (A.c - 1 - ((i + 1 : Nat) : Int)) * 130 by omega]
    intro x h7 h8
    rw [k 76 (by omega) (by omega)]
    exact r x h7 h8
  · exact (k74 4 (by omega) (by omega)).trans c3
  · rw [k 77 (by omega) (by omega)]
    exact c4 hs x h7 h8
  · exact (k74 10 (by omega) (by omega)).trans c5
  · rw [k 81 (by omega) (by omega)]
    exact c6 j h7 h8
theorem rKeep (hI : RI μ.1 A) : RV (fX11_keep oS μ 74) μ 0 (A.v 0) (A.ss A.v) := by
  obtain ⟨c1, ⟨p1, p2, p3⟩, c3, c4, c5, c6⟩ := hI
  obtain ⟨m', j1, j2, j3⟩ := keep_loop (v := A.v) 130 FU 0 (u2 μ.1 74 4 (ii 1), μ.2) (by omega) (by decide) (by omega) (by omega) (RZ_fr (by simp (disch := omega) only [u2_offr]) c1) (fun k h5 h6 => by omega)
  have k : ∀ b, b ≠ 77 → b ≠ 74 → (u2 m' 74 11 (ii 0)) b = μ.1 b := fun b hb hb1 => by
    simp (disch := omega) only [u2_offr]
    exact (j2 b hb).trans (by simp (disch := omega) only [u2_offr])
  have k74 : ∀ f, f ≠ 11 → f ≠ 4 → (u2 m' 74 11 (ii 0)) 74 f = μ.1 74 f := fun f hf hf2 => by
    simp (disch := omega) only [u2_off]
    exact (congrFun (j2 74 (by omega)) f).trans (by simp (disch := omega) only [u2_off])
  refine ⟨u2 m' 74 11 (ii 0), ?_, fun a ha => k a (by omega) (by omega), u2_at rfl rfl, RZ_fr (k 75 (by omega) (by omega)) c1, ⟨(k74 2 (by omega) (by omega)).trans p1, p2, fun i hi x h7 h8 => ?_⟩, ?_, fun hs x h7 h8 => ?_, (k74 10 (by omega) (by omega)).trans c5, fun j h7 h8 => ?_⟩
  · unfold fX11_keep bX11_keep
    simp (disch := omega) only [Option.bind_some, km1, k0, k1, k2, k3, k4, k5, k6, k7, k8, k9, k10, k11, k15, k16, k20, k32, k33, k39, k40, k43, k44, k45, k48, k49, k50, k51, k52, k57, k59, k60, k63, k64, k80, k97, k100, k101, k108, k112, k114, k117, k126, k130, k650, k100000, k1000000, ii_add, ii_sub, ii_neg, ii_mul, ii_lt, ii_le, ii_eq, if_true, if_false, if_pos, if_neg, gI_0, gI_1, gI_2, gI_4, gI_7, gI_15, gI_59, gI_61, gI_62, gI_66, gI_68, gI_71, gI_72, gI_74, gR_0_0, gR_0_1, gR_0_3, gR_0_4, gR_0_5, gR_0_6, gR_0_7, gR_0_8, gR_1_0, gR_1_1, gR_1_2, gR_2_0, gR_4_0, gR_4_1, gR_15_0, gR_59_0, gR_61_0, gR_61_1, gR_61_2, gR_62_0, gR_62_1, gR_62_2, gR_66_0, gR_66_1, gR_68_0, gR_68_1, gR_71_0, gR_72_0, gR_74_0, gR_74_1, gR_74_3, gR_74_5, gR_74_7, gR_74_8, gR_74_9, gR_74_15, ld_3, ld_5, ld_6, ld_60, ld_63, ld_64, ld_65, ld_67, ld_69, ld_70, ld_73, ld_75, ld_76, ld_77, ld_78, ld_79, ld_80, ld_82, st_3, st_5, st_6, st_60, st_63, st_64, st_65, st_67, st_69, st_70, st_73, st_75, st_76, st_77, st_78, st_79, st_80, st_82, aL_3, aL_5, aL_6, aL_60, aL_63, aL_64, aL_65, aL_67, aL_69, aL_70, aL_73, aL_75, aL_76, aL_77, aL_78, aL_79, aL_80, aL_82, pI_0, pI_1, pI_2, pI_4, pI_7, pI_15, pI_59, pI_61, pI_62, pI_66, pI_68, pI_71, pI_72, pI_74, ld_81, ld_16, aL_16, if_pos o74]
    exact j1
  · rw [k 76 (by omega) (by omega)]
    exact p3 i hi x h7 h8
  · simp (disch := omega) only [u2_off]
    exact (congrFun (j2 74 (by omega)) 4).trans (by simp (disch := omega) only [u2_at]; rfl)
  · simp (disch := omega) only [u2_offr]
    exact j3 x h7 h8
  · rw [k 81 (by omega) (by omega)]
    exact c6 j h7 h8
theorem rRestore_1 (hI : RI μ.1 A) (hs : A.s = 0) : RV (fX11_restore oS μ 74) μ 1 0 A := by
  have h1 := hI.2.2.1
  rw [hs] at h1
  refine ⟨u2 μ.1 74 11 (ii 1), ?_, fun a ha => by simp (disch := omega) only [u2_offr], u2_at rfl rfl, RI_w hI⟩
  unfold fX11_restore bX11_restore
  simp (disch := omega) only [Option.bind_some, km1, k0, k1, k2, k3, k4, k5, k6, k7, k8, k9, k10, k11, k15, k16, k20, k32, k33, k39, k40, k43, k44, k45, k48, k49, k50, k51, k52, k57, k59, k60, k63, k64, k80, k97, k100, k101, k108, k112, k114, k117, k126, k130, k650, k100000, k1000000, ii_add, ii_sub, ii_neg, ii_mul, ii_lt, ii_le, ii_eq, if_true, if_false, if_pos, if_neg, gI_0, gI_1, gI_2, gI_4, gI_7, gI_15, gI_59, gI_61, gI_62, gI_66, gI_68, gI_71, gI_72, gI_74, gR_0_0, gR_0_1, gR_0_3, gR_0_4, gR_0_5, gR_0_6, gR_0_7, gR_0_8, gR_1_0, gR_1_1, gR_1_2, gR_2_0, gR_4_0, gR_4_1, gR_15_0, gR_59_0, gR_61_0, gR_61_1, gR_61_2, gR_62_0, gR_62_1, gR_62_2, gR_66_0, gR_66_1, gR_68_0, gR_68_1, gR_71_0, gR_72_0, gR_74_0, gR_74_1, gR_74_3, gR_74_5, gR_74_7, gR_74_8, gR_74_9, gR_74_15, ld_3, ld_5, ld_6, ld_60, ld_63, ld_64, ld_65, ld_67, ld_69, ld_70, ld_73, ld_75, ld_76, ld_77, ld_78, ld_79, ld_80, ld_82, st_3, st_5, st_6, st_60, st_63, st_64, st_65, st_67, st_69, st_70, st_73, st_75, st_76, st_77, st_78, st_79, st_80, st_82, aL_3, aL_5, aL_6, aL_60, aL_63, aL_64, aL_65, aL_67, aL_69, aL_70, aL_73, aL_75, aL_76, aL_77, aL_78, aL_79, aL_80, aL_82, pI_0, pI_1, pI_2, pI_4, pI_7, pI_15, pI_59, pI_61, pI_62, pI_66, pI_68, pI_71, pI_72, pI_74, ld_81, ld_16, aL_16, if_pos o74, h1, asks0]
theorem rRestore (hI : RI μ.1 A) (hs : A.s = 1) : RV (fX11_restore oS μ 74) μ 0 (A.K 0) (chg A A.K) := by
  have h1 := hI.2.2.1
  rw [hs] at h1
  obtain ⟨m1, i1, i2, i3, i4⟩ := rrec (μ := (u2 μ.1 74 11 (ii 0), μ.2)) (RI_w hI)
  have h11 : m1 74 11 = ii 0 := (i3 11 (by omega)).trans w11
  have fr : ∀ a, a < 74 → m1 a = μ.1 a := fun a ha => (i2 a (by omega) (by omega)).trans (by simp (disch := omega) only [u2_offr])
  obtain ⟨m', j1, j2, j3⟩ := rest_loop (v := A.K) 130 FU 0 (m1, μ.2) (by omega) (by decide) (by omega) (by omega) (i4.2.2.2.1 hs) (fun k h5 h6 => by omega)
  refine ⟨m', ?_, fun a ha => (j2 a (by omega)).trans (fr a ha), (congrFun (j2 74 (by omega)) 11).trans h11, RI_75 i4 j2 j3⟩
  unfold fX11_restore bX11_restore
  simp (disch := omega) only [Option.bind_some, km1, k0, k1, k2, k3, k4, k5, k6, k7, k8, k9, k10, k11, k15, k16, k20, k32, k33, k39, k40, k43, k44, k45, k48, k49, k50, k51, k52, k57, k59, k60, k63, k64, k80, k97, k100, k101, k108, k112, k114, k117, k126, k130, k650, k100000, k1000000, ii_add, ii_sub, ii_neg, ii_mul, ii_lt, ii_le, ii_eq, if_true, if_false, if_pos, if_neg, gI_0, gI_1, gI_2, gI_4, gI_7, gI_15, gI_59, gI_61, gI_62, gI_66, gI_68, gI_71, gI_72, gI_74, gR_0_0, gR_0_1, gR_0_3, gR_0_4, gR_0_5, gR_0_6, gR_0_7, gR_0_8, gR_1_0, gR_1_1, gR_1_2, gR_2_0, gR_4_0, gR_4_1, gR_15_0, gR_59_0, gR_61_0, gR_61_1, gR_61_2, gR_62_0, gR_62_1, gR_62_2, gR_66_0, gR_66_1, gR_68_0, gR_68_1, gR_71_0, gR_72_0, gR_74_0, gR_74_1, gR_74_3, gR_74_5, gR_74_7, gR_74_8, gR_74_9, gR_74_15, ld_3, ld_5, ld_6, ld_60, ld_63, ld_64, ld_65, ld_67, ld_69, ld_70, ld_73, ld_75, ld_76, ld_77, ld_78, ld_79, ld_80, ld_82, st_3, st_5, st_6, st_60, st_63, st_64, st_65, st_67, st_69, st_70, st_73, st_75, st_76, st_77, st_78, st_79, st_80, st_82, aL_3, aL_5, aL_6, aL_60, aL_63, aL_64, aL_65, aL_67, aL_69, aL_70, aL_73, aL_75, aL_76, aL_77, aL_78, aL_79, aL_80, aL_82, pI_0, pI_1, pI_2, pI_4, pI_7, pI_15, pI_59, pI_61, pI_62, pI_66, pI_68, pI_71, pI_72, pI_74, ld_81, ld_16, aL_16, if_pos o74, h1, asks1, i1]
  exact j1
theorem RI_sb {m m' : Nat → Nat → Int32} {b : Int} {Y : Int → Int} (hI : RI m A) (h : ∀ a, a = 75 ∨ a = 76 ∨ a = 77 → m' a = m a) (hf : ∀ k, k = 2 ∨ k = 4 → m' 74 k = m 74 k) (hb : m' 74 10 = ii b) (hY : ∀ j, 0 ≤ j → j < b → m' 81 j.toNat = ii (Y j)) : RI m' (A.sb b Y) := by
  obtain ⟨c1, c2, c3, c4, c5, c6⟩ := hI
  refine ⟨RZ_fr (h 75 (by omega)) c1, RP_fr (hf 2 (by omega)) (h 76 (by omega)) c2, (hf 4 (by omega)).trans c3, fun hs x h7 h8 => ?_, hb, hY⟩
  rw [h 77 (by omega)]
  exact c4 hs x h7 h8
theorem rClear (hI : RI μ.1 A) : RV (fX11_clearBuffer oS μ 74) μ 0 A.b (A.sb 0 A.Y) := by
  have hb := hI.2.2.2.2.1
  refine ⟨u2 (u2 μ.1 74 10 (ii 0)) 74 11 (ii 0), ?_, fun a ha => by simp (disch := omega) only [u2_offr], u2_at rfl rfl, RI_sb hI (fun a ha => by simp (disch := omega) only [u2_offr]) (fun k hk => by simp (disch := omega) only [u2_off]) (by simp (disch := omega) only [u2_off, u2_at]) (fun j h7 h8 => by omega)⟩
  unfold fX11_clearBuffer bX11_clearBuffer
  simp (disch := omega) only [Option.bind_some, km1, k0, k1, k2, k3, k4, k5, k6, k7, k8, k9, k10, k11, k15, k16, k20, k32, k33, k39, k40, k43, k44, k45, k48, k49, k50, k51, k52, k57, k59, k60, k63, k64, k80, k97, k100, k101, k108, k112, k114, k117, k126, k130, k650, k100000, k1000000, ii_add, ii_sub, ii_neg, ii_mul, ii_lt, ii_le, ii_eq, if_true, if_false, if_pos, if_neg, gI_0, gI_1, gI_2, gI_4, gI_7, gI_15, gI_59, gI_61, gI_62, gI_66, gI_68, gI_71, gI_72, gI_74, gR_0_0, gR_0_1, gR_0_3, gR_0_4, gR_0_5, gR_0_6, gR_0_7, gR_0_8, gR_1_0, gR_1_1, gR_1_2, gR_2_0, gR_4_0, gR_4_1, gR_15_0, gR_59_0, gR_61_0, gR_61_1, gR_61_2, gR_62_0, gR_62_1, gR_62_2, gR_66_0, gR_66_1, gR_68_0, gR_68_1, gR_71_0, gR_72_0, gR_74_0, gR_74_1, gR_74_3, gR_74_5, gR_74_7, gR_74_8, gR_74_9, gR_74_15, ld_3, ld_5, ld_6, ld_60, ld_63, ld_64, ld_65, ld_67, ld_69, ld_70, ld_73, ld_75, ld_76, ld_77, ld_78, ld_79, ld_80, ld_82, st_3, st_5, st_6, st_60, st_63, st_64, st_65, st_67, st_69, st_70, st_73, st_75, st_76, st_77, st_78, st_79, st_80, st_82, aL_3, aL_5, aL_6, aL_60, aL_63, aL_64, aL_65, aL_67, aL_69, aL_70, aL_73, aL_75, aL_76, aL_77, aL_78, aL_79, aL_80, aL_82, pI_0, pI_1, pI_2, pI_4, pI_7, pI_15, pI_59, pI_61, pI_62, pI_66, pI_68, pI_71, pI_72, pI_74, ld_81, ld_16, aL_16, if_pos o74, hb, says_at]
