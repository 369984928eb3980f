/-! the rest of a part -/
variable {μ : mMm} {b : Int} {Y : Int → Int}
theorem rp_281 {r : Int} (hm : μ.1 74 16 = ii r) : lX11_readPart_281 oS μ 74 = some (u2 μ.1 74 16 (ii (r + 1)), μ.2) := by
  unfold lX11_readPart_281
  simp (disch := omega) only [Option.bind_some, km1, k0, k1, k2, k3, k4, k5, k6, k7, k8, k9, k10, k11, k15, k16, k20, k32, k33, k39, k40, k43, k44, k45, k48, k49, k50, k51, k52, k57, k59, k60, k63, k64, k80, k97, k100, k101, k108, k112, k114, k117, k126, k130, k650, k100000, k1000000, ii_add, ii_sub, ii_neg, ii_mul, ii_lt, ii_le, ii_eq, if_true, if_false, if_pos, if_neg, gI_0, gI_1, gI_2, gI_4, gI_7, gI_15, gI_59, gI_61, gI_62, gI_66, gI_68, gI_71, gI_72, gI_74, gR_0_0, gR_0_1, gR_0_3, gR_0_4, gR_0_5, gR_0_6, gR_0_7, gR_0_8, gR_1_0, gR_1_1, gR_1_2, gR_2_0, gR_4_0, gR_4_1, gR_15_0, gR_59_0, gR_61_0, gR_61_1, gR_61_2, gR_62_0, gR_62_1, gR_62_2, gR_66_0, gR_66_1, gR_68_0, gR_68_1, gR_71_0, gR_72_0, gR_74_0, gR_74_1, gR_74_3, gR_74_5, gR_74_7, gR_74_8, gR_74_9, gR_74_15, ld_3, ld_5, ld_6, ld_60, ld_63, ld_64, ld_65, ld_67, ld_69, ld_70, ld_73, ld_75, ld_76, ld_77, ld_78, ld_79, ld_80, ld_82, st_3, st_5, st_6, st_60, st_63, st_64, st_65, st_67, st_69, st_70, st_73, st_75, st_76, st_77, st_78, st_79, st_80, st_82, aL_3, aL_5, aL_6, aL_60, aL_63, aL_64, aL_65, aL_67, aL_69, aL_70, aL_73, aL_75, aL_76, aL_77, aL_78, aL_79, aL_80, aL_82, pI_0, pI_1, pI_2, pI_4, pI_7, pI_15, pI_59, pI_61, pI_62, pI_66, pI_68, pI_71, pI_72, pI_74, ld_81, ld_16, aL_16, hm]
theorem rp_281n {m : Nat → Nat → Int32} {l : Nat → Nat → Int64} {w i r : Int} (hm : m 74 16 = ii r) : lX11_readPart_281 oS (nx m w i, l) 74 = some (u2 (nx m w i) 74 16 (ii (r + 1)), l) := by
  have h : nx m w i 74 16 = ii r := by
    unfold nx
    simp (disch := omega) only [u2_off]
    exact hm
  exact rp_281 (μ := (nx m w i, l)) h
theorem rp_none {r c x : Int} (hm : μ.1 74 16 = ii r) (hc0 : -1 ≤ c) (hc : c ≤ 126) (h1 : c ≠ 112) (h2 : c ≠ 108) (h3 : c ≠ 114) : lX11_readPart_153 oS μ 74 (ii x) (ii c) = some (u2 μ.1 74 16 (ii (r + 1)), μ.2) := by
  have e := rp_281 (μ := μ) hm
  unfold lX11_readPart_153 lX11_readPart_191 lX11_readPart_229
  simp (disch := omega) only [Option.bind_some, km1, k0, k1, k2, k3, k4, k5, k6, k7, k8, k9, k10, k11, k15, k16, k20, k32, k33, k39, k40, k43, k44, k45, k48, k49, k50, k51, k52, k57, k59, k60, k63, k64, k80, k97, k100, k101, k108, k112, k114, k117, k126, k130, k650, k100000, k1000000, ii_add, ii_sub, ii_neg, ii_mul, ii_lt, ii_le, ii_eq, if_true, if_false, if_pos, if_neg, gI_0, gI_1, gI_2, gI_4, gI_7, gI_15, gI_59, gI_61, gI_62, gI_66, gI_68, gI_71, gI_72, gI_74, gR_0_0, gR_0_1, gR_0_3, gR_0_4, gR_0_5, gR_0_6, gR_0_7, gR_0_8, gR_1_0, gR_1_1, gR_1_2, gR_2_0, gR_4_0, gR_4_1, gR_15_0, gR_59_0, gR_61_0, gR_61_1, gR_61_2, gR_62_0, gR_62_1, gR_62_2, gR_66_0, gR_66_1, gR_68_0, gR_68_1, gR_71_0, gR_72_0, gR_74_0, gR_74_1, gR_74_3, gR_74_5, gR_74_7, gR_74_8, gR_74_9, gR_74_15, ld_3, ld_5, ld_6, ld_60, ld_63, ld_64, ld_65, ld_67, ld_69, ld_70, ld_73, ld_75, ld_76, ld_77, ld_78, ld_79, ld_80, ld_82, st_3, st_5, st_6, st_60, st_63, st_64, st_65, st_67, st_69, st_70, st_73, st_75, st_76, st_77, st_78, st_79, st_80, st_82, aL_3, aL_5, aL_6, aL_60, aL_63, aL_64, aL_65, aL_67, aL_69, aL_70, aL_73, aL_75, aL_76, aL_77, aL_78, aL_79, aL_80, aL_82, pI_0, pI_1, pI_2, pI_4, pI_7, pI_15, pI_59, pI_61, pI_62, pI_66, pI_68, pI_71, pI_72, pI_74, ld_81, ld_16, aL_16, e]
theorem rp_p (hB : BF μ.1 b Y) (hY : YB b Y) {j r : Int} (hw : WS μ.1 (-1) j) (h0 : 0 ≤ j) (h1 : j ≤ 90) (hm : μ.1 74 16 = ii r) (hr0 : 0 ≤ r) (hr : r ≤ 31) : lX11_readPart_153 oS μ 74 (ii (3 * r)) (ii 112) = some (u2 (nx (u2 μ.1 82 (3 * r + 1).toNat (ii (sg b Y j - 48))) (if 48 ≤ sg b Y j ∧ sg b Y j ≤ 50 then -1 else j) (j + 1)) 74 16 (ii (r + 1)), μ.2) := by
  have sb := sg_b (b := b) (Y := Y) hY h0
  have s := sign_at hB hY hw h0 (by omega)
  have d : fX11_in (ii (sg b Y j - 48)) (ii 0) (ii 2) = _ := in_at (by omega) (by omega) (by omega) (by omega) (by omega) (by omega)
  have hW1 : WS (u2 μ.1 82 (3 * r + 1).toNat (ii (sg b Y j - 48))) (-1) j := WS_82 hw
  have n1 := need_1 (μ := (u2 μ.1 82 (3 * r + 1).toNat (ii (sg b Y j - 48)), μ.2)) hW1 h0 (by omega)
  have n0 := need_0 (μ := (u2 μ.1 82 (3 * r + 1).toNat (ii (sg b Y j - 48)), μ.2)) hW1 h0 (by omega)
  by_cases hc : 48 ≤ sg b Y j ∧ sg b Y j ≤ 50
  · rw [if_pos (by omega)] at d
    rw [if_pos hc]
    have hm1 : (u2 μ.1 82 (3 * r + 1).toNat (ii (sg b Y j - 48))) 74 16 = ii r := (u2_off (by omega)).trans hm
    have e := rp_281n (l := μ.2) (w := (-1)) (i := j + 1) hm1
    unfold lX11_readPart_153 lX11_readPart_191 lX11_readPart_229
    simp (disch := omega) only [Option.bind_some, km1, k0, k1, k2, k3, k4, k5, k6, k7, k8, k9, k10, k11, k15, k16, k20, k32, k33, k39, k40, k43, k44, k45, k48, k49, k50, k51, k52, k57, k59, k60, k63, k64, k80, k97, k100, k101, k108, k112, k114, k117, k126, k130, k650, k100000, k1000000, ii_add, ii_sub, ii_neg, ii_mul, ii_lt, ii_le, ii_eq, if_true, if_false, if_pos, if_neg, gI_0, gI_1, gI_2, gI_4, gI_7, gI_15, gI_59, gI_61, gI_62, gI_66, gI_68, gI_71, gI_72, gI_74, gR_0_0, gR_0_1, gR_0_3, gR_0_4, gR_0_5, gR_0_6, gR_0_7, gR_0_8, gR_1_0, gR_1_1, gR_1_2, gR_2_0, gR_4_0, gR_4_1, gR_15_0, gR_59_0, gR_61_0, gR_61_1, gR_61_2, gR_62_0, gR_62_1, gR_62_2, gR_66_0, gR_66_1, gR_68_0, gR_68_1, gR_71_0, gR_72_0, gR_74_0, gR_74_1, gR_74_3, gR_74_5, gR_74_7, gR_74_8, gR_74_9, gR_74_15, ld_3, ld_5, ld_6, ld_60, ld_63, ld_64, ld_65, ld_67, ld_69, ld_70, ld_73, ld_75, ld_76, ld_77, ld_78, ld_79, ld_80, ld_82, st_3, st_5, st_6, st_60, st_63, st_64, st_65, st_67, st_69, st_70, st_73, st_75, st_76, st_77, st_78, st_79, st_80, st_82, aL_3, aL_5, aL_6, aL_60, aL_63, aL_64, aL_65, aL_67, aL_69, aL_70, aL_73, aL_75, aL_76, aL_77, aL_78, aL_79, aL_80, aL_82, pI_0, pI_1, pI_2, pI_4, pI_7, pI_15, pI_59, pI_61, pI_62, pI_66, pI_68, pI_71, pI_72, pI_74, ld_81, ld_16, aL_16, s, u2_at, d, n1, e]
  · rw [if_neg (by omega)] at d
    rw [if_neg hc]
    have hm1 : (u2 μ.1 82 (3 * r + 1).toNat (ii (sg b Y j - 48))) 74 16 = ii r := (u2_off (by omega)).trans hm
    have e := rp_281n (l := μ.2) (w := j) (i := j + 1) hm1
    unfold lX11_readPart_153 lX11_readPart_191 lX11_readPart_229
    simp (disch := omega) only [Option.bind_some, km1, k0, k1, k2, k3, k4, k5, k6, k7, k8, k9, k10, k11, k15, k16, k20, k32, k33, k39, k40, k43, k44, k45, k48, k49, k50, k51, k52, k57, k59, k60, k63, k64, k80, k97, k100, k101, k108, k112, k114, k117, k126, k130, k650, k100000, k1000000, ii_add, ii_sub, ii_neg, ii_mul, ii_lt, ii_le, ii_eq, if_true, if_false, if_pos, if_neg, gI_0, gI_1, gI_2, gI_4, gI_7, gI_15, gI_59, gI_61, gI_62, gI_66, gI_68, gI_71, gI_72, gI_74, gR_0_0, gR_0_1, gR_0_3, gR_0_4, gR_0_5, gR_0_6, gR_0_7, gR_0_8, gR_1_0, gR_1_1, gR_1_2, gR_2_0, gR_4_0, gR_4_1, gR_15_0, gR_59_0, gR_61_0, gR_61_1, gR_61_2, gR_62_0, gR_62_1, gR_62_2, gR_66_0, gR_66_1, gR_68_0, gR_68_1, gR_71_0, gR_72_0, gR_74_0, gR_74_1, gR_74_3, gR_74_5, gR_74_7, gR_74_8, gR_74_9, gR_74_15, ld_3, ld_5, ld_6, ld_60, ld_63, ld_64, ld_65, ld_67, ld_69, ld_70, ld_73, ld_75, ld_76, ld_77, ld_78, ld_79, ld_80, ld_82, st_3, st_5, st_6, st_60, st_63, st_64, st_65, st_67, st_69, st_70, st_73, st_75, st_76, st_77, st_78, st_79, st_80, st_82, aL_3, aL_5, aL_6, aL_60, aL_63, aL_64, aL_65, aL_67, aL_69, aL_70, aL_73, aL_75, aL_76, aL_77, aL_78, aL_79, aL_80, aL_82, pI_0, pI_1, pI_2, pI_4, pI_7, pI_15, pI_59, pI_61, pI_62, pI_66, pI_68, pI_71, pI_72, pI_74, ld_81, ld_16, aL_16, s, u2_at, d, n0, e]
theorem rp_l (hB : BF μ.1 b Y) (hY : YB b Y) {j r : Int} (hw : WS μ.1 (-1) j) (h0 : 0 ≤ j) (h1 : j ≤ 90) (hm : μ.1 74 16 = ii r) (hr0 : 0 ≤ r) (hr : r ≤ 31) : lX11_readPart_153 oS μ 74 (ii (3 * r)) (ii 108) = some (u2 (nx (u2 μ.1 82 (3 * r + 1).toNat (ii (sg b Y j - 97))) (if 97 ≤ sg b Y j ∧ sg b Y j ≤ 100 then -1 else j) (j + 1)) 74 16 (ii (r + 1)), μ.2) := by
  have sb := sg_b (b := b) (Y := Y) hY h0
  have s := sign_at hB hY hw h0 (by omega)
  have d : fX11_in (ii (sg b Y j - 97)) (ii 0) (ii 3) = _ := in_at (by omega) (by omega) (by omega) (by omega) (by omega) (by omega)
  have hW1 : WS (u2 μ.1 82 (3 * r + 1).toNat (ii (sg b Y j - 97))) (-1) j := WS_82 hw
  have n1 := need_1 (μ := (u2 μ.1 82 (3 * r + 1).toNat (ii (sg b Y j - 97)), μ.2)) hW1 h0 (by omega)
  have n0 := need_0 (μ := (u2 μ.1 82 (3 * r + 1).toNat (ii (sg b Y j - 97)), μ.2)) hW1 h0 (by omega)
  by_cases hc : 97 ≤ sg b Y j ∧ sg b Y j ≤ 100
  · rw [if_pos (by omega)] at d
    rw [if_pos hc]
    have hm1 : (u2 μ.1 82 (3 * r + 1).toNat (ii (sg b Y j - 97))) 74 16 = ii r := (u2_off (by omega)).trans hm
    have e := rp_281n (l := μ.2) (w := (-1)) (i := j + 1) hm1
    unfold lX11_readPart_153 lX11_readPart_191 lX11_readPart_229
    simp (disch := omega) only [Option.bind_some, km1, k0, k1, k2, k3, k4, k5, k6, k7, k8, k9, k10, k11, k15, k16, k20, k32, k33, k39, k40, k43, k44, k45, k48, k49, k50, k51, k52, k57, k59, k60, k63, k64, k80, k97, k100, k101, k108, k112, k114, k117, k126, k130, k650, k100000, k1000000, ii_add, ii_sub, ii_neg, ii_mul, ii_lt, ii_le, ii_eq, if_true, if_false, if_pos, if_neg, gI_0, gI_1, gI_2, gI_4, gI_7, gI_15, gI_59, gI_61, gI_62, gI_66, gI_68, gI_71, gI_72, gI_74, gR_0_0, gR_0_1, gR_0_3, gR_0_4, gR_0_5, gR_0_6, gR_0_7, gR_0_8, gR_1_0, gR_1_1, gR_1_2, gR_2_0, gR_4_0, gR_4_1, gR_15_0, gR_59_0, gR_61_0, gR_61_1, gR_61_2, gR_62_0, gR_62_1, gR_62_2, gR_66_0, gR_66_1, gR_68_0, gR_68_1, gR_71_0, gR_72_0, gR_74_0, gR_74_1, gR_74_3, gR_74_5, gR_74_7, gR_74_8, gR_74_9, gR_74_15, ld_3, ld_5, ld_6, ld_60, ld_63, ld_64, ld_65, ld_67, ld_69, ld_70, ld_73, ld_75, ld_76, ld_77, ld_78, ld_79, ld_80, ld_82, st_3, st_5, st_6, st_60, st_63, st_64, st_65, st_67, st_69, st_70, st_73, st_75, st_76, st_77, st_78, st_79, st_80, st_82, aL_3, aL_5, aL_6, aL_60, aL_63, aL_64, aL_65, aL_67, aL_69, aL_70, aL_73, aL_75, aL_76, aL_77, aL_78, aL_79, aL_80, aL_82, pI_0, pI_1, pI_2, pI_4, pI_7, pI_15, pI_59, pI_61, pI_62, pI_66, pI_68, pI_71, pI_72, pI_74, ld_81, ld_16, aL_16, s, u2_at, d, n1, e]
  · rw [if_neg (by omega)] at d
    rw [if_neg hc]
    have hm1 : (u2 μ.1 82 (3 * r + 1).toNat (ii (sg b Y j - 97))) 74 16 = ii r := (u2_off (by omega)).trans hm
    have e := rp_281n (l := μ.2) (w := j) (i := j + 1) hm1
    unfold lX11_readPart_153 lX11_readPart_191 lX11_readPart_229
    simp (disch := omega) only [Option.bind_some, km1, k0, k1, k2, k3, k4, k5, k6, k7, k8, k9, k10, k11, k15, k16, k20, k32, k33, k39, k40, k43, k44, k45, k48, k49, k50, k51, k52, k57, k59, k60, k63, k64, k80, k97, k100, k101, k108, k112, k114, k117, k126, k130, k650, k100000, k1000000, ii_add, ii_sub, ii_neg, ii_mul, ii_lt, ii_le, ii_eq, if_true, if_false, if_pos, if_neg, gI_0, gI_1, gI_2, gI_4, gI_7, gI_15, gI_59, gI_61, gI_62, gI_66, gI_68, gI_71, gI_72, gI_74, gR_0_0, gR_0_1, gR_0_3, gR_0_4, gR_0_5, gR_0_6, gR_0_7, gR_0_8, gR_1_0, gR_1_1, gR_1_2, gR_2_0, gR_4_0, gR_4_1, gR_15_0, gR_59_0, gR_61_0, gR_61_1, gR_61_2, gR_62_0, gR_62_1, gR_62_2, gR_66_0, gR_66_1, gR_68_0, gR_68_1, gR_71_0, gR_72_0, gR_74_0, gR_74_1, gR_74_3, gR_74_5, gR_74_7, gR_74_8, gR_74_9, gR_74_15, ld_3, ld_5, ld_6, ld_60, ld_63, ld_64, ld_65, ld_67, ld_69, ld_70, ld_73, ld_75, ld_76, ld_77, ld_78, ld_79, ld_80, ld_82, st_3, st_5, st_6, st_60, st_63, st_64, st_65, st_67, st_69, st_70, st_73, st_75, st_76, st_77, st_78, st_79, st_80, st_82, aL_3, aL_5, aL_6, aL_60, aL_63, aL_64, aL_65, aL_67, aL_69, aL_70, aL_73, aL_75, aL_76, aL_77, aL_78, aL_79, aL_80, aL_82, pI_0, pI_1, pI_2, pI_4, pI_7, pI_15, pI_59, pI_61, pI_62, pI_66, pI_68, pI_71, pI_72, pI_74, ld_81, ld_16, aL_16, s, u2_at, d, n0, e]
/-! letters -/
theorem letters_loop {x c : Int} {k : mMm → Option mMm} (hk : ∀ μ : mMm, lX11_readPart_132 oS μ 74 (ii x) (ii c) = k μ) (hY : YB b Y) : ∀ (f n : Nat) (i : Int) (μ : mMm), b - i = f → f < n → 0 ≤ i → BF μ.1 b Y → WS μ.1 (-1) i → ∃ m', lX11_readPart_103 oS n μ 74 (ii x) (ii c) = k (m', μ.2) ∧ WS m' (-1) (lr b Y f i) ∧ NF μ.1 m' := by
  have g := hY.1
  intro f
  induction f with
  | zero =>
    intro n i μ h1 h2 h3 hB hw
    obtain ⟨n, rfl⟩ : ∃ k, n = k + 1 := ⟨n - 1, by omega⟩
    push_cast at h1
    have s := sign_at hB hY hw h3 (by omega)
    have e : sg b Y i = -1 := if_neg (by omega)
    rw [e] at s
    have d : fX11_in (ii (-1)) (ii 97) (ii 100) = some (ii 0) := by decide
    have w := hw.1
    refine ⟨μ.1, ?_, hw, NF.rf⟩
    rw [lX11_readPart_103, ← hk]
    generalize lX11_readPart_103 oS n = K
    generalize lX11_readPart_132 oS = G
    simp (disch := omega) only [Option.bind_some, km1, k0, k1, k2, k3, k4, k5, k6, k7, k8, k9, k10, k11, k15, k16, k20, k32, k33, k39, k40, k43, k44, k45, k48, k49, k50, k51, k52, k57, k59, k60, k63, k64, k80, k97, k100, k101, k108, k112, k114, k117, k126, k130, k650, k100000, k1000000, ii_add, ii_sub, ii_neg, ii_mul, ii_lt, ii_le, ii_eq, if_true, if_false, if_pos, if_neg, gI_0, gI_1, gI_2, gI_4, gI_7, gI_15, gI_59, gI_61, gI_62, gI_66, gI_68, gI_71, gI_72, gI_74, gR_0_0, gR_0_1, gR_0_3, gR_0_4, gR_0_5, gR_0_6, gR_0_7, gR_0_8, gR_1_0, gR_1_1, gR_1_2, gR_2_0, gR_4_0, gR_4_1, gR_15_0, gR_59_0, gR_61_0, gR_61_1, gR_61_2, gR_62_0, gR_62_1, gR_62_2, gR_66_0, gR_66_1, gR_68_0, gR_68_1, gR_71_0, gR_72_0, gR_74_0, gR_74_1, gR_74_3, gR_74_5, gR_74_7, gR_74_8, gR_74_9, gR_74_15, ld_3, ld_5, ld_6, ld_60, ld_63, ld_64, ld_65, ld_67, ld_69, ld_70, ld_73, ld_75, ld_76, ld_77, ld_78, ld_79, ld_80, ld_82, st_3, st_5, st_6, st_60, st_63, st_64, st_65, st_67, st_69, st_70, st_73, st_75, st_76, st_77, st_78, st_79, st_80, st_82, aL_3, aL_5, aL_6, aL_60, aL_63, aL_64, aL_65, aL_67, aL_69, aL_70, aL_73, aL_75, aL_76, aL_77, aL_78, aL_79, aL_80, aL_82, pI_0, pI_1, pI_2, pI_4, pI_7, pI_15, pI_59, pI_61, pI_62, pI_66, pI_68, pI_71, pI_72, pI_74, ld_81, ld_16, aL_16, w, s, d]
  | succ f ih =>
    intro n i μ h1 h2 h3 hB hw
    obtain ⟨n, rfl⟩ : ∃ k, n = k + 1 := ⟨n - 1, by omega⟩
    push_cast at h1
    have s := sign_at hB hY hw h3 (by omega)
    have sb := sg_b (b := b) (Y := Y) hY h3
    have d : fX11_in (ii (sg b Y i)) (ii 97) (ii 100) = _ := in_at (by omega) (by omega) (by omega) (by omega) (by omega) (by omega)
    have w := hw.1
    unfold lr
    by_cases h : 97 ≤ sg b Y i ∧ sg b Y i ≤ 100
    · rw [if_pos h] at d ⊢
      have n1 := need_1 hw h3 (by omega)
      obtain ⟨m', j1, j2, j3⟩ := ih n (i + 1) (nx μ.1 (-1) (i + 1), μ.2) (by omega) (by omega) (by omega) (BF_fr nx_F hB) nx_W
      refine ⟨m', ?_, j2, nx_F.tr j3⟩
      rw [← j1, lX11_readPart_103]
      generalize lX11_readPart_103 oS n = K
      generalize lX11_readPart_132 oS = G
      simp (disch := omega) only [Option.bind_some, km1, k0, k1, k2, k3, k4, k5, k6, k7, k8, k9, k10, k11, k15, k16, k20, k32, k33, k39, k40, k43, k44, k45, k48, k49, k50, k51, k52, k57, k59, k60, k63, k64, k80, k97, k100, k101, k108, k112, k114, k117, k126, k130, k650, k100000, k1000000, ii_add, ii_sub, ii_neg, ii_mul, ii_lt, ii_le, ii_eq, if_true, if_false, if_pos, if_neg, gI_0, gI_1, gI_2, gI_4, gI_7, gI_15, gI_59, gI_61, gI_62, gI_66, gI_68, gI_71, gI_72, gI_74, gR_0_0, gR_0_1, gR_0_3, gR_0_4, gR_0_5, gR_0_6, gR_0_7, gR_0_8, gR_1_0, gR_1_1, gR_1_2, gR_2_0, gR_4_0, gR_4_1, gR_15_0, gR_59_0, gR_61_0, gR_61_1, gR_61_2, gR_62_0, gR_62_1, gR_62_2, gR_66_0, gR_66_1, gR_68_0, gR_68_1, gR_71_0, gR_72_0, gR_74_0, gR_74_1, gR_74_3, gR_74_5, gR_74_7, gR_74_8, gR_74_9, gR_74_15, ld_3, ld_5, ld_6, ld_60, ld_63, ld_64, ld_65, ld_67, ld_69, ld_70, ld_73, ld_75, ld_76, ld_77, ld_78, ld_79, ld_80, ld_82, st_3, st_5, st_6, st_60, st_63, st_64, st_65, st_67, st_69, st_70, st_73, st_75, st_76, st_77, st_78, st_79, st_80, st_82, aL_3, aL_5, aL_6, aL_60, aL_63, aL_64, aL_65, aL_67, aL_69, aL_70, aL_73, aL_75, aL_76, aL_77, aL_78, aL_79, aL_80, aL_82, pI_0, pI_1, pI_2, pI_4, pI_7, pI_15, pI_59, pI_61, pI_62, pI_66, pI_68, pI_71, pI_72, pI_74, ld_81, ld_16, aL_16, w, s, d, n1]
    · rw [if_neg h] at d ⊢
      refine ⟨μ.1, ?_, hw, NF.rf⟩
      rw [lX11_readPart_103, ← hk]
      generalize lX11_readPart_103 oS n = K
      generalize lX11_readPart_132 oS = G
      simp (disch := omega) only [Option.bind_some, km1, k0, k1, k2, k3, k4, k5, k6, k7, k8, k9, k10, k11, k15, k16, k20, k32, k33, k39, k40, k43, k44, k45, k48, k49, k50, k51, k52, k57, k59, k60, k63, k64, k80, k97, k100, k101, k108, k112, k114, k117, k126, k130, k650, k100000, k1000000, ii_add, ii_sub, ii_neg, ii_mul, ii_lt, ii_le, ii_eq, if_true, if_false, if_pos, if_neg, gI_0, gI_1, gI_2, gI_4, gI_7, gI_15, gI_59, gI_61, gI_62, gI_66, gI_68, gI_71, gI_72, gI_74, gR_0_0, gR_0_1, gR_0_3, gR_0_4, gR_0_5, gR_0_6, gR_0_7, gR_0_8, gR_1_0, gR_1_1, gR_1_2, gR_2_0, gR_4_0, gR_4_1, gR_15_0, gR_59_0, gR_61_0, gR_61_1, gR_61_2, gR_62_0, gR_62_1, gR_62_2, gR_66_0, gR_66_1, gR_68_0, gR_68_1, gR_71_0, gR_72_0, gR_74_0, gR_74_1, gR_74_3, gR_74_5, gR_74_7, gR_74_8, gR_74_9, gR_74_15, ld_3, ld_5, ld_6, ld_60, ld_63, ld_64, ld_65, ld_67, ld_69, ld_70, ld_73, ld_75, ld_76, ld_77, ld_78, ld_79, ld_80, ld_82, st_3, st_5, st_6, st_60, st_63, st_64, st_65, st_67, st_69, st_70, st_73, st_75, st_76, st_77, st_78, st_79, st_80, st_82, aL_3, aL_5, aL_6, aL_60, aL_63, aL_64, aL_65, aL_67, aL_69, aL_70, aL_73, aL_75, aL_76, aL_77, aL_78, aL_79, aL_80, aL_82, pI_0, pI_1, pI_2, pI_4, pI_7, pI_15, pI_59, pI_61, pI_62, pI_66, pI_68, pI_71, pI_72, pI_74, ld_81, ld_16, aL_16, w, s, d]
