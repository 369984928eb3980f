/-! a repeat, all of it -/
variable {μ : mMm} {b : Int} {Y : Int → Int}
theorem rp_229r (hB : BF μ.1 b Y) (hY : YB b Y) {j r : Int} (hw : WS μ.1 (-1) j) (h0 : 0 ≤ j) (h1 : j ≤ 61) (hm : μ.1 74 16 = ii r) (hr0 : 0 ≤ r) (hr : r ≤ 31) : ∃ m', lX11_readPart_229 oS μ 74 (ii (3 * r)) (ii 114) = some (m', μ.2) ∧ WS m' (prd b Y j).1 (prd b Y j).2.1 ∧ QF r μ.1 m' ∧ m' 74 16 = ii (r + 1) ∧ m' 82 (3 * r).toNat = μ.1 82 (3 * r).toNat ∧ ((prd b Y j).1 = -1 → m' 82 (3 * r + 1).toNat = ii (prd b Y j).2.2.1 ∧ m' 82 (3 * r + 2).toNat = ii (prd b Y j).2.2.2) := by
  obtain ⟨m1, j1, j2, j3⟩ := rnum_at (lim := 39) hB hY hw h0 (by omega) (by omega) (by omega)
  have nb := nm_b b Y 39 h0
  have hm1 : (u2 m1 82 (3 * r + 1).toNat (ii (nm b Y 39 j).2.2)) 74 16 = ii r := (u2_off (by omega)).trans ((j3.2 16 (by omega) (by omega)).trans hm)
  have hQ : QF r μ.1 (u2 m1 82 (3 * r + 1).toNat (ii (nm b Y 39 j).2.2)) := j3.q.tr (QF_82 (by omega) hr0)
  have hB1 := BF_q hQ hB
  have hW1 : WS (u2 m1 82 (3 * r + 1).toNat (ii (nm b Y 39 j).2.2)) (nm b Y 39 j).1 (nm b Y 39 j).2.1 := WS_82 j2
  have h82 : (u2 m1 82 (3 * r + 1).toNat (ii (nm b Y 39 j).2.2)) 82 (3 * r).toNat = μ.1 82 (3 * r).toNat := (u2_off (by omega)).trans (by rw [j3.1 82 (by omega)])
  have h821 : (u2 m1 82 (3 * r + 1).toNat (ii (nm b Y 39 j).2.2)) 82 (3 * r + 1).toNat = ii (nm b Y 39 j).2.2 := u2_at rfl rfl
  have s := sign_at (μ := (u2 m1 82 (3 * r + 1).toNat (ii (nm b Y 39 j).2.2), μ.2)) hB1 hY hW1 (by omega) (by omega)
  have sb := sg_b (b := b) (Y := Y) hY (show 0 ≤ (nm b Y 39 j).2.1 by omega)
  have lead : lX11_readPart_229 oS μ 74 (ii (3 * r)) (ii 114) = lX11_readPart_264 oS (u2 m1 82 (3 * r + 1).toNat (ii (nm b Y 39 j).2.2), μ.2) 74 (ii (3 * r)) (ii (if sg b Y (nm b Y 39 j).2.1 = 44 then 1 else 0)) 74 := by
    unfold lX11_readPart_229
    generalize lX11_readPart_264 oS = K
    by_cases h : sg b Y (nm b Y 39 j).2.1 = 44
    · simp (disch := omega) only [Option.bind_some, km1, k0, k1, k2, k3, k4, k5, k6, k7, k8, k9, k10, k11, k15, k16, k20, k32, k33, k39, k40, k43, k44, k45, k48, k49, k50, k51, k52, k57, k59, k60, k63, k64, k80, k97, k100, k101, k108, k112, k114, k117, k126, k130, k650, k100000, k1000000, ii_add, ii_sub, ii_neg, ii_mul, ii_lt, ii_le, ii_eq, if_true, if_false, if_pos, if_neg, gI_0, gI_1, gI_2, gI_4, gI_7, gI_15, gI_59, gI_61, gI_62, gI_66, gI_68, gI_71, gI_72, gI_74, gR_0_0, gR_0_1, gR_0_3, gR_0_4, gR_0_5, gR_0_6, gR_0_7, gR_0_8, gR_1_0, gR_1_1, gR_1_2, gR_2_0, gR_4_0, gR_4_1, gR_15_0, gR_59_0, gR_61_0, gR_61_1, gR_61_2, gR_62_0, gR_62_1, gR_62_2, gR_66_0, gR_66_1, gR_68_0, gR_68_1, gR_71_0, gR_72_0, gR_74_0, gR_74_1, gR_74_3, gR_74_5, gR_74_7, gR_74_8, gR_74_9, gR_74_15, ld_3, ld_5, ld_6, ld_60, ld_63, ld_64, ld_65, ld_67, ld_69, ld_70, ld_73, ld_75, ld_76, ld_77, ld_78, ld_79, ld_80, ld_82, st_3, st_5, st_6, st_60, st_63, st_64, st_65, st_67, st_69, st_70, st_73, st_75, st_76, st_77, st_78, st_79, st_80, st_82, aL_3, aL_5, aL_6, aL_60, aL_63, aL_64, aL_65, aL_67, aL_69, aL_70, aL_73, aL_75, aL_76, aL_77, aL_78, aL_79, aL_80, aL_82, pI_0, pI_1, pI_2, pI_4, pI_7, pI_15, pI_59, pI_61, pI_62, pI_66, pI_68, pI_71, pI_72, pI_74, ld_81, ld_16, aL_16, j1, s]
    · simp (disch := omega) only [Option.bind_some, km1, k0, k1, k2, k3, k4, k5, k6, k7, k8, k9, k10, k11, k15, k16, k20, k32, k33, k39, k40, k43, k44, k45, k48, k49, k50, k51, k52, k57, k59, k60, k63, k64, k80, k97, k100, k101, k108, k112, k114, k117, k126, k130, k650, k100000, k1000000, ii_add, ii_sub, ii_neg, ii_mul, ii_lt, ii_le, ii_eq, if_true, if_false, if_pos, if_neg, gI_0, gI_1, gI_2, gI_4, gI_7, gI_15, gI_59, gI_61, gI_62, gI_66, gI_68, gI_71, gI_72, gI_74, gR_0_0, gR_0_1, gR_0_3, gR_0_4, gR_0_5, gR_0_6, gR_0_7, gR_0_8, gR_1_0, gR_1_1, gR_1_2, gR_2_0, gR_4_0, gR_4_1, gR_15_0, gR_59_0, gR_61_0, gR_61_1, gR_61_2, gR_62_0, gR_62_1, gR_62_2, gR_66_0, gR_66_1, gR_68_0, gR_68_1, gR_71_0, gR_72_0, gR_74_0, gR_74_1, gR_74_3, gR_74_5, gR_74_7, gR_74_8, gR_74_9, gR_74_15, ld_3, ld_5, ld_6, ld_60, ld_63, ld_64, ld_65, ld_67, ld_69, ld_70, ld_73, ld_75, ld_76, ld_77, ld_78, ld_79, ld_80, ld_82, st_3, st_5, st_6, st_60, st_63, st_64, st_65, st_67, st_69, st_70, st_73, st_75, st_76, st_77, st_78, st_79, st_80, st_82, aL_3, aL_5, aL_6, aL_60, aL_63, aL_64, aL_65, aL_67, aL_69, aL_70, aL_73, aL_75, aL_76, aL_77, aL_78, aL_79, aL_80, aL_82, pI_0, pI_1, pI_2, pI_4, pI_7, pI_15, pI_59, pI_61, pI_62, pI_66, pI_68, pI_71, pI_72, pI_74, ld_81, ld_16, aL_16, j1, s]
  rw [lead]
  unfold prd
  by_cases c1 : (nm b Y 39 j).1 = -1
  · rw [if_pos c1]
    rw [c1] at hW1
    by_cases c2 : sg b Y (nm b Y 39 j).2.1 = 44
    · rw [if_pos c2, if_pos c2]
      obtain ⟨m', k1', k2', k3', k4', k5', k6', k7'⟩ := rp_264y (μ := (u2 m1 82 (3 * r + 1).toNat (ii (nm b Y 39 j).2.2), μ.2)) hB1 hY hW1 (by omega) (by omega) hm1 hr0 hr
      exact ⟨m', k1', k2', hQ.tr k3', k4', k5'.trans h82, fun _ => ⟨k6'.trans h821, k7'⟩⟩
    · rw [if_neg c2, if_neg c2]
      obtain ⟨m', k1', k2', k3', k4', k5'⟩ := rp_264n (μ := (u2 m1 82 (3 * r + 1).toNat (ii (nm b Y 39 j).2.2), μ.2)) hB1 hY hW1 (by omega) (by omega) hm1 hr0 hr
      refine ⟨m', k1', k2', hQ.tr k3', k4', k5'.trans h82, fun h => ?_⟩
      have h : (nm b Y 39 j).2.1 = -1 := h
      omega
  · rw [if_neg c1]
    obtain ⟨m', k1', k2', k3', k4', k5'⟩ := rp_264w (μ := (u2 m1 82 (3 * r + 1).toNat (ii (nm b Y 39 j).2.2), μ.2)) (c := if sg b Y (nm b Y 39 j).2.1 = 44 then 1 else 0) hB1 hY hW1 (by omega) (by omega) (by omega) (by omega) hm1 hr0 hr
    exact ⟨m', k1', k2', hQ.tr k3', k4', k5'.trans h82, fun h => absurd h c1⟩
theorem rp_r (hB : BF μ.1 b Y) (hY : YB b Y) {j r : Int} (hw : WS μ.1 (-1) j) (h0 : 0 ≤ j) (h1 : j ≤ 61) (hm : μ.1 74 16 = ii r) (hr0 : 0 ≤ r) (hr : r ≤ 31) : ∃ m', lX11_readPart_153 oS μ 74 (ii (3 * r)) (ii 114) = some (m', μ.2) ∧ WS m' (prd b Y j).1 (prd b Y j).2.1 ∧ QF r μ.1 m' ∧ m' 74 16 = ii (r + 1) ∧ m' 82 (3 * r).toNat = μ.1 82 (3 * r).toNat ∧ ((prd b Y j).1 = -1 → m' 82 (3 * r + 1).toNat = ii (prd b Y j).2.2.1 ∧ m' 82 (3 * r + 2).toNat = ii (prd b Y j).2.2.2) := by
  obtain ⟨m', q1, q2⟩ := rp_229r hB hY hw h0 h1 hm hr0 hr
  refine ⟨m', ?_, q2⟩
  rw [← q1]
  unfold lX11_readPart_153 lX11_readPart_191
  generalize lX11_readPart_229 oS = K
  simp (disch := omega) only [Option.bind_some, km1, k0, k1, k2, k3, k4, k5, k6, k7, k8, k9, k10, k11, k15, k16, k20, k32, k33, k39, k40, k43, k44, k45, k48, k49, k50, k51, k52, k57, k59, k60, k63, k64, k80, k97, k100, k101, k108, k112, k114, k117, k126, k130, k650, k100000, k1000000, ii_add, ii_sub, ii_neg, ii_mul, ii_lt, ii_le, ii_eq, if_true, if_false, if_pos, if_neg, gI_0, gI_1, gI_2, gI_4, gI_7, gI_15, gI_59, gI_61, gI_62, gI_66, gI_68, gI_71, gI_72, gI_74, gR_0_0, gR_0_1, gR_0_3, gR_0_4, gR_0_5, gR_0_6, gR_0_7, gR_0_8, gR_1_0, gR_1_1, gR_1_2, gR_2_0, gR_4_0, gR_4_1, gR_15_0, gR_59_0, gR_61_0, gR_61_1, gR_61_2, gR_62_0, gR_62_1, gR_62_2, gR_66_0, gR_66_1, gR_68_0, gR_68_1, gR_71_0, gR_72_0, gR_74_0, gR_74_1, gR_74_3, gR_74_5, gR_74_7, gR_74_8, gR_74_9, gR_74_15, ld_3, ld_5, ld_6, ld_60, ld_63, ld_64, ld_65, ld_67, ld_69, ld_70, ld_73, ld_75, ld_76, ld_77, ld_78, ld_79, ld_80, ld_82, st_3, st_5, st_6, st_60, st_63, st_64, st_65, st_67, st_69, st_70, st_73, st_75, st_76, st_77, st_78, st_79, st_80, st_82, aL_3, aL_5, aL_6, aL_60, aL_63, aL_64, aL_65, aL_67, aL_69, aL_70, aL_73, aL_75, aL_76, aL_77, aL_78, aL_79, aL_80, aL_82, pI_0, pI_1, pI_2, pI_4, pI_7, pI_15, pI_59, pI_61, pI_62, pI_66, pI_68, pI_71, pI_72, pI_74, ld_81, ld_16, aL_16]
