/-! more queries of both sides -/
variable {μ : mMm} {A : AS} {q q2 : Int}
def rdv (v : Int → Int) (p : Int) : Int := if lng v p (v 1) = 0 then 0 else dst v p (lng v p (v 1))
theorem cdst (hA : AW A) (hC : CI μ.1 A) (hp : 0 ≤ q ∧ q < A.v 0) : fX3_leastDistance oS μ 61 (ii q) (ii (lng A.v q (A.v 1))) = some (ii (rdv A.v q)) := by
  have g0 := wf_0 hA.1
  have g1 := wf_1 hA.1
  have g3 := wf_3 hA.1
  have g2 := wf_2 hA.1
  obtain ⟨b0, b1, b2⟩ := lng_b hA.1 (p := q) (w := A.v 1) hp.1
  unfold rdv
  by_cases h : lng A.v q (A.v 1) = 0
  · rw [if_pos h, h]
    exact distance_0
  · rw [if_neg h]
    obtain ⟨_, d0, k0, k1, k2, k3⟩ := b2.resolve_left h
    exact distance_at (RS_T hC.1) hA.1 hp.1 (by omega) (by omega) (by omega) k0 k1 k2 (by omega)
theorem cRepeatLength_2 (hA : AW A) (hC : CI μ.1 A) (h0 : -2147483648 ≤ q) (h1 : q < 2147483648) (hp : ¬ (0 ≤ q ∧ q < A.v 0)) : fX10_repeatLength oS μ 0 (ii q) = some (.inr 2) := by
  have g0 := wf_0 hA.1
  have g1 := wf_1 hA.1
  have r : fX2_has oS μ 2 (ii q) = some (if 0 ≤ q ∧ q < A.v 0 then 1 else 0) := has_at oLt_2 (rs_c (RS_T hC.1)) g0.1 g0.2 (by omega) (by omega)
  rw [if_neg hp] at r
  unfold fX10_repeatLength bX10_repeatLength
  simp (disch := omega) only [Option.bind_some, km1, k0, k1, k2, k3, k4, k5, k6, k7, k8, k9, k10, k11, k15, k16, k20, k32, k33, k39, k40, k43, k44, k45, k48, k49, k50, k51, k52, k57, k59, k60, k63, k64, k80, k97, k100, k101, k108, k112, k114, k117, k126, k130, k650, k100000, k1000000, ii_add, ii_sub, ii_neg, ii_mul, ii_lt, ii_le, ii_eq, if_true, if_false, if_pos, if_neg, gI_0, gI_1, gI_2, gI_4, gI_7, gI_15, gI_59, gI_61, gI_62, gI_66, gI_68, gI_71, gI_72, gR_0_0, gR_0_1, gR_0_3, gR_0_4, gR_0_5, gR_0_6, gR_0_7, gR_0_8, gR_1_0, gR_1_1, gR_1_2, gR_2_0, gR_4_0, gR_4_1, gR_15_0, gR_59_0, gR_61_0, gR_61_1, gR_61_2, gR_62_0, gR_62_1, gR_62_2, gR_66_0, gR_66_1, gR_68_0, gR_68_1, gR_71_0, gR_72_0, ld_3, ld_5, ld_6, ld_60, ld_63, ld_64, ld_65, ld_67, ld_69, ld_70, ld_73, st_3, st_5, st_6, st_60, st_63, st_64, st_65, st_67, st_69, st_70, st_73, aL_3, aL_5, aL_6, aL_60, aL_63, aL_64, aL_65, aL_67, aL_69, aL_70, aL_73, pI_0, pI_1, pI_2, pI_4, pI_7, pI_15, pI_59, pI_61, pI_62, pI_66, pI_68, pI_71, pI_72, ld_16, aL_16, if_pos o0, r]
theorem cRepeatLength (hA : AW A) (hC : CI μ.1 A) (hp : 0 ≤ q ∧ q < A.v 0) : fX10_repeatLength oS μ 0 (ii q) = some (.inl (ii (lng A.v q (A.v 1)))) := by
  have g0 := wf_0 hA.1
  have g1 := wf_1 hA.1
  have r : fX2_has oS μ 2 (ii q) = some (if 0 ≤ q ∧ q < A.v 0 then 1 else 0) := has_at oLt_2 (rs_c (RS_T hC.1)) g0.1 g0.2 (by omega) (by omega)
  rw [if_pos hp] at r
  have e := rs_w (RS_T hC.1)
  have r2 := longest_at (RS_T hC.1) hA.1 hp.1 (show q ≤ 40 by omega) g1.1 g1.2
  unfold fX10_repeatLength bX10_repeatLength
  simp (disch := omega) only [Option.bind_some, km1, k0, k1, k2, k3, k4, k5, k6, k7, k8, k9, k10, k11, k15, k16, k20, k32, k33, k39, k40, k43, k44, k45, k48, k49, k50, k51, k52, k57, k59, k60, k63, k64, k80, k97, k100, k101, k108, k112, k114, k117, k126, k130, k650, k100000, k1000000, ii_add, ii_sub, ii_neg, ii_mul, ii_lt, ii_le, ii_eq, if_true, if_false, if_pos, if_neg, gI_0, gI_1, gI_2, gI_4, gI_7, gI_15, gI_59, gI_61, gI_62, gI_66, gI_68, gI_71, gI_72, gR_0_0, gR_0_1, gR_0_3, gR_0_4, gR_0_5, gR_0_6, gR_0_7, gR_0_8, gR_1_0, gR_1_1, gR_1_2, gR_2_0, gR_4_0, gR_4_1, gR_15_0, gR_59_0, gR_61_0, gR_61_1, gR_61_2, gR_62_0, gR_62_1, gR_62_2, gR_66_0, gR_66_1, gR_68_0, gR_68_1, gR_71_0, gR_72_0, ld_3, ld_5, ld_6, ld_60, ld_63, ld_64, ld_65, ld_67, ld_69, ld_70, ld_73, st_3, st_5, st_6, st_60, st_63, st_64, st_65, st_67, st_69, st_70, st_73, aL_3, aL_5, aL_6, aL_60, aL_63, aL_64, aL_65, aL_67, aL_69, aL_70, aL_73, pI_0, pI_1, pI_2, pI_4, pI_7, pI_15, pI_59, pI_61, pI_62, pI_66, pI_68, pI_71, pI_72, ld_16, aL_16, if_pos o0, r, e, r2]
theorem cRepeatDistance_2 (hA : AW A) (hC : CI μ.1 A) (h0 : -2147483648 ≤ q) (h1 : q < 2147483648) (hp : ¬ (0 ≤ q ∧ q < A.v 0)) : fX10_repeatDistance oS μ 0 (ii q) = some (.inr 2) := by
  have g0 := wf_0 hA.1
  have g1 := wf_1 hA.1
  have r : fX2_has oS μ 2 (ii q) = some (if 0 ≤ q ∧ q < A.v 0 then 1 else 0) := has_at oLt_2 (rs_c (RS_T hC.1)) g0.1 g0.2 (by omega) (by omega)
  rw [if_neg hp] at r
  unfold fX10_repeatDistance bX10_repeatDistance
  simp (disch := omega) only [Option.bind_some, km1, k0, k1, k2, k3, k4, k5, k6, k7, k8, k9, k10, k11, k15, k16, k20, k32, k33, k39, k40, k43, k44, k45, k48, k49, k50, k51, k52, k57, k59, k60, k63, k64, k80, k97, k100, k101, k108, k112, k114, k117, k126, k130, k650, k100000, k1000000, ii_add, ii_sub, ii_neg, ii_mul, ii_lt, ii_le, ii_eq, if_true, if_false, if_pos, if_neg, gI_0, gI_1, gI_2, gI_4, gI_7, gI_15, gI_59, gI_61, gI_62, gI_66, gI_68, gI_71, gI_72, gR_0_0, gR_0_1, gR_0_3, gR_0_4, gR_0_5, gR_0_6, gR_0_7, gR_0_8, gR_1_0, gR_1_1, gR_1_2, gR_2_0, gR_4_0, gR_4_1, gR_15_0, gR_59_0, gR_61_0, gR_61_1, gR_61_2, gR_62_0, gR_62_1, gR_62_2, gR_66_0, gR_66_1, gR_68_0, gR_68_1, gR_71_0, gR_72_0, ld_3, ld_5, ld_6, ld_60, ld_63, ld_64, ld_65, ld_67, ld_69, ld_70, ld_73, st_3, st_5, st_6, st_60, st_63, st_64, st_65, st_67, st_69, st_70, st_73, aL_3, aL_5, aL_6, aL_60, aL_63, aL_64, aL_65, aL_67, aL_69, aL_70, aL_73, pI_0, pI_1, pI_2, pI_4, pI_7, pI_15, pI_59, pI_61, pI_62, pI_66, pI_68, pI_71, pI_72, ld_16, aL_16, if_pos o0, r]
theorem cRepeatDistance (hA : AW A) (hC : CI μ.1 A) (hp : 0 ≤ q ∧ q < A.v 0) : fX10_repeatDistance oS μ 0 (ii q) = some (.inl (ii (rdv A.v q))) := by
  have g0 := wf_0 hA.1
  have g1 := wf_1 hA.1
  have r : fX2_has oS μ 2 (ii q) = some (if 0 ≤ q ∧ q < A.v 0 then 1 else 0) := has_at oLt_2 (rs_c (RS_T hC.1)) g0.1 g0.2 (by omega) (by omega)
  rw [if_pos hp] at r
  have e := rs_w (RS_T hC.1)
  have r2 := longest_at (RS_T hC.1) hA.1 hp.1 (show q ≤ 40 by omega) g1.1 g1.2
  have r3 := cdst hA hC hp
  unfold fX10_repeatDistance bX10_repeatDistance
  simp (disch := omega) only [Option.bind_some, km1, k0, k1, k2, k3, k4, k5, k6, k7, k8, k9, k10, k11, k15, k16, k20, k32, k33, k39, k40, k43, k44, k45, k48, k49, k50, k51, k52, k57, k59, k60, k63, k64, k80, k97, k100, k101, k108, k112, k114, k117, k126, k130, k650, k100000, k1000000, ii_add, ii_sub, ii_neg, ii_mul, ii_lt, ii_le, ii_eq, if_true, if_false, if_pos, if_neg, gI_0, gI_1, gI_2, gI_4, gI_7, gI_15, gI_59, gI_61, gI_62, gI_66, gI_68, gI_71, gI_72, gR_0_0, gR_0_1, gR_0_3, gR_0_4, gR_0_5, gR_0_6, gR_0_7, gR_0_8, gR_1_0, gR_1_1, gR_1_2, gR_2_0, gR_4_0, gR_4_1, gR_15_0, gR_59_0, gR_61_0, gR_61_1, gR_61_2, gR_62_0, gR_62_1, gR_62_2, gR_66_0, gR_66_1, gR_68_0, gR_68_1, gR_71_0, gR_72_0, ld_3, ld_5, ld_6, ld_60, ld_63, ld_64, ld_65, ld_67, ld_69, ld_70, ld_73, st_3, st_5, st_6, st_60, st_63, st_64, st_65, st_67, st_69, st_70, st_73, aL_3, aL_5, aL_6, aL_60, aL_63, aL_64, aL_65, aL_67, aL_69, aL_70, aL_73, pI_0, pI_1, pI_2, pI_4, pI_7, pI_15, pI_59, pI_61, pI_62, pI_66, pI_68, pI_71, pI_72, ld_16, aL_16, if_pos o0, r, e, r2, r3]
theorem cRepeatLengthByPairs_2 (hA : AW A) (hC : CI μ.1 A) (h0 : -2147483648 ≤ q) (h1 : q < 2147483648) (hp : ¬ (0 ≤ q ∧ q < A.v 0)) : CS (fX10_repeatLengthByPairs oS μ 0 (ii q)) μ (.inr 2) A := by
  have g0 := wf_0 hA.1
  have g1 := wf_1 hA.1
  have r : fX2_has oS μ 2 (ii q) = some (if 0 ≤ q ∧ q < A.v 0 then 1 else 0) := has_at oLt_2 (rs_c (RS_T hC.1)) g0.1 g0.2 (by omega) (by omega)
  rw [if_neg hp] at r
  refine CS_no hC ?_
  unfold fX10_repeatLengthByPairs bX10_repeatLengthByPairs
  simp (disch := omega) only [Option.bind_some, km1, k0, k1, k2, k3, k4, k5, k6, k7, k8, k9, k10, k11, k15, k16, k20, k32, k33, k39, k40, k43, k44, k45, k48, k49, k50, k51, k52, k57, k59, k60, k63, k64, k80, k97, k100, k101, k108, k112, k114, k117, k126, k130, k650, k100000, k1000000, ii_add, ii_sub, ii_neg, ii_mul, ii_lt, ii_le, ii_eq, if_true, if_false, if_pos, if_neg, gI_0, gI_1, gI_2, gI_4, gI_7, gI_15, gI_59, gI_61, gI_62, gI_66, gI_68, gI_71, gI_72, gR_0_0, gR_0_1, gR_0_3, gR_0_4, gR_0_5, gR_0_6, gR_0_7, gR_0_8, gR_1_0, gR_1_1, gR_1_2, gR_2_0, gR_4_0, gR_4_1, gR_15_0, gR_59_0, gR_61_0, gR_61_1, gR_61_2, gR_62_0, gR_62_1, gR_62_2, gR_66_0, gR_66_1, gR_68_0, gR_68_1, gR_71_0, gR_72_0, ld_3, ld_5, ld_6, ld_60, ld_63, ld_64, ld_65, ld_67, ld_69, ld_70, ld_73, st_3, st_5, st_6, st_60, st_63, st_64, st_65, st_67, st_69, st_70, st_73, aL_3, aL_5, aL_6, aL_60, aL_63, aL_64, aL_65, aL_67, aL_69, aL_70, aL_73, pI_0, pI_1, pI_2, pI_4, pI_7, pI_15, pI_59, pI_61, pI_62, pI_66, pI_68, pI_71, pI_72, ld_16, aL_16, if_pos o0, r]
theorem cRepeatLengthByPairs (hA : AW A) (hC : CI μ.1 A) (hp : 0 ≤ q ∧ q < A.v 0) : CS (fX10_repeatLengthByPairs oS μ 0 (ii q)) μ (.inl (ii (bpl A.v q))) A := by
  have g0 := wf_0 hA.1
  have g1 := wf_1 hA.1
  have r : fX2_has oS μ 2 (ii q) = some (if 0 ≤ q ∧ q < A.v 0 then 1 else 0) := has_at oLt_2 (rs_c (RS_T hC.1)) g0.1 g0.2 (by omega) (by omega)
  rw [if_pos hp] at r
  obtain ⟨m1, i1, i2, i3⟩ := read_at (μ := μ) (RS_T hC.1) hA.1
  have fr : (∀ a, 74 ≤ a → m1 a = μ.1 a) ∧ CI m1 A := ⟨fun a ha => i2 a (by omega) (by omega) (by omega), CI_fr (fun a ha => i2 a (by omega) (by omega) (by omega)) hC⟩
  have r2 := byPairs_at (μ := (m1, μ.2)) (RS_T fr.2.1) hA.1 i3 hp.1 (show q < 40 by omega)
  refine ⟨m1, ?_, fr⟩
  unfold fX10_repeatLengthByPairs bX10_repeatLengthByPairs
  simp (disch := omega) only [Option.bind_some, km1, k0, k1, k2, k3, k4, k5, k6, k7, k8, k9, k10, k11, k15, k16, k20, k32, k33, k39, k40, k43, k44, k45, k48, k49, k50, k51, k52, k57, k59, k60, k63, k64, k80, k97, k100, k101, k108, k112, k114, k117, k126, k130, k650, k100000, k1000000, ii_add, ii_sub, ii_neg, ii_mul, ii_lt, ii_le, ii_eq, if_true, if_false, if_pos, if_neg, gI_0, gI_1, gI_2, gI_4, gI_7, gI_15, gI_59, gI_61, gI_62, gI_66, gI_68, gI_71, gI_72, gR_0_0, gR_0_1, gR_0_3, gR_0_4, gR_0_5, gR_0_6, gR_0_7, gR_0_8, gR_1_0, gR_1_1, gR_1_2, gR_2_0, gR_4_0, gR_4_1, gR_15_0, gR_59_0, gR_61_0, gR_61_1, gR_61_2, gR_62_0, gR_62_1, gR_62_2, gR_66_0, gR_66_1, gR_68_0, gR_68_1, gR_71_0, gR_72_0, ld_3, ld_5, ld_6, ld_60, ld_63, ld_64, ld_65, ld_67, ld_69, ld_70, ld_73, st_3, st_5, st_6, st_60, st_63, st_64, st_65, st_67, st_69, st_70, st_73, aL_3, aL_5, aL_6, aL_60, aL_63, aL_64, aL_65, aL_67, aL_69, aL_70, aL_73, pI_0, pI_1, pI_2, pI_4, pI_7, pI_15, pI_59, pI_61, pI_62, pI_66, pI_68, pI_71, pI_72, ld_16, aL_16, if_pos o0, r, i1, r2]
theorem isP_at (h0 : -2147483648 ≤ q) (h1 : q < 2147483648) : fX10_isPair (ii q) = some (ii (if 0 ≤ q ∧ q ≤ 15 then 1 else 0)) := by
  unfold fX10_isPair
  by_cases h2 : q < 0
  · simp (disch := omega) only [Option.bind_some, km1, k0, k1, k2, k3, k4, k5, k6, k7, k8, k9, k10, k11, k15, k16, k20, k32, k33, k39, k40, k43, k44, k45, k48, k49, k50, k51, k52, k57, k59, k60, k63, k64, k80, k97, k100, k101, k108, k112, k114, k117, k126, k130, k650, k100000, k1000000, ii_add, ii_sub, ii_neg, ii_mul, ii_lt, ii_le, ii_eq, if_true, if_false, if_pos, if_neg]
  · by_cases h3 : 16 ≤ q
    · simp (disch := omega) only [Option.bind_some, km1, k0, k1, k2, k3, k4, k5, k6, k7, k8, k9, k10, k11, k15, k16, k20, k32, k33, k39, k40, k43, k44, k45, k48, k49, k50, k51, k52, k57, k59, k60, k63, k64, k80, k97, k100, k101, k108, k112, k114, k117, k126, k130, k650, k100000, k1000000, ii_add, ii_sub, ii_neg, ii_mul, ii_lt, ii_le, ii_eq, if_true, if_false, if_pos, if_neg]
    · simp (disch := omega) only [Option.bind_some, km1, k0, k1, k2, k3, k4, k5, k6, k7, k8, k9, k10, k11, k15, k16, k20, k32, k33, k39, k40, k43, k44, k45, k48, k49, k50, k51, k52, k57, k59, k60, k63, k64, k80, k97, k100, k101, k108, k112, k114, k117, k126, k130, k650, k100000, k1000000, ii_add, ii_sub, ii_neg, ii_mul, ii_lt, ii_le, ii_eq, if_true, if_false, if_pos, if_neg]
theorem cPairs_0 (hC : CI μ.1 A) (h0 : -2147483648 ≤ q) (h1 : q < 2147483648) (hq : ¬ (0 ≤ q ∧ q ≤ 15)) : CS (fX10_pairs oS μ 0 (ii q)) μ (.inr 0) A := by
  have r := isP_at h0 h1
  rw [if_neg hq] at r
  refine CS_no hC ?_
  unfold fX10_pairs bX10_pairs
  simp (disch := omega) only [Option.bind_some, km1, k0, k1, k2, k3, k4, k5, k6, k7, k8, k9, k10, k11, k15, k16, k20, k32, k33, k39, k40, k43, k44, k45, k48, k49, k50, k51, k52, k57, k59, k60, k63, k64, k80, k97, k100, k101, k108, k112, k114, k117, k126, k130, k650, k100000, k1000000, ii_add, ii_sub, ii_neg, ii_mul, ii_lt, ii_le, ii_eq, if_true, if_false, if_pos, if_neg, gI_0, gI_1, gI_2, gI_4, gI_7, gI_15, gI_59, gI_61, gI_62, gI_66, gI_68, gI_71, gI_72, gR_0_0, gR_0_1, gR_0_3, gR_0_4, gR_0_5, gR_0_6, gR_0_7, gR_0_8, gR_1_0, gR_1_1, gR_1_2, gR_2_0, gR_4_0, gR_4_1, gR_15_0, gR_59_0, gR_61_0, gR_61_1, gR_61_2, gR_62_0, gR_62_1, gR_62_2, gR_66_0, gR_66_1, gR_68_0, gR_68_1, gR_71_0, gR_72_0, ld_3, ld_5, ld_6, ld_60, ld_63, ld_64, ld_65, ld_67, ld_69, ld_70, ld_73, st_3, st_5, st_6, st_60, st_63, st_64, st_65, st_67, st_69, st_70, st_73, aL_3, aL_5, aL_6, aL_60, aL_63, aL_64, aL_65, aL_67, aL_69, aL_70, aL_73, pI_0, pI_1, pI_2, pI_4, pI_7, pI_15, pI_59, pI_61, pI_62, pI_66, pI_68, pI_71, pI_72, ld_16, aL_16, if_pos o0, r]
theorem cPairs (hA : AW A) (hC : CI μ.1 A) (hq : 0 ≤ q ∧ q ≤ 15) : CS (fX10_pairs oS μ 0 (ii q)) μ (.inl (ii (ofn A.v q))) A := by
  have r := isP_at (q := q) (by omega) (by omega)
  rw [if_pos hq] at r
  obtain ⟨m1, i1, i2, i3⟩ := read_at (μ := μ) (RS_T hC.1) hA.1
  have fr : (∀ a, 74 ≤ a → m1 a = μ.1 a) ∧ CI m1 A := ⟨fun a ha => i2 a (by omega) (by omega) (by omega), CI_fr (fun a ha => i2 a (by omega) (by omega) (by omega)) hC⟩
  have r2 := times_at (μ := (m1, μ.2)) hq.1 (show q < 16 by omega)
  have e : m1 63 q.toNat = ii (ofn A.v q) := (i3.1 q hq.1 (by omega)).1
  refine ⟨m1, ?_, fr⟩
  unfold fX10_pairs bX10_pairs
  simp (disch := omega) only [Option.bind_some, km1, k0, k1, k2, k3, k4, k5, k6, k7, k8, k9, k10, k11, k15, k16, k20, k32, k33, k39, k40, k43, k44, k45, k48, k49, k50, k51, k52, k57, k59, k60, k63, k64, k80, k97, k100, k101, k108, k112, k114, k117, k126, k130, k650, k100000, k1000000, ii_add, ii_sub, ii_neg, ii_mul, ii_lt, ii_le, ii_eq, if_true, if_false, if_pos, if_neg, gI_0, gI_1, gI_2, gI_4, gI_7, gI_15, gI_59, gI_61, gI_62, gI_66, gI_68, gI_71, gI_72, gR_0_0, gR_0_1, gR_0_3, gR_0_4, gR_0_5, gR_0_6, gR_0_7, gR_0_8, gR_1_0, gR_1_1, gR_1_2, gR_2_0, gR_4_0, gR_4_1, gR_15_0, gR_59_0, gR_61_0, gR_61_1, gR_61_2, gR_62_0, gR_62_1, gR_62_2, gR_66_0, gR_66_1, gR_68_0, gR_68_1, gR_71_0, gR_72_0, ld_3, ld_5, ld_6, ld_60, ld_63, ld_64, ld_65, ld_67, ld_69, ld_70, ld_73, st_3, st_5, st_6, st_60, st_63, st_64, st_65, st_67, st_69, st_70, st_73, aL_3, aL_5, aL_6, aL_60, aL_63, aL_64, aL_65, aL_67, aL_69, aL_70, aL_73, pI_0, pI_1, pI_2, pI_4, pI_7, pI_15, pI_59, pI_61, pI_62, pI_66, pI_68, pI_71, pI_72, ld_16, aL_16, if_pos o0, r, i1, r2, e]
theorem cLastPlaceOf_0 (hC : CI μ.1 A) (h0 : -2147483648 ≤ q) (h1 : q < 2147483648) (hq : ¬ (0 ≤ q ∧ q ≤ 15)) : CS (fX10_lastPlaceOf oS μ 0 (ii q)) μ (.inr 0) A := by
  have r := isP_at h0 h1
  rw [if_neg hq] at r
  refine CS_no hC ?_
  unfold fX10_lastPlaceOf bX10_lastPlaceOf
  simp (disch := omega) only [Option.bind_some, km1, k0, k1, k2, k3, k4, k5, k6, k7, k8, k9, k10, k11, k15, k16, k20, k32, k33, k39, k40, k43, k44, k45, k48, k49, k50, k51, k52, k57, k59, k60, k63, k64, k80, k97, k100, k101, k108, k112, k114, k117, k126, k130, k650, k100000, k1000000, ii_add, ii_sub, ii_neg, ii_mul, ii_lt, ii_le, ii_eq, if_true, if_false, if_pos, if_neg, gI_0, gI_1, gI_2, gI_4, gI_7, gI_15, gI_59, gI_61, gI_62, gI_66, gI_68, gI_71, gI_72, gR_0_0, gR_0_1, gR_0_3, gR_0_4, gR_0_5, gR_0_6, gR_0_7, gR_0_8, gR_1_0, gR_1_1, gR_1_2, gR_2_0, gR_4_0, gR_4_1, gR_15_0, gR_59_0, gR_61_0, gR_61_1, gR_61_2, gR_62_0, gR_62_1, gR_62_2, gR_66_0, gR_66_1, gR_68_0, gR_68_1, gR_71_0, gR_72_0, ld_3, ld_5, ld_6, ld_60, ld_63, ld_64, ld_65, ld_67, ld_69, ld_70, ld_73, st_3, st_5, st_6, st_60, st_63, st_64, st_65, st_67, st_69, st_70, st_73, aL_3, aL_5, aL_6, aL_60, aL_63, aL_64, aL_65, aL_67, aL_69, aL_70, aL_73, pI_0, pI_1, pI_2, pI_4, pI_7, pI_15, pI_59, pI_61, pI_62, pI_66, pI_68, pI_71, pI_72, ld_16, aL_16, if_pos o0, r]
theorem cLastPlaceOf (hA : AW A) (hC : CI μ.1 A) (hq : 0 ≤ q ∧ q ≤ 15) : CS (fX10_lastPlaceOf oS μ 0 (ii q)) μ (.inl (ii (lst A.v q))) A := by
  have r := isP_at (q := q) (by omega) (by omega)
  rw [if_pos hq] at r
  obtain ⟨m1, i1, i2, i3⟩ := read_at (μ := μ) (RS_T hC.1) hA.1
  have fr : (∀ a, 74 ≤ a → m1 a = μ.1 a) ∧ CI m1 A := ⟨fun a ha => i2 a (by omega) (by omega) (by omega), CI_fr (fun a ha => i2 a (by omega) (by omega) (by omega)) hC⟩
  have r2 := lastPlace_at (μ := (m1, μ.2)) hq.1 (show q < 16 by omega)
  have e : m1 64 q.toNat = ii (lst A.v q) := (i3.1 q hq.1 (by omega)).2
  refine ⟨m1, ?_, fr⟩
  unfold fX10_lastPlaceOf bX10_lastPlaceOf
  simp (disch := omega) only [Option.bind_some, km1, k0, k1, k2, k3, k4, k5, k6, k7, k8, k9, k10, k11, k15, k16, k20, k32, k33, k39, k40, k43, k44, k45, k48, k49, k50, k51, k52, k57, k59, k60, k63, k64, k80, k97, k100, k101, k108, k112, k114, k117, k126, k130, k650, k100000, k1000000, ii_add, ii_sub, ii_neg, ii_mul, ii_lt, ii_le, ii_eq, if_true, if_false, if_pos, if_neg, gI_0, gI_1, gI_2, gI_4, gI_7, gI_15, gI_59, gI_61, gI_62, gI_66, gI_68, gI_71, gI_72, gR_0_0, gR_0_1, gR_0_3, gR_0_4, gR_0_5, gR_0_6, gR_0_7, gR_0_8, gR_1_0, gR_1_1, gR_1_2, gR_2_0, gR_4_0, gR_4_1, gR_15_0, gR_59_0, gR_61_0, gR_61_1, gR_61_2, gR_62_0, gR_62_1, gR_62_2, gR_66_0, gR_66_1, gR_68_0, gR_68_1, gR_71_0, gR_72_0, ld_3, ld_5, ld_6, ld_60, ld_63, ld_64, ld_65, ld_67, ld_69, ld_70, ld_73, st_3, st_5, st_6, st_60, st_63, st_64, st_65, st_67, st_69, st_70, st_73, aL_3, aL_5, aL_6, aL_60, aL_63, aL_64, aL_65, aL_67, aL_69, aL_70, aL_73, pI_0, pI_1, pI_2, pI_4, pI_7, pI_15, pI_59, pI_61, pI_62, pI_66, pI_68, pI_71, pI_72, ld_16, aL_16, if_pos o0, r, i1, r2, e]
theorem cMostFrequent_1 (hA : AW A) (hC : CI μ.1 A) (hf : ¬ 2 ≤ A.v 0) : CS (fX10_mostFrequent oS μ 0) μ (.inr 1) A := by
  have g0 := wf_0 hA.1
  have e := rs_c (RS_T hC.1)
  refine CS_no hC ?_
  unfold fX10_mostFrequent bX10_mostFrequent
  simp (disch := omega) only [Option.bind_some, km1, k0, k1, k2, k3, k4, k5, k6, k7, k8, k9, k10, k11, k15, k16, k20, k32, k33, k39, k40, k43, k44, k45, k48, k49, k50, k51, k52, k57, k59, k60, k63, k64, k80, k97, k100, k101, k108, k112, k114, k117, k126, k130, k650, k100000, k1000000, ii_add, ii_sub, ii_neg, ii_mul, ii_lt, ii_le, ii_eq, if_true, if_false, if_pos, if_neg, gI_0, gI_1, gI_2, gI_4, gI_7, gI_15, gI_59, gI_61, gI_62, gI_66, gI_68, gI_71, gI_72, gR_0_0, gR_0_1, gR_0_3, gR_0_4, gR_0_5, gR_0_6, gR_0_7, gR_0_8, gR_1_0, gR_1_1, gR_1_2, gR_2_0, gR_4_0, gR_4_1, gR_15_0, gR_59_0, gR_61_0, gR_61_1, gR_61_2, gR_62_0, gR_62_1, gR_62_2, gR_66_0, gR_66_1, gR_68_0, gR_68_1, gR_71_0, gR_72_0, ld_3, ld_5, ld_6, ld_60, ld_63, ld_64, ld_65, ld_67, ld_69, ld_70, ld_73, st_3, st_5, st_6, st_60, st_63, st_64, st_65, st_67, st_69, st_70, st_73, aL_3, aL_5, aL_6, aL_60, aL_63, aL_64, aL_65, aL_67, aL_69, aL_70, aL_73, pI_0, pI_1, pI_2, pI_4, pI_7, pI_15, pI_59, pI_61, pI_62, pI_66, pI_68, pI_71, pI_72, ld_16, aL_16, if_pos o0, e]
theorem cMostFrequent (hA : AW A) (hC : CI μ.1 A) (hf : 2 ≤ A.v 0) : CS (fX10_mostFrequent oS μ 0) μ (.inl (ii (mfr A.v))) A := by
  have g0 := wf_0 hA.1
  have e := rs_c (RS_T hC.1)
  obtain ⟨m1, i1, i2, i3⟩ := read_at (μ := μ) (RS_T hC.1) hA.1
  have fr : (∀ a, 74 ≤ a → m1 a = μ.1 a) ∧ CI m1 A := ⟨fun a ha => i2 a (by omega) (by omega) (by omega), CI_fr (fun a ha => i2 a (by omega) (by omega) (by omega)) hC⟩
  have r2 := common_at (μ := (m1, μ.2)) hA.1 i3
  refine ⟨m1, ?_, fr⟩
  unfold fX10_mostFrequent bX10_mostFrequent
  simp (disch := omega) only [Option.bind_some, km1, k0, k1, k2, k3, k4, k5, k6, k7, k8, k9, k10, k11, k15, k16, k20, k32, k33, k39, k40, k43, k44, k45, k48, k49, k50, k51, k52, k57, k59, k60, k63, k64, k80, k97, k100, k101, k108, k112, k114, k117, k126, k130, k650, k100000, k1000000, ii_add, ii_sub, ii_neg, ii_mul, ii_lt, ii_le, ii_eq, if_true, if_false, if_pos, if_neg, gI_0, gI_1, gI_2, gI_4, gI_7, gI_15, gI_59, gI_61, gI_62, gI_66, gI_68, gI_71, gI_72, gR_0_0, gR_0_1, gR_0_3, gR_0_4, gR_0_5, gR_0_6, gR_0_7, gR_0_8, gR_1_0, gR_1_1, gR_1_2, gR_2_0, gR_4_0, gR_4_1, gR_15_0, gR_59_0, gR_61_0, gR_61_1, gR_61_2, gR_62_0, gR_62_1, gR_62_2, gR_66_0, gR_66_1, gR_68_0, gR_68_1, gR_71_0, gR_72_0, ld_3, ld_5, ld_6, ld_60, ld_63, ld_64, ld_65, ld_67, ld_69, ld_70, ld_73, st_3, st_5, st_6, st_60, st_63, st_64, st_65, st_67, st_69, st_70, st_73, aL_3, aL_5, aL_6, aL_60, aL_63, aL_64, aL_65, aL_67, aL_69, aL_70, aL_73, pI_0, pI_1, pI_2, pI_4, pI_7, pI_15, pI_59, pI_61, pI_62, pI_66, pI_68, pI_71, pI_72, ld_16, aL_16, if_pos o0, e, i1, r2]