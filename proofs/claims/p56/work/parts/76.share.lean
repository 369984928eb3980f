/-! the share -/
variable {μ : mMm} {A : AS} {v : Int → Int}
def shr (v : Int → Int) : UInt64 := if v 6 = 0 then FP.dconst1 else FP.ddiv (FP.i2d (ii (scost v))) (FP.i2d (ii (v 4 * sletters v)))
theorem sl_b (hW : WF v) : (v 6 ≤ scost v ∧ scost v ≤ 800) ∧ v 6 ≤ sletters v ∧ sletters v ≤ 1600 := by
  have g6 := wf_6 hW
  have q1 := csm_b (D := tkD v) hW (v 6).toNat
  have q2 := lsm_b (WF_K hW) (v 6).toNat (by omega)
  have q1 : ((v 6).toNat : Int) ≤ scost v ∧ scost v ≤ 20 * ((v 6).toNat : Int) := q1
  have q2 : ((v 6).toNat : Int) ≤ sletters v ∧ sletters v ≤ 40 * ((v 6).toNat : Int) := q2
  omega
theorem wh_b (hW : WF v) : 0 ≤ v 4 * sletters v ∧ v 4 * sletters v ≤ 14400 ∧ (0 < v 6 → 1 ≤ v 4 * sletters v) := by
  have q := sl_b hW
  have g6 := wf_6 hW
  have g4 := wf_4 hW
  have h : v 4 = 1 ∨ v 4 = 2 ∨ v 4 = 3 ∨ v 4 = 4 ∨ v 4 = 5 ∨ v 4 = 6 ∨ v 4 = 7 ∨ v 4 = 8 ∨ v 4 = 9 := by omega
  rcases h with h | h | h | h | h | h | h | h | h <;> rw [h] <;> omega
theorem shr_DV (hW : WF v) : ∃ c e, DV (shr v) c e ∧ -30 ≤ e ∧ e ≤ 30 := by
  have q := sl_b hW
  have w := wh_b hW
  have g6 := wf_6 hW
  unfold shr
  by_cases h : v 6 = 0
  · rw [if_pos h]
    exact ⟨_, _, DV_c1, by omega, by omega⟩
  · rw [if_neg h]
    exact DV_share (by omega) (by omega) (w.2.2 (by omega)) (by omega)
theorem shr_n (h : ¬ v 6 = 0) : shr v = FP.ddiv (FP.i2d (ii (scost v))) (FP.i2d (ii (v 4 * sletters v))) := if_neg h
theorem cShare (hA : AW A) (hC : CI μ.1 A) : fX10_packedShare oS μ 0 = some (shr A.v) := by
  have r1 : fX5_cost oS μ 4 7 = some (ii (scost A.v)) := csm_at (RS_T hC.1) hA.1 oSk_4 (RS_K hC.1) (WF_K hA.1) (wf_6 hA.1).1 (wf_6 hA.1).2
  have r2 : fX5_letters oS μ 4 = some (ii (sletters A.v)) := lsm_at oSk_4 (RS_K hC.1) (WF_K hA.1) (wf_6 hA.1).1 (wf_6 hA.1).2
  have r3 : μ.1 4 2 = ii (A.v 6) := rs_k hC.1
  have r4 : μ.1 7 3 = ii (A.v 4) := hC.1.2.1.2.2.2.1
  have q := sl_b hA.1
  have w := wh_b hA.1
  have g6 := wf_6 hA.1
  obtain ⟨c, e, hD, _⟩ := shr_DV hA.1
  have vf := vfn_of (DV_ne hD)
  unfold fX10_packedShare bX10_packedShare
  by_cases h : A.v 6 = 0
  · simp (disch := omega) only [Option.bind_some, km1, k0, k1, k2, k3, k4, k5, k6, k7, k8, k9, k10, k11, k15, k16, k20, k32, k33, k39, k40, k43, k44, k45, k48, k49, k50, k51, k52, k57, k59, k60, k63, k64, k80, k97, k100, k101, k108, k112, k114, k117, k126, k130, k650, k100000, k1000000, ii_add, ii_sub, ii_neg, ii_mul, ii_lt, ii_le, ii_eq, if_true, if_false, if_pos, if_neg, gI_0, gI_1, gI_2, gI_4, gI_7, gI_15, gI_59, gI_61, gI_62, gI_66, gI_68, gI_71, gI_72, gR_0_0, gR_0_1, gR_0_3, gR_0_4, gR_0_5, gR_0_6, gR_0_7, gR_0_8, gR_1_0, gR_1_1, gR_1_2, gR_2_0, gR_4_0, gR_4_1, gR_15_0, gR_59_0, gR_61_0, gR_61_1, gR_61_2, gR_62_0, gR_62_1, gR_62_2, gR_66_0, gR_66_1, gR_68_0, gR_68_1, gR_71_0, gR_72_0, ld_3, ld_5, ld_6, ld_60, ld_63, ld_64, ld_65, ld_67, ld_69, ld_70, ld_73, st_3, st_5, st_6, st_60, st_63, st_64, st_65, st_67, st_69, st_70, st_73, aL_3, aL_5, aL_6, aL_60, aL_63, aL_64, aL_65, aL_67, aL_69, aL_70, aL_73, pI_0, pI_1, pI_2, pI_4, pI_7, pI_15, pI_59, pI_61, pI_62, pI_66, pI_68, pI_71, pI_72, ld_16, aL_16, if_pos o0, r1, r2, r3, r4]
    exact congrArg some (if_pos h).symm
  · have w1 := w.2.2 (by omega)
    rw [shr_n h] at vf ⊢
    simp (disch := omega) only [Option.bind_some, km1, k0, k1, k2, k3, k4, k5, k6, k7, k8, k9, k10, k11, k15, k16, k20, k32, k33, k39, k40, k43, k44, k45, k48, k49, k50, k51, k52, k57, k59, k60, k63, k64, k80, k97, k100, k101, k108, k112, k114, k117, k126, k130, k650, k100000, k1000000, ii_add, ii_sub, ii_neg, ii_mul, ii_lt, ii_le, ii_eq, if_true, if_false, if_pos, if_neg, gI_0, gI_1, gI_2, gI_4, gI_7, gI_15, gI_59, gI_61, gI_62, gI_66, gI_68, gI_71, gI_72, gR_0_0, gR_0_1, gR_0_3, gR_0_4, gR_0_5, gR_0_6, gR_0_7, gR_0_8, gR_1_0, gR_1_1, gR_1_2, gR_2_0, gR_4_0, gR_4_1, gR_15_0, gR_59_0, gR_61_0, gR_61_1, gR_61_2, gR_62_0, gR_62_1, gR_62_2, gR_66_0, gR_66_1, gR_68_0, gR_68_1, gR_71_0, gR_72_0, ld_3, ld_5, ld_6, ld_60, ld_63, ld_64, ld_65, ld_67, ld_69, ld_70, ld_73, st_3, st_5, st_6, st_60, st_63, st_64, st_65, st_67, st_69, st_70, st_73, aL_3, aL_5, aL_6, aL_60, aL_63, aL_64, aL_65, aL_67, aL_69, aL_70, aL_73, pI_0, pI_1, pI_2, pI_4, pI_7, pI_15, pI_59, pI_61, pI_62, pI_66, pI_68, pI_71, pI_72, ld_16, aL_16, if_pos o0, r1, r2, r3, r4, if_pos vf]