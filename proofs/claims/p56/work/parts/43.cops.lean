/-! the calls of the class that change the state -/
theorem cpush {μ : mMm} {A : AS} (hA : AW A) (hC : CI μ.1 A) : ∃ m1, fX1_push oS μ 15 1 = some (m1, μ.2) ∧ (∀ b, b < 15 ∨ 59 ≤ b → m1 b = μ.1 b) ∧ CI m1 (A.sc (if A.c < 6 then A.c + 1 else 6) (pushH A.v A.H)) := by
  obtain ⟨m1, i1, i2, i3⟩ := push_at hA.1 hC.1 hC.2.1
  exact ⟨m1, i1, i2, CI_push i2 i3 hC⟩
theorem CS_no {f : Option ((Int32 ⊕ Nat) × mMm)} {μ : mMm} {r : Int32 ⊕ Nat} {A : AS} (hC : CI μ.1 A) (hf : f = some (r, μ)) : CS f μ r A := ⟨μ.1, hf, fun _ _ => rfl, hC⟩
theorem CI_chg {m0 m1 m' : Nat → Nat → Int32} {A : AS} {v : Int → Int} (i2 : ∀ b, b < 15 ∨ 59 ≤ b → m1 b = m0 b) (i3 : CI m1 (A.sc (if A.c < 6 then A.c + 1 else 6) (pushH A.v A.H))) (h : ∀ b, b < 61 ∨ 74 ≤ b → (b < 1 ∨ 8 ≤ b) → m' b = m1 b) (hR : RS m' 1 v) : (∀ a, 74 ≤ a → m' a = m0 a) ∧ CI m' (chg A v) := ⟨fun a ha => (h a (Or.inr ha) (by omega)).trans (i2 a (by omega)), CI_set (fun b h7 h8 => h b (by omega) h8) hR i3⟩
variable {μ : mMm} {A : AS} {q q2 : Int}
theorem cAddLetter_0 (hC : CI μ.1 A) (h0 : -2147483648 ≤ q) (h1 : q < 2147483648) (hq : ¬ (0 ≤ q ∧ q ≤ 3)) : CS (fX10_addLetter oS μ 0 (ii q)) μ (.inr 0) A := by
  have r := isL_at h0 h1
  rw [if_neg hq] at r
  refine CS_no hC ?_
  unfold fX10_addLetter bX10_addLetter
  simp (disch := omega) only [Option.bind_some, km1, k0, k1, k2, k3, k4, k5, k6, k7, k8, k9, k10, k11, k15, k16, k20, k32, k33, k39, k40, k43, k44, k45, k48, k49, k50, k51, k52, k57, k59, k60, k63, k64, k80, k97, k100, k101, k108, k112, k114, k117, k126, k130, k650, k100000, k1000000, ii_add, ii_sub, ii_neg, ii_mul, ii_lt, ii_le, ii_eq, if_true, if_false, if_pos, if_neg, gI_0, gI_1, gI_2, gI_4, gI_7, gI_15, gI_59, gI_61, gI_62, gI_66, gI_68, gI_71, gI_72, gR_0_0, gR_0_1, gR_0_3, gR_0_4, gR_0_5, gR_0_6, gR_0_7, gR_0_8, gR_1_0, gR_1_1, gR_1_2, gR_2_0, gR_4_0, gR_4_1, gR_15_0, gR_59_0, gR_61_0, gR_61_1, gR_61_2, gR_62_0, gR_62_1, gR_62_2, gR_66_0, gR_66_1, gR_68_0, gR_68_1, gR_71_0, gR_72_0, ld_3, ld_5, ld_6, ld_60, ld_63, ld_64, ld_65, ld_67, ld_69, ld_70, ld_73, st_3, st_5, st_6, st_60, st_63, st_64, st_65, st_67, st_69, st_70, st_73, aL_3, aL_5, aL_6, aL_60, aL_63, aL_64, aL_65, aL_67, aL_69, aL_70, aL_73, pI_0, pI_1, pI_2, pI_4, pI_7, pI_15, pI_59, pI_61, pI_62, pI_66, pI_68, pI_71, pI_72, ld_16, aL_16, if_pos o0, r]
theorem cAddLetter_1 (hA : AW A) (hC : CI μ.1 A) (hq : 0 ≤ q ∧ q ≤ 3) (hf : ¬ A.v 0 < 40) : CS (fX10_addLetter oS μ 0 (ii q)) μ (.inr 1) A := by
  have r := isL_at (q := q) (by omega) (by omega)
  have g0 := wf_0 hA.1
  have hc := rs_c (RS_T hC.1)
  rw [if_pos hq] at r
  refine CS_no hC ?_
  unfold fX10_addLetter bX10_addLetter
  simp (disch := omega) only [Option.bind_some, km1, k0, k1, k2, k3, k4, k5, k6, k7, k8, k9, k10, k11, k15, k16, k20, k32, k33, k39, k40, k43, k44, k45, k48, k49, k50, k51, k52, k57, k59, k60, k63, k64, k80, k97, k100, k101, k108, k112, k114, k117, k126, k130, k650, k100000, k1000000, ii_add, ii_sub, ii_neg, ii_mul, ii_lt, ii_le, ii_eq, if_true, if_false, if_pos, if_neg, gI_0, gI_1, gI_2, gI_4, gI_7, gI_15, gI_59, gI_61, gI_62, gI_66, gI_68, gI_71, gI_72, gR_0_0, gR_0_1, gR_0_3, gR_0_4, gR_0_5, gR_0_6, gR_0_7, gR_0_8, gR_1_0, gR_1_1, gR_1_2, gR_2_0, gR_4_0, gR_4_1, gR_15_0, gR_59_0, gR_61_0, gR_61_1, gR_61_2, gR_62_0, gR_62_1, gR_62_2, gR_66_0, gR_66_1, gR_68_0, gR_68_1, gR_71_0, gR_72_0, ld_3, ld_5, ld_6, ld_60, ld_63, ld_64, ld_65, ld_67, ld_69, ld_70, ld_73, st_3, st_5, st_6, st_60, st_63, st_64, st_65, st_67, st_69, st_70, st_73, aL_3, aL_5, aL_6, aL_60, aL_63, aL_64, aL_65, aL_67, aL_69, aL_70, aL_73, pI_0, pI_1, pI_2, pI_4, pI_7, pI_15, pI_59, pI_61, pI_62, pI_66, pI_68, pI_71, pI_72, ld_16, aL_16, if_pos o0, r, hc]
theorem cAddLetter (hA : AW A) (hC : CI μ.1 A) (hq : 0 ≤ q ∧ q ≤ 3) (hf : A.v 0 < 40) : CS (fX10_addLetter oS μ 0 (ii q)) μ (.inl (ii (A.v 0 + 1))) (chg A (upI (upI A.v (10 + A.v 0) q) 0 (A.v 0 + 1))) := by
  have r := isL_at (q := q) (by omega) (by omega)
  have g0 := wf_0 hA.1
  have hc := rs_c (RS_T hC.1)
  rw [if_pos hq] at r
  obtain ⟨m1, i1, i2, i3⟩ := cpush hA hC
  have hc1 : m1 2 1 = ii (A.v 0) := rs_c (RS_T i3.1)
  have r2 : fX2_put oS (m1, μ.2) 2 (ii q) = some (u2 (u2 m1 3 (A.v 0).toNat (ii q)) 2 1 (ii (A.v 0 + 1)), μ.2) := put_at oLt_2 hc1 g0.1 hf
  refine ⟨u2 (u2 m1 3 (A.v 0).toNat (ii q)) 2 1 (ii (A.v 0 + 1)), ?_, CI_chg i2 i3 (fun b h7 h8 => by simp (disch := omega) only [u2_offr]) (RS_put i3.1 hA.1 hf)⟩
  unfold fX10_addLetter bX10_addLetter
  simp (disch := omega) only [Option.bind_some, km1, k0, k1, k2, k3, k4, k5, k6, k7, k8, k9, k10, k11, k15, k16, k20, k32, k33, k39, k40, k43, k44, k45, k48, k49, k50, k51, k52, k57, k59, k60, k63, k64, k80, k97, k100, k101, k108, k112, k114, k117, k126, k130, k650, k100000, k1000000, ii_add, ii_sub, ii_neg, ii_mul, ii_lt, ii_le, ii_eq, if_true, if_false, if_pos, if_neg, gI_0, gI_1, gI_2, gI_4, gI_7, gI_15, gI_59, gI_61, gI_62, gI_66, gI_68, gI_71, gI_72, gR_0_0, gR_0_1, gR_0_3, gR_0_4, gR_0_5, gR_0_6, gR_0_7, gR_0_8, gR_1_0, gR_1_1, gR_1_2, gR_2_0, gR_4_0, gR_4_1, gR_15_0, gR_59_0, gR_61_0, gR_61_1, gR_61_2, gR_62_0, gR_62_1, gR_62_2, gR_66_0, gR_66_1, gR_68_0, gR_68_1, gR_71_0, gR_72_0, ld_3, ld_5, ld_6, ld_60, ld_63, ld_64, ld_65, ld_67, ld_69, ld_70, ld_73, st_3, st_5, st_6, st_60, st_63, st_64, st_65, st_67, st_69, st_70, st_73, aL_3, aL_5, aL_6, aL_60, aL_63, aL_64, aL_65, aL_67, aL_69, aL_70, aL_73, pI_0, pI_1, pI_2, pI_4, pI_7, pI_15, pI_59, pI_61, pI_62, pI_66, pI_68, pI_71, pI_72, ld_16, aL_16, if_pos o0, r, hc, i1, r2, u2_at]
theorem cSetLetter_2 (hA : AW A) (hC : CI μ.1 A) (h0 : -2147483648 ≤ q) (h1 : q < 2147483648) (hp : ¬ (0 ≤ q ∧ q < A.v 0)) : CS (fX10_setLetter oS μ 0 (ii q) (ii q2)) μ (.inr 2) A := by
  have g0 := wf_0 hA.1
  have r : fX2_has oS μ 2 (ii q) = some (if 0 ≤ q ∧ q < A.v 0 then 1 else 0) := has_at oLt_2 (rs_c (RS_T hC.1)) g0.1 g0.2 h0 h1
  rw [if_neg hp] at r
  refine CS_no hC ?_
  unfold fX10_setLetter bX10_setLetter
  simp (disch := omega) only [Option.bind_some, km1, k0, k1, k2, k3, k4, k5, k6, k7, k8, k9, k10, k11, k15, k16, k20, k32, k33, k39, k40, k43, k44, k45, k48, k49, k50, k51, k52, k57, k59, k60, k63, k64, k80, k97, k100, k101, k108, k112, k114, k117, k126, k130, k650, k100000, k1000000, ii_add, ii_sub, ii_neg, ii_mul, ii_lt, ii_le, ii_eq, if_true, if_false, if_pos, if_neg, gI_0, gI_1, gI_2, gI_4, gI_7, gI_15, gI_59, gI_61, gI_62, gI_66, gI_68, gI_71, gI_72, gR_0_0, gR_0_1, gR_0_3, gR_0_4, gR_0_5, gR_0_6, gR_0_7, gR_0_8, gR_1_0, gR_1_1, gR_1_2, gR_2_0, gR_4_0, gR_4_1, gR_15_0, gR_59_0, gR_61_0, gR_61_1, gR_61_2, gR_62_0, gR_62_1, gR_62_2, gR_66_0, gR_66_1, gR_68_0, gR_68_1, gR_71_0, gR_72_0, ld_3, ld_5, ld_6, ld_60, ld_63, ld_64, ld_65, ld_67, ld_69, ld_70, ld_73, st_3, st_5, st_6, st_60, st_63, st_64, st_65, st_67, st_69, st_70, st_73, aL_3, aL_5, aL_6, aL_60, aL_63, aL_64, aL_65, aL_67, aL_69, aL_70, aL_73, pI_0, pI_1, pI_2, pI_4, pI_7, pI_15, pI_59, pI_61, pI_62, pI_66, pI_68, pI_71, pI_72, ld_16, aL_16, if_pos o0, r]
theorem cSetLetter_0 (hA : AW A) (hC : CI μ.1 A) (hp : 0 ≤ q ∧ q < A.v 0) (h0 : -2147483648 ≤ q2) (h1 : q2 < 2147483648) (hq : ¬ (0 ≤ q2 ∧ q2 ≤ 3)) : CS (fX10_setLetter oS μ 0 (ii q) (ii q2)) μ (.inr 0) A := by
  have g0 := wf_0 hA.1
  have r : fX2_has oS μ 2 (ii q) = some (if 0 ≤ q ∧ q < A.v 0 then 1 else 0) := has_at oLt_2 (rs_c (RS_T hC.1)) g0.1 g0.2 (by omega) (by omega)
  have r2 := isL_at h0 h1
  rw [if_pos hp] at r
  rw [if_neg hq] at r2
  refine CS_no hC ?_
  unfold fX10_setLetter bX10_setLetter
  simp (disch := omega) only [Option.bind_some, km1, k0, k1, k2, k3, k4, k5, k6, k7, k8, k9, k10, k11, k15, k16, k20, k32, k33, k39, k40, k43, k44, k45, k48, k49, k50, k51, k52, k57, k59, k60, k63, k64, k80, k97, k100, k101, k108, k112, k114, k117, k126, k130, k650, k100000, k1000000, ii_add, ii_sub, ii_neg, ii_mul, ii_lt, ii_le, ii_eq, if_true, if_false, if_pos, if_neg, gI_0, gI_1, gI_2, gI_4, gI_7, gI_15, gI_59, gI_61, gI_62, gI_66, gI_68, gI_71, gI_72, gR_0_0, gR_0_1, gR_0_3, gR_0_4, gR_0_5, gR_0_6, gR_0_7, gR_0_8, gR_1_0, gR_1_1, gR_1_2, gR_2_0, gR_4_0, gR_4_1, gR_15_0, gR_59_0, gR_61_0, gR_61_1, gR_61_2, gR_62_0, gR_62_1, gR_62_2, gR_66_0, gR_66_1, gR_68_0, gR_68_1, gR_71_0, gR_72_0, ld_3, ld_5, ld_6, ld_60, ld_63, ld_64, ld_65, ld_67, ld_69, ld_70, ld_73, st_3, st_5, st_6, st_60, st_63, st_64, st_65, st_67, st_69, st_70, st_73, aL_3, aL_5, aL_6, aL_60, aL_63, aL_64, aL_65, aL_67, aL_69, aL_70, aL_73, pI_0, pI_1, pI_2, pI_4, pI_7, pI_15, pI_59, pI_61, pI_62, pI_66, pI_68, pI_71, pI_72, ld_16, aL_16, if_pos o0, r, r2]
theorem cSetLetter (hA : AW A) (hC : CI μ.1 A) (hp : 0 ≤ q ∧ q < A.v 0) (hq : 0 ≤ q2 ∧ q2 ≤ 3) : CS (fX10_setLetter oS μ 0 (ii q) (ii q2)) μ (.inl (ii (tx A.v q))) (chg A (upI A.v (10 + q) q2)) := by
  have g0 := wf_0 hA.1
  have r : fX2_has oS μ 2 (ii q) = some (if 0 ≤ q ∧ q < A.v 0 then 1 else 0) := has_at oLt_2 (rs_c (RS_T hC.1)) g0.1 g0.2 (by omega) (by omega)
  have r2 := isL_at (q := q2) (by omega) (by omega)
  rw [if_pos hp] at r
  rw [if_pos hq] at r2
  obtain ⟨m1, i1, i2, i3⟩ := cpush hA hC
  have hc1 : m1 2 1 = ii (A.v 0) := rs_c (RS_T i3.1)
  have r3 : fX2_get oS (m1, μ.2) 2 (ii q) = some (m1 3 q.toNat) := get_at oLt_2 hc1 hp.1 hp.2 g0.2
  rw [show m1 3 q.toNat = ii (tx A.v q) from rs_t (RS_T i3.1) q hp.1 hp.2] at r3
  have r4 : fX2_replace oS (m1, μ.2) 2 (ii q) (ii q2) = some (u2 m1 3 q.toNat (ii q2), μ.2) := replace_at oLt_2 hp.1 (by omega)
  refine ⟨u2 m1 3 q.toNat (ii q2), ?_, CI_chg i2 i3 (fun b h7 h8 => by simp (disch := omega) only [u2_offr]) (RS_rep i3.1 hA.1 hp.1 hp.2)⟩
  unfold fX10_setLetter bX10_setLetter
  simp (disch := omega) only [Option.bind_some, km1, k0, k1, k2, k3, k4, k5, k6, k7, k8, k9, k10, k11, k15, k16, k20, k32, k33, k39, k40, k43, k44, k45, k48, k49, k50, k51, k52, k57, k59, k60, k63, k64, k80, k97, k100, k101, k108, k112, k114, k117, k126, k130, k650, k100000, k1000000, ii_add, ii_sub, ii_neg, ii_mul, ii_lt, ii_le, ii_eq, if_true, if_false, if_pos, if_neg, gI_0, gI_1, gI_2, gI_4, gI_7, gI_15, gI_59, gI_61, gI_62, gI_66, gI_68, gI_71, gI_72, gR_0_0, gR_0_1, gR_0_3, gR_0_4, gR_0_5, gR_0_6, gR_0_7, gR_0_8, gR_1_0, gR_1_1, gR_1_2, gR_2_0, gR_4_0, gR_4_1, gR_15_0, gR_59_0, gR_61_0, gR_61_1, gR_61_2, gR_62_0, gR_62_1, gR_62_2, gR_66_0, gR_66_1, gR_68_0, gR_68_1, gR_71_0, gR_72_0, ld_3, ld_5, ld_6, ld_60, ld_63, ld_64, ld_65, ld_67, ld_69, ld_70, ld_73, st_3, st_5, st_6, st_60, st_63, st_64, st_65, st_67, st_69, st_70, st_73, aL_3, aL_5, aL_6, aL_60, aL_63, aL_64, aL_65, aL_67, aL_69, aL_70, aL_73, pI_0, pI_1, pI_2, pI_4, pI_7, pI_15, pI_59, pI_61, pI_62, pI_66, pI_68, pI_71, pI_72, ld_16, aL_16, if_pos o0, r, r2, i1, r3, r4]
theorem cEmptyText (hA : AW A) (hC : CI μ.1 A) : ∃ m', fX10_emptyText oS μ 0 = some (ii (A.v 0), (m', μ.2)) ∧ (∀ a, 74 ≤ a → m' a = μ.1 a) ∧ CI m' (chg A (clr (upI A.v 0 0) 10 40)) := by
  obtain ⟨m1, i1, i2, i3⟩ := cpush hA hC
  have hc1 : m1 2 1 = ii (A.v 0) := rs_c (RS_T i3.1)
  have r2 : fX2_clear oS (m1, μ.2) 2 = some (u2 m1 2 1 (ii 0), μ.2) := lclear_at oLt_2
  refine ⟨u2 m1 2 1 (ii 0), ?_, CI_chg i2 i3 (fun b h7 h8 => by simp (disch := omega) only [u2_offr]) (RS_lcl i3.1 hA.1)⟩
  unfold fX10_emptyText bX10_emptyText
  simp (disch := omega) only [Option.bind_some, km1, k0, k1, k2, k3, k4, k5, k6, k7, k8, k9, k10, k11, k15, k16, k20, k32, k33, k39, k40, k43, k44, k45, k48, k49, k50, k51, k52, k57, k59, k60, k63, k64, k80, k97, k100, k101, k108, k112, k114, k117, k126, k130, k650, k100000, k1000000, ii_add, ii_sub, ii_neg, ii_mul, ii_lt, ii_le, ii_eq, if_true, if_false, if_pos, if_neg, gI_0, gI_1, gI_2, gI_4, gI_7, gI_15, gI_59, gI_61, gI_62, gI_66, gI_68, gI_71, gI_72, gR_0_0, gR_0_1, gR_0_3, gR_0_4, gR_0_5, gR_0_6, gR_0_7, gR_0_8, gR_1_0, gR_1_1, gR_1_2, gR_2_0, gR_4_0, gR_4_1, gR_15_0, gR_59_0, gR_61_0, gR_61_1, gR_61_2, gR_62_0, gR_62_1, gR_62_2, gR_66_0, gR_66_1, gR_68_0, gR_68_1, gR_71_0, gR_72_0, ld_3, ld_5, ld_6, ld_60, ld_63, ld_64, ld_65, ld_67, ld_69, ld_70, ld_73, st_3, st_5, st_6, st_60, st_63, st_64, st_65, st_67, st_69, st_70, st_73, aL_3, aL_5, aL_6, aL_60, aL_63, aL_64, aL_65, aL_67, aL_69, aL_70, aL_73, pI_0, pI_1, pI_2, pI_4, pI_7, pI_15, pI_59, pI_61, pI_62, pI_66, pI_68, pI_71, pI_72, ld_16, aL_16, if_pos o0, i1, hc1, r2]
theorem cEmptySack (hA : AW A) (hC : CI μ.1 A) : ∃ m', fX10_emptySack oS μ 0 = some (ii (A.v 6), (m', μ.2)) ∧ (∀ a, 74 ≤ a → m' a = μ.1 a) ∧ CI m' (chg A (clr (upI A.v 6 0) 50 80)) := by
  obtain ⟨m1, i1, i2, i3⟩ := cpush hA hC
  have hc1 : m1 4 2 = ii (A.v 6) := rs_k i3.1
  have r2 : fX5_clear oS (m1, μ.2) 4 = some (u2 m1 4 2 (ii 0), μ.2) := sclear_at oSk_4
  refine ⟨u2 m1 4 2 (ii 0), ?_, CI_chg i2 i3 (fun b h7 h8 => by simp (disch := omega) only [u2_offr]) (RS_scl i3.1 hA.1)⟩
  unfold fX10_emptySack bX10_emptySack
  simp (disch := omega) only [Option.bind_some, km1, k0, k1, k2, k3, k4, k5, k6, k7, k8, k9, k10, k11, k15, k16, k20, k32, k33, k39, k40, k43, k44, k45, k48, k49, k50, k51, k52, k57, k59, k60, k63, k64, k80, k97, k100, k101, k108, k112, k114, k117, k126, k130, k650, k100000, k1000000, ii_add, ii_sub, ii_neg, ii_mul, ii_lt, ii_le, ii_eq, if_true, if_false, if_pos, if_neg, gI_0, gI_1, gI_2, gI_4, gI_7, gI_15, gI_59, gI_61, gI_62, gI_66, gI_68, gI_71, gI_72, gR_0_0, gR_0_1, gR_0_3, gR_0_4, gR_0_5, gR_0_6, gR_0_7, gR_0_8, gR_1_0, gR_1_1, gR_1_2, gR_2_0, gR_4_0, gR_4_1, gR_15_0, gR_59_0, gR_61_0, gR_61_1, gR_61_2, gR_62_0, gR_62_1, gR_62_2, gR_66_0, gR_66_1, gR_68_0, gR_68_1, gR_71_0, gR_72_0, ld_3, ld_5, ld_6, ld_60, ld_63, ld_64, ld_65, ld_67, ld_69, ld_70, ld_73, st_3, st_5, st_6, st_60, st_63, st_64, st_65, st_67, st_69, st_70, st_73, aL_3, aL_5, aL_6, aL_60, aL_63, aL_64, aL_65, aL_67, aL_69, aL_70, aL_73, pI_0, pI_1, pI_2, pI_4, pI_7, pI_15, pI_59, pI_61, pI_62, pI_66, pI_68, pI_71, pI_72, ld_16, aL_16, if_pos o0, i1, hc1, r2]
theorem cSetWindow_0 (hC : CI μ.1 A) (h0 : -2147483648 ≤ q) (h1 : q < 2147483648) (hq : ¬ (1 ≤ q ∧ q ≤ 32)) : CS (fX10_setWindow oS μ 0 (ii q)) μ (.inr 0) A := by
  have r : fX10_isBetween (ii q) (ii 1) (ii 32) = _ := isB_at h0 h1 (by omega) (by omega) (by omega)
  rw [if_neg hq] at r
  refine CS_no hC ?_
  unfold fX10_setWindow bX10_setWindow
  simp (disch := omega) only [Option.bind_some, km1, k0, k1, k2, k3, k4, k5, k6, k7, k8, k9, k10, k11, k15, k16, k20, k32, k33, k39, k40, k43, k44, k45, k48, k49, k50, k51, k52, k57, k59, k60, k63, k64, k80, k97, k100, k101, k108, k112, k114, k117, k126, k130, k650, k100000, k1000000, ii_add, ii_sub, ii_neg, ii_mul, ii_lt, ii_le, ii_eq, if_true, if_false, if_pos, if_neg, gI_0, gI_1, gI_2, gI_4, gI_7, gI_15, gI_59, gI_61, gI_62, gI_66, gI_68, gI_71, gI_72, gR_0_0, gR_0_1, gR_0_3, gR_0_4, gR_0_5, gR_0_6, gR_0_7, gR_0_8, gR_1_0, gR_1_1, gR_1_2, gR_2_0, gR_4_0, gR_4_1, gR_15_0, gR_59_0, gR_61_0, gR_61_1, gR_61_2, gR_62_0, gR_62_1, gR_62_2, gR_66_0, gR_66_1, gR_68_0, gR_68_1, gR_71_0, gR_72_0, ld_3, ld_5, ld_6, ld_60, ld_63, ld_64, ld_65, ld_67, ld_69, ld_70, ld_73, st_3, st_5, st_6, st_60, st_63, st_64, st_65, st_67, st_69, st_70, st_73, aL_3, aL_5, aL_6, aL_60, aL_63, aL_64, aL_65, aL_67, aL_69, aL_70, aL_73, pI_0, pI_1, pI_2, pI_4, pI_7, pI_15, pI_59, pI_61, pI_62, pI_66, pI_68, pI_71, pI_72, ld_16, aL_16, if_pos o0, r]
theorem cSetWindow (hA : AW A) (hC : CI μ.1 A) (hq : 1 ≤ q ∧ q ≤ 32) : CS (fX10_setWindow oS μ 0 (ii q)) μ (.inl (ii (A.v 1))) (chg A (upI A.v 1 q)) := by
  have r : fX10_isBetween (ii q) (ii 1) (ii 32) = _ := isB_at (by omega) (by omega) (by omega) (by omega) (by omega)
  rw [if_pos hq] at r
  obtain ⟨m1, i1, i2, i3⟩ := cpush hA hC
  have hc1 : m1 7 0 = ii (A.v 1) := rs_w (RS_T i3.1)
  refine ⟨u2 m1 7 0 (ii q), ?_, CI_chg i2 i3 (fun b h7 h8 => by simp (disch := omega) only [u2_offr]) (RS_s1 i3.1)⟩
  unfold fX10_setWindow bX10_setWindow
  simp (disch := omega) only [Option.bind_some, km1, k0, k1, k2, k3, k4, k5, k6, k7, k8, k9, k10, k11, k15, k16, k20, k32, k33, k39, k40, k43, k44, k45, k48, k49, k50, k51, k52, k57, k59, k60, k63, k64, k80, k97, k100, k101, k108, k112, k114, k117, k126, k130, k650, k100000, k1000000, ii_add, ii_sub, ii_neg, ii_mul, ii_lt, ii_le, ii_eq, if_true, if_false, if_pos, if_neg, gI_0, gI_1, gI_2, gI_4, gI_7, gI_15, gI_59, gI_61, gI_62, gI_66, gI_68, gI_71, gI_72, gR_0_0, gR_0_1, gR_0_3, gR_0_4, gR_0_5, gR_0_6, gR_0_7, gR_0_8, gR_1_0, gR_1_1, gR_1_2, gR_2_0, gR_4_0, gR_4_1, gR_15_0, gR_59_0, gR_61_0, gR_61_1, gR_61_2, gR_62_0, gR_62_1, gR_62_2, gR_66_0, gR_66_1, gR_68_0, gR_68_1, gR_71_0, gR_72_0, ld_3, ld_5, ld_6, ld_60, ld_63, ld_64, ld_65, ld_67, ld_69, ld_70, ld_73, st_3, st_5, st_6, st_60, st_63, st_64, st_65, st_67, st_69, st_70, st_73, aL_3, aL_5, aL_6, aL_60, aL_63, aL_64, aL_65, aL_67, aL_69, aL_70, aL_73, pI_0, pI_1, pI_2, pI_4, pI_7, pI_15, pI_59, pI_61, pI_62, pI_66, pI_68, pI_71, pI_72, ld_16, aL_16, if_pos o0, r, i1, hc1]
theorem cSetShortest_0 (hC : CI μ.1 A) (h0 : -2147483648 ≤ q) (h1 : q < 2147483648) (hq : ¬ (2 ≤ q ∧ q ≤ 4)) : CS (fX10_setShortest oS μ 0 (ii q)) μ (.inr 0) A := by
  have r : fX10_isBetween (ii q) (ii 2) (ii 4) = _ := isB_at h0 h1 (by omega) (by omega) (by omega)
  rw [if_neg hq] at r
  refine CS_no hC ?_
  unfold fX10_setShortest bX10_setShortest
  simp (disch := omega) only [Option.bind_some, km1, k0, k1, k2, k3, k4, k5, k6, k7, k8, k9, k10, k11, k15, k16, k20, k32, k33, k39, k40, k43, k44, k45, k48, k49, k50, k51, k52, k57, k59, k60, k63, k64, k80, k97, k100, k101, k108, k112, k114, k117, k126, k130, k650, k100000, k1000000, ii_add, ii_sub, ii_neg, ii_mul, ii_lt, ii_le, ii_eq, if_true, if_false, if_pos, if_neg, gI_0, gI_1, gI_2, gI_4, gI_7, gI_15, gI_59, gI_61, gI_62, gI_66, gI_68, gI_71, gI_72, gR_0_0, gR_0_1, gR_0_3, gR_0_4, gR_0_5, gR_0_6, gR_0_7, gR_0_8, gR_1_0, gR_1_1, gR_1_2, gR_2_0, gR_4_0, gR_4_1, gR_15_0, gR_59_0, gR_61_0, gR_61_1, gR_61_2, gR_62_0, gR_62_1, gR_62_2, gR_66_0, gR_66_1, gR_68_0, gR_68_1, gR_71_0, gR_72_0, ld_3, ld_5, ld_6, ld_60, ld_63, ld_64, ld_65, ld_67, ld_69, ld_70, ld_73, st_3, st_5, st_6, st_60, st_63, st_64, st_65, st_67, st_69, st_70, st_73, aL_3, aL_5, aL_6, aL_60, aL_63, aL_64, aL_65, aL_67, aL_69, aL_70, aL_73, pI_0, pI_1, pI_2, pI_4, pI_7, pI_15, pI_59, pI_61, pI_62, pI_66, pI_68, pI_71, pI_72, ld_16, aL_16, if_pos o0, r]
theorem cSetShortest (hA : AW A) (hC : CI μ.1 A) (hq : 2 ≤ q ∧ q ≤ 4) : CS (fX10_setShortest oS μ 0 (ii q)) μ (.inl (ii (A.v 2))) (chg A (upI A.v 2 q)) := by
  have r : fX10_isBetween (ii q) (ii 2) (ii 4) = _ := isB_at (by omega) (by omega) (by omega) (by omega) (by omega)
  rw [if_pos hq] at r
  obtain ⟨m1, i1, i2, i3⟩ := cpush hA hC
  have hc1 : m1 7 1 = ii (A.v 2) := rs_s (RS_T i3.1)
  refine ⟨u2 m1 7 1 (ii q), ?_, CI_chg i2 i3 (fun b h7 h8 => by simp (disch := omega) only [u2_offr]) (RS_s2 i3.1)⟩
  unfold fX10_setShortest bX10_setShortest
  simp (disch := omega) only [Option.bind_some, km1, k0, k1, k2, k3, k4, k5, k6, k7, k8, k9, k10, k11, k15, k16, k20, k32, k33, k39, k40, k43, k44, k45, k48, k49, k50, k51, k52, k57, k59, k60, k63, k64, k80, k97, k100, k101, k108, k112, k114, k117, k126, k130, k650, k100000, k1000000, ii_add, ii_sub, ii_neg, ii_mul, ii_lt, ii_le, ii_eq, if_true, if_false, if_pos, if_neg, gI_0, gI_1, gI_2, gI_4, gI_7, gI_15, gI_59, gI_61, gI_62, gI_66, gI_68, gI_71, gI_72, gR_0_0, gR_0_1, gR_0_3, gR_0_4, gR_0_5, gR_0_6, gR_0_7, gR_0_8, gR_1_0, gR_1_1, gR_1_2, gR_2_0, gR_4_0, gR_4_1, gR_15_0, gR_59_0, gR_61_0, gR_61_1, gR_61_2, gR_62_0, gR_62_1, gR_62_2, gR_66_0, gR_66_1, gR_68_0, gR_68_1, gR_71_0, gR_72_0, ld_3, ld_5, ld_6, ld_60, ld_63, ld_64, ld_65, ld_67, ld_69, ld_70, ld_73, st_3, st_5, st_6, st_60, st_63, st_64, st_65, st_67, st_69, st_70, st_73, aL_3, aL_5, aL_6, aL_60, aL_63, aL_64, aL_65, aL_67, aL_69, aL_70, aL_73, pI_0, pI_1, pI_2, pI_4, pI_7, pI_15, pI_59, pI_61, pI_62, pI_66, pI_68, pI_71, pI_72, ld_16, aL_16, if_pos o0, r, i1, hc1]
theorem cSetLongest_0 (hC : CI μ.1 A) (h0 : -2147483648 ≤ q) (h1 : q < 2147483648) (hq : ¬ (4 ≤ q ∧ q ≤ 9)) : CS (fX10_setLongest oS μ 0 (ii q)) μ (.inr 0) A := by
  have r : fX10_isBetween (ii q) (ii 4) (ii 9) = _ := isB_at h0 h1 (by omega) (by omega) (by omega)
  rw [if_neg hq] at r
  refine CS_no hC ?_
  unfold fX10_setLongest bX10_setLongest
  simp (disch := omega) only [Option.bind_some, km1, k0, k1, k2, k3, k4, k5, k6, k7, k8, k9, k10, k11, k15, k16, k20, k32, k33, k39, k40, k43, k44, k45, k48, k49, k50, k51, k52, k57, k59, k60, k63, k64, k80, k97, k100, k101, k108, k112, k114, k117, k126, k130, k650, k100000, k1000000, ii_add, ii_sub, ii_neg, ii_mul, ii_lt, ii_le, ii_eq, if_true, if_false, if_pos, if_neg, gI_0, gI_1, gI_2, gI_4, gI_7, gI_15, gI_59, gI_61, gI_62, gI_66, gI_68, gI_71, gI_72, gR_0_0, gR_0_1, gR_0_3, gR_0_4, gR_0_5, gR_0_6, gR_0_7, gR_0_8, gR_1_0, gR_1_1, gR_1_2, gR_2_0, gR_4_0, gR_4_1, gR_15_0, gR_59_0, gR_61_0, gR_61_1, gR_61_2, gR_62_0, gR_62_1, gR_62_2, gR_66_0, gR_66_1, gR_68_0, gR_68_1, gR_71_0, gR_72_0, ld_3, ld_5, ld_6, ld_60, ld_63, ld_64, ld_65, ld_67, ld_69, ld_70, ld_73, st_3, st_5, st_6, st_60, st_63, st_64, st_65, st_67, st_69, st_70, st_73, aL_3, aL_5, aL_6, aL_60, aL_63, aL_64, aL_65, aL_67, aL_69, aL_70, aL_73, pI_0, pI_1, pI_2, pI_4, pI_7, pI_15, pI_59, pI_61, pI_62, pI_66, pI_68, pI_71, pI_72, ld_16, aL_16, if_pos o0, r]
theorem cSetLongest (hA : AW A) (hC : CI μ.1 A) (hq : 4 ≤ q ∧ q ≤ 9) : CS (fX10_setLongest oS μ 0 (ii q)) μ (.inl (ii (A.v 3))) (chg A (upI A.v 3 q)) := by
  have r : fX10_isBetween (ii q) (ii 4) (ii 9) = _ := isB_at (by omega) (by omega) (by omega) (by omega) (by omega)
  rw [if_pos hq] at r
  obtain ⟨m1, i1, i2, i3⟩ := cpush hA hC
  have hc1 : m1 7 2 = ii (A.v 3) := rs_l (RS_T i3.1)
  refine ⟨u2 m1 7 2 (ii q), ?_, CI_chg i2 i3 (fun b h7 h8 => by simp (disch := omega) only [u2_offr]) (RS_s3 i3.1)⟩
  unfold fX10_setLongest bX10_setLongest
  simp (disch := omega) only [Option.bind_some, km1, k0, k1, k2, k3, k4, k5, k6, k7, k8, k9, k10, k11, k15, k16, k20, k32, k33, k39, k40, k43, k44, k45, k48, k49, k50, k51, k52, k57, k59, k60, k63, k64, k80, k97, k100, k101, k108, k112, k114, k117, k126, k130, k650, k100000, k1000000, ii_add, ii_sub, ii_neg, ii_mul, ii_lt, ii_le, ii_eq, if_true, if_false, if_pos, if_neg, gI_0, gI_1, gI_2, gI_4, gI_7, gI_15, gI_59, gI_61, gI_62, gI_66, gI_68, gI_71, gI_72, gR_0_0, gR_0_1, gR_0_3, gR_0_4, gR_0_5, gR_0_6, gR_0_7, gR_0_8, gR_1_0, gR_1_1, gR_1_2, gR_2_0, gR_4_0, gR_4_1, gR_15_0, gR_59_0, gR_61_0, gR_61_1, gR_61_2, gR_62_0, gR_62_1, gR_62_2, gR_66_0, gR_66_1, gR_68_0, gR_68_1, gR_71_0, gR_72_0, ld_3, ld_5, ld_6, ld_60, ld_63, ld_64, ld_65, ld_67, ld_69, ld_70, ld_73, st_3, st_5, st_6, st_60, st_63, st_64, st_65, st_67, st_69, st_70, st_73, aL_3, aL_5, aL_6, aL_60, aL_63, aL_64, aL_65, aL_67, aL_69, aL_70, aL_73, pI_0, pI_1, pI_2, pI_4, pI_7, pI_15, pI_59, pI_61, pI_62, pI_66, pI_68, pI_71, pI_72, ld_16, aL_16, if_pos o0, r, i1, hc1]
theorem cSetLetterPrice_0 (hC : CI μ.1 A) (h0 : -2147483648 ≤ q) (h1 : q < 2147483648) (hq : ¬ (1 ≤ q ∧ q ≤ 9)) : CS (fX10_setLetterPrice oS μ 0 (ii q)) μ (.inr 0) A := by
  have r : fX10_isBetween (ii q) (ii 1) (ii 9) = _ := isB_at h0 h1 (by omega) (by omega) (by omega)
  rw [if_neg hq] at r
  refine CS_no hC ?_
  unfold fX10_setLetterPrice bX10_setLetterPrice
  simp (disch := omega) only [Option.bind_some, km1, k0, k1, k2, k3, k4, k5, k6, k7, k8, k9, k10, k11, k15, k16, k20, k32, k33, k39, k40, k43, k44, k45, k48, k49, k50, k51, k52, k57, k59, k60, k63, k64, k80, k97, k100, k101, k108, k112, k114, k117, k126, k130, k650, k100000, k1000000, ii_add, ii_sub, ii_neg, ii_mul, ii_lt, ii_le, ii_eq, if_true, if_false, if_pos, if_neg, gI_0, gI_1, gI_2, gI_4, gI_7, gI_15, gI_59, gI_61, gI_62, gI_66, gI_68, gI_71, gI_72, gR_0_0, gR_0_1, gR_0_3, gR_0_4, gR_0_5, gR_0_6, gR_0_7, gR_0_8, gR_1_0, gR_1_1, gR_1_2, gR_2_0, gR_4_0, gR_4_1, gR_15_0, gR_59_0, gR_61_0, gR_61_1, gR_61_2, gR_62_0, gR_62_1, gR_62_2, gR_66_0, gR_66_1, gR_68_0, gR_68_1, gR_71_0, gR_72_0, ld_3, ld_5, ld_6, ld_60, ld_63, ld_64, ld_65, ld_67, ld_69, ld_70, ld_73, st_3, st_5, st_6, st_60, st_63, st_64, st_65, st_67, st_69, st_70, st_73, aL_3, aL_5, aL_6, aL_60, aL_63, aL_64, aL_65, aL_67, aL_69, aL_70, aL_73, pI_0, pI_1, pI_2, pI_4, pI_7, pI_15, pI_59, pI_61, pI_62, pI_66, pI_68, pI_71, pI_72, ld_16, aL_16, if_pos o0, r]
theorem cSetLetterPrice (hA : AW A) (hC : CI μ.1 A) (hq : 1 ≤ q ∧ q ≤ 9) : CS (fX10_setLetterPrice oS μ 0 (ii q)) μ (.inl (ii (A.v 4))) (chg A (upI A.v 4 q)) := by
  have r : fX10_isBetween (ii q) (ii 1) (ii 9) = _ := isB_at (by omega) (by omega) (by omega) (by omega) (by omega)
  rw [if_pos hq] at r
  obtain ⟨m1, i1, i2, i3⟩ := cpush hA hC
  have hc1 : m1 7 3 = ii (A.v 4) := rs_lp (RS_T i3.1)
  refine ⟨u2 m1 7 3 (ii q), ?_, CI_chg i2 i3 (fun b h7 h8 => by simp (disch := omega) only [u2_offr]) (RS_s4 i3.1)⟩
  unfold fX10_setLetterPrice bX10_setLetterPrice
  simp (disch := omega) only [Option.bind_some, km1, k0, k1, k2, k3, k4, k5, k6, k7, k8, k9, k10, k11, k15, k16, k20, k32, k33, k39, k40, k43, k44, k45, k48, k49, k50, k51, k52, k57, k59, k60, k63, k64, k80, k97, k100, k101, k108, k112, k114, k117, k126, k130, k650, k100000, k1000000, ii_add, ii_sub, ii_neg, ii_mul, ii_lt, ii_le, ii_eq, if_true, if_false, if_pos, if_neg, gI_0, gI_1, gI_2, gI_4, gI_7, gI_15, gI_59, gI_61, gI_62, gI_66, gI_68, gI_71, gI_72, gR_0_0, gR_0_1, gR_0_3, gR_0_4, gR_0_5, gR_0_6, gR_0_7, gR_0_8, gR_1_0, gR_1_1, gR_1_2, gR_2_0, gR_4_0, gR_4_1, gR_15_0, gR_59_0, gR_61_0, gR_61_1, gR_61_2, gR_62_0, gR_62_1, gR_62_2, gR_66_0, gR_66_1, gR_68_0, gR_68_1, gR_71_0, gR_72_0, ld_3, ld_5, ld_6, ld_60, ld_63, ld_64, ld_65, ld_67, ld_69, ld_70, ld_73, st_3, st_5, st_6, st_60, st_63, st_64, st_65, st_67, st_69, st_70, st_73, aL_3, aL_5, aL_6, aL_60, aL_63, aL_64, aL_65, aL_67, aL_69, aL_70, aL_73, pI_0, pI_1, pI_2, pI_4, pI_7, pI_15, pI_59, pI_61, pI_62, pI_66, pI_68, pI_71, pI_72, ld_16, aL_16, if_pos o0, r, i1, hc1]
theorem cSetRepeatPrice_0 (hC : CI μ.1 A) (h0 : -2147483648 ≤ q) (h1 : q < 2147483648) (hq : ¬ (1 ≤ q ∧ q ≤ 20)) : CS (fX10_setRepeatPrice oS μ 0 (ii q)) μ (.inr 0) A := by
  have r : fX10_isBetween (ii q) (ii 1) (ii 20) = _ := isB_at h0 h1 (by omega) (by omega) (by omega)
  rw [if_neg hq] at r
  refine CS_no hC ?_
  unfold fX10_setRepeatPrice bX10_setRepeatPrice
  simp (disch := omega) only [Option.bind_some, km1, k0, k1, k2, k3, k4, k5, k6, k7, k8, k9, k10, k11, k15, k16, k20, k32, k33, k39, k40, k43, k44, k45, k48, k49, k50, k51, k52, k57, k59, k60, k63, k64, k80, k97, k100, k101, k108, k112, k114, k117, k126, k130, k650, k100000, k1000000, ii_add, ii_sub, ii_neg, ii_mul, ii_lt, ii_le, ii_eq, if_true, if_false, if_pos, if_neg, gI_0, gI_1, gI_2, gI_4, gI_7, gI_15, gI_59, gI_61, gI_62, gI_66, gI_68, gI_71, gI_72, gR_0_0, gR_0_1, gR_0_3, gR_0_4, gR_0_5, gR_0_6, gR_0_7, gR_0_8, gR_1_0, gR_1_1, gR_1_2, gR_2_0, gR_4_0, gR_4_1, gR_15_0, gR_59_0, gR_61_0, gR_61_1, gR_61_2, gR_62_0, gR_62_1, gR_62_2, gR_66_0, gR_66_1, gR_68_0, gR_68_1, gR_71_0, gR_72_0, ld_3, ld_5, ld_6, ld_60, ld_63, ld_64, ld_65, ld_67, ld_69, ld_70, ld_73, st_3, st_5, st_6, st_60, st_63, st_64, st_65, st_67, st_69, st_70, st_73, aL_3, aL_5, aL_6, aL_60, aL_63, aL_64, aL_65, aL_67, aL_69, aL_70, aL_73, pI_0, pI_1, pI_2, pI_4, pI_7, pI_15, pI_59, pI_61, pI_62, pI_66, pI_68, pI_71, pI_72, ld_16, aL_16, if_pos o0, r]
theorem cSetRepeatPrice (hA : AW A) (hC : CI μ.1 A) (hq : 1 ≤ q ∧ q ≤ 20) : CS (fX10_setRepeatPrice oS μ 0 (ii q)) μ (.inl (ii (A.v 5))) (chg A (upI A.v 5 q)) := by
  have r : fX10_isBetween (ii q) (ii 1) (ii 20) = _ := isB_at (by omega) (by omega) (by omega) (by omega) (by omega)
  rw [if_pos hq] at r
  obtain ⟨m1, i1, i2, i3⟩ := cpush hA hC
  have hc1 : m1 7 4 = ii (A.v 5) := rs_rp (RS_T i3.1)
  refine ⟨u2 m1 7 4 (ii q), ?_, CI_chg i2 i3 (fun b h7 h8 => by simp (disch := omega) only [u2_offr]) (RS_s5 i3.1)⟩
  unfold fX10_setRepeatPrice bX10_setRepeatPrice
  simp (disch := omega) only [Option.bind_some, km1, k0, k1, k2, k3, k4, k5, k6, k7, k8, k9, k10, k11, k15, k16, k20, k32, k33, k39, k40, k43, k44, k45, k48, k49, k50, k51, k52, k57, k59, k60, k63, k64, k80, k97, k100, k101, k108, k112, k114, k117, k126, k130, k650, k100000, k1000000, ii_add, ii_sub, ii_neg, ii_mul, ii_lt, ii_le, ii_eq, if_true, if_false, if_pos, if_neg, gI_0, gI_1, gI_2, gI_4, gI_7, gI_15, gI_59, gI_61, gI_62, gI_66, gI_68, gI_71, gI_72, gR_0_0, gR_0_1, gR_0_3, gR_0_4, gR_0_5, gR_0_6, gR_0_7, gR_0_8, gR_1_0, gR_1_1, gR_1_2, gR_2_0, gR_4_0, gR_4_1, gR_15_0, gR_59_0, gR_61_0, gR_61_1, gR_61_2, gR_62_0, gR_62_1, gR_62_2, gR_66_0, gR_66_1, gR_68_0, gR_68_1, gR_71_0, gR_72_0, ld_3, ld_5, ld_6, ld_60, ld_63, ld_64, ld_65, ld_67, ld_69, ld_70, ld_73, st_3, st_5, st_6, st_60, st_63, st_64, st_65, st_67, st_69, st_70, st_73, aL_3, aL_5, aL_6, aL_60, aL_63, aL_64, aL_65, aL_67, aL_69, aL_70, aL_73, pI_0, pI_1, pI_2, pI_4, pI_7, pI_15, pI_59, pI_61, pI_62, pI_66, pI_68, pI_71, pI_72, ld_16, aL_16, if_pos o0, r, i1, hc1]
