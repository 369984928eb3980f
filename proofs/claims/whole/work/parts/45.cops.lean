/-! the calls of the class over saved states and the buffer -/
variable {μ : mMm} {A : AS} {q q2 : Int}
def popA (A : AS) : AS := (A.sc (A.c - 1) (fun i => A.H (i + 1))).sv (A.H 0)
theorem AW_pop (hA : AW A) (hc : 0 < A.c) : AW (popA A) := by
  obtain ⟨h1, h2, h3, h4⟩ := hA
  refine ⟨h3 0 hc, ?_, fun i hi => ?_, h4⟩
  · show 0 ≤ A.c - 1 ∧ A.c - 1 ≤ 6
    omega
  · have hi2 : (i : Int) < A.c - 1 := hi
    exact h3 (i + 1) (by omega)
theorem AW_keep (hA : AW A) : AW (A.ss A.v) := ⟨hA.1, hA.2.1, hA.2.2.1, Or.inr ⟨rfl, hA.1⟩, hA.2.2.2.2⟩
theorem AW_sb {b : Int} {Y : Int → Int} (hA : AW A) (h0 : 0 ≤ b ∧ b ≤ 60) (hY : ∀ j, 0 ≤ j → j < b → 33 ≤ Y j ∧ Y j ≤ 126) : AW (A.sb b Y) := ⟨hA.1, hA.2.1, hA.2.2.1, hA.2.2.2.1, h0, hY⟩
theorem cUndo_1 (hA : AW A) (hC : CI μ.1 A) (hc : ¬ 0 < A.c) : CS (fX10_undo oS μ 0) μ (.inr 1) A := by
  obtain ⟨nx, h1, h2, h3, h4⟩ := hC.2.1
  refine CS_no hC ?_
  unfold fX10_undo bX10_undo
  simp (disch := omega) only [Option.bind_some, km1, k0, k1, k2, k3, k4, k5, k6, k7, k8, k9, k10, k11, k15, k16, k20, k32, k33, k39, k40, k43, k44, k45, k48, k49, k50, k51, k52, k57, k59, k60, k63, k64, k80, k97, k100, k101, k108, k112, k114, k117, k126, k130, k650, k100000, k1000000, ii_add, ii_sub, ii_neg, ii_mul, ii_lt, ii_le, ii_eq, if_true, if_false, if_pos, if_neg, gI_0, gI_1, gI_2, gI_4, gI_7, gI_15, gI_59, gI_61, gI_62, gI_66, gI_68, gI_71, gI_72, gI_74, gR_0_0, gR_0_1, gR_0_3, gR_0_4, gR_0_5, gR_0_6, gR_0_7, gR_0_8, gR_1_0, gR_1_1, gR_1_2, gR_2_0, gR_4_0, gR_4_1, gR_15_0, gR_59_0, gR_61_0, gR_61_1, gR_61_2, gR_62_0, gR_62_1, gR_62_2, gR_66_0, gR_66_1, gR_68_0, gR_68_1, gR_71_0, gR_72_0, gR_74_0, gR_74_1, gR_74_3, gR_74_5, gR_74_7, gR_74_8, gR_74_9, gR_74_15, ld_3, ld_5, ld_6, ld_60, ld_63, ld_64, ld_65, ld_67, ld_69, ld_70, ld_73, ld_75, ld_76, ld_77, ld_78, ld_79, ld_80, ld_82, st_3, st_5, st_6, st_60, st_63, st_64, st_65, st_67, st_69, st_70, st_73, st_75, st_76, st_77, st_78, st_79, st_80, st_82, aL_3, aL_5, aL_6, aL_60, aL_63, aL_64, aL_65, aL_67, aL_69, aL_70, aL_73, aL_75, aL_76, aL_77, aL_78, aL_79, aL_80, aL_82, pI_0, pI_1, pI_2, pI_4, pI_7, pI_15, pI_59, pI_61, pI_62, pI_66, pI_68, pI_71, pI_72, pI_74, ld_81, ld_16, aL_16, if_pos o0, h1]
theorem cUndo (hA : AW A) (hC : CI μ.1 A) (hc : 0 < A.c) : CS (fX10_undo oS μ 0) μ (.inl (ii (A.c - 1))) (popA A) := by
  obtain ⟨c1, c2, c3, c4, c5, c6⟩ := hC
  obtain ⟨m1, i1, i2, i3, i4⟩ := pop_at (hA.2.2.1 0 hc) c2 hc
  obtain ⟨nx, h1, h2, h3, h4⟩ := c2
  have e1 : m1 15 2 = ii (A.c - 1) := by
    obtain ⟨ny, k1, k2⟩ := i3
    exact k1
  refine ⟨m1, ?_, fun a ha => i2 a (by omega) (by omega), i4, i3, ?_, fun hs => RS_fr (fun j hj => i2 _ (by omega) (by omega)) (c4 hs), ?_, fun j h7 h8 => ?_⟩
  · unfold fX10_undo bX10_undo
    simp (disch := omega) only [Option.bind_some, km1, k0, k1, k2, k3, k4, k5, k6, k7, k8, k9, k10, k11, k15, k16, k20, k32, k33, k39, k40, k43, k44, k45, k48, k49, k50, k51, k52, k57, k59, k60, k63, k64, k80, k97, k100, k101, k108, k112, k114, k117, k126, k130, k650, k100000, k1000000, ii_add, ii_sub, ii_neg, ii_mul, ii_lt, ii_le, ii_eq, if_true, if_false, if_pos, if_neg, gI_0, gI_1, gI_2, gI_4, gI_7, gI_15, gI_59, gI_61, gI_62, gI_66, gI_68, gI_71, gI_72, gI_74, gR_0_0, gR_0_1, gR_0_3, gR_0_4, gR_0_5, gR_0_6, gR_0_7, gR_0_8, gR_1_0, gR_1_1, gR_1_2, gR_2_0, gR_4_0, gR_4_1, gR_15_0, gR_59_0, gR_61_0, gR_61_1, gR_61_2, gR_62_0, gR_62_1, gR_62_2, gR_66_0, gR_66_1, gR_68_0, gR_68_1, gR_71_0, gR_72_0, gR_74_0, gR_74_1, gR_74_3, gR_74_5, gR_74_7, gR_74_8, gR_74_9, gR_74_15, ld_3, ld_5, ld_6, ld_60, ld_63, ld_64, ld_65, ld_67, ld_69, ld_70, ld_73, ld_75, ld_76, ld_77, ld_78, ld_79, ld_80, ld_82, st_3, st_5, st_6, st_60, st_63, st_64, st_65, st_67, st_69, st_70, st_73, st_75, st_76, st_77, st_78, st_79, st_80, st_82, aL_3, aL_5, aL_6, aL_60, aL_63, aL_64, aL_65, aL_67, aL_69, aL_70, aL_73, aL_75, aL_76, aL_77, aL_78, aL_79, aL_80, aL_82, pI_0, pI_1, pI_2, pI_4, pI_7, pI_15, pI_59, pI_61, pI_62, pI_66, pI_68, pI_71, pI_72, pI_74, ld_81, ld_16, aL_16, if_pos o0, h1, i1, e1]
  · rw [i2 0 (by omega) (by omega)]
    exact c3
  · rw [i2 59 (by omega) (by omega)]
    exact c5
  · rw [i2 60 (by omega) (by omega)]
    exact c6 j h7 h8
theorem cKeep (hA : AW A) (hC : CI μ.1 A) : CV (fX10_keep oS μ 0) μ (A.v 0) (A.ss A.v) := by
  obtain ⟨c1, c2, c3, c4, c5, c6⟩ := hC
  obtain ⟨m1, i1, i2, i3⟩ := stcopy_at (μ := μ) oSt_8 oSt_1 (by omega) hA.1 c1
  have e0 : m1 2 1 = ii (A.v 0) := (congrFun (i2 2 (by omega)) 1).trans (rs_c (RS_T c1))
  have k : ∀ a, a < 8 ∨ 15 ≤ a → a ≠ 0 → (u2 m1 0 2 (ii 1)) a = μ.1 a := fun a ha h0 => by
    simp (disch := omega) only [u2_offr]
    exact i2 a (by omega)
  refine ⟨u2 m1 0 2 (ii 1), ?_, fun a ha => k a (by omega) (by omega), RS_fr (fun j hj => k _ (by omega) (by omega)) c1, HC_fr (fun b h7 h8 => k b (by omega) (by omega)) c2, ?_, fun hs => RS_fr (fun j hj => ?_) i3, ?_, fun j h7 h8 => ?_⟩
  · unfold fX10_keep bX10_keep
    simp (disch := omega) only [Option.bind_some, km1, k0, k1, k2, k3, k4, k5, k6, k7, k8, k9, k10, k11, k15, k16, k20, k32, k33, k39, k40, k43, k44, k45, k48, k49, k50, k51, k52, k57, k59, k60, k63, k64, k80, k97, k100, k101, k108, k112, k114, k117, k126, k130, k650, k100000, k1000000, ii_add, ii_sub, ii_neg, ii_mul, ii_lt, ii_le, ii_eq, if_true, if_false, if_pos, if_neg, gI_0, gI_1, gI_2, gI_4, gI_7, gI_15, gI_59, gI_61, gI_62, gI_66, gI_68, gI_71, gI_72, gI_74, gR_0_0, gR_0_1, gR_0_3, gR_0_4, gR_0_5, gR_0_6, gR_0_7, gR_0_8, gR_1_0, gR_1_1, gR_1_2, gR_2_0, gR_4_0, gR_4_1, gR_15_0, gR_59_0, gR_61_0, gR_61_1, gR_61_2, gR_62_0, gR_62_1, gR_62_2, gR_66_0, gR_66_1, gR_68_0, gR_68_1, gR_71_0, gR_72_0, gR_74_0, gR_74_1, gR_74_3, gR_74_5, gR_74_7, gR_74_8, gR_74_9, gR_74_15, ld_3, ld_5, ld_6, ld_60, ld_63, ld_64, ld_65, ld_67, ld_69, ld_70, ld_73, ld_75, ld_76, ld_77, ld_78, ld_79, ld_80, ld_82, st_3, st_5, st_6, st_60, st_63, st_64, st_65, st_67, st_69, st_70, st_73, st_75, st_76, st_77, st_78, st_79, st_80, st_82, aL_3, aL_5, aL_6, aL_60, aL_63, aL_64, aL_65, aL_67, aL_69, aL_70, aL_73, aL_75, aL_76, aL_77, aL_78, aL_79, aL_80, aL_82, pI_0, pI_1, pI_2, pI_4, pI_7, pI_15, pI_59, pI_61, pI_62, pI_66, pI_68, pI_71, pI_72, pI_74, ld_81, ld_16, aL_16, if_pos o0, i1, e0, u2_offr]
  · exact u2_at rfl rfl
  · simp (disch := omega) only [u2_offr]
  · rw [k 59 (by omega) (by omega)]
    exact c5
  · rw [k 60 (by omega) (by omega)]
    exact c6 j h7 h8
theorem cRestore_1 (hC : CI μ.1 A) (hs : A.s = 0) : CS (fX10_restore oS μ 0) μ (.inr 1) A := by
  have h1 := hC.2.2.1
  rw [hs] at h1
  refine CS_no hC ?_
  unfold fX10_restore bX10_restore
  simp (disch := omega) only [Option.bind_some, km1, k0, k1, k2, k3, k4, k5, k6, k7, k8, k9, k10, k11, k15, k16, k20, k32, k33, k39, k40, k43, k44, k45, k48, k49, k50, k51, k52, k57, k59, k60, k63, k64, k80, k97, k100, k101, k108, k112, k114, k117, k126, k130, k650, k100000, k1000000, ii_add, ii_sub, ii_neg, ii_mul, ii_lt, ii_le, ii_eq, if_true, if_false, if_pos, if_neg, gI_0, gI_1, gI_2, gI_4, gI_7, gI_15, gI_59, gI_61, gI_62, gI_66, gI_68, gI_71, gI_72, gI_74, gR_0_0, gR_0_1, gR_0_3, gR_0_4, gR_0_5, gR_0_6, gR_0_7, gR_0_8, gR_1_0, gR_1_1, gR_1_2, gR_2_0, gR_4_0, gR_4_1, gR_15_0, gR_59_0, gR_61_0, gR_61_1, gR_61_2, gR_62_0, gR_62_1, gR_62_2, gR_66_0, gR_66_1, gR_68_0, gR_68_1, gR_71_0, gR_72_0, gR_74_0, gR_74_1, gR_74_3, gR_74_5, gR_74_7, gR_74_8, gR_74_9, gR_74_15, ld_3, ld_5, ld_6, ld_60, ld_63, ld_64, ld_65, ld_67, ld_69, ld_70, ld_73, ld_75, ld_76, ld_77, ld_78, ld_79, ld_80, ld_82, st_3, st_5, st_6, st_60, st_63, st_64, st_65, st_67, st_69, st_70, st_73, st_75, st_76, st_77, st_78, st_79, st_80, st_82, aL_3, aL_5, aL_6, aL_60, aL_63, aL_64, aL_65, aL_67, aL_69, aL_70, aL_73, aL_75, aL_76, aL_77, aL_78, aL_79, aL_80, aL_82, pI_0, pI_1, pI_2, pI_4, pI_7, pI_15, pI_59, pI_61, pI_62, pI_66, pI_68, pI_71, pI_72, pI_74, ld_81, ld_16, aL_16, if_pos o0, h1]
theorem cRestore (hA : AW A) (hC : CI μ.1 A) (hs : A.s = 1) : CS (fX10_restore oS μ 0) μ (.inl (ii (A.K 0))) (chg A A.K) := by
  have h1 := hC.2.2.1
  rw [hs] at h1
  have hK : WF A.K := by
    rcases hA.2.2.2.1 with h | h
    · omega
    · exact h.2
  obtain ⟨m1, i1, i2, i3⟩ := cpush hA hC
  obtain ⟨m2, j1, j2, j3⟩ := stcopy_at (μ := (m1, μ.2)) oSt_1 oSt_8 (by omega) hK (i3.2.2.2.1 hs)
  have hn := rs_c (RS_T j3)
  obtain ⟨l1, l2⟩ := CI_chg (m' := m2) i2 i3 (fun b h7 h8 => j2 b (by omega)) j3
  refine ⟨m2, ?_, l1, l2⟩
  unfold fX10_restore bX10_restore
  simp (disch := omega) only [Option.bind_some, km1, k0, k1, k2, k3, k4, k5, k6, k7, k8, k9, k10, k11, k15, k16, k20, k32, k33, k39, k40, k43, k44, k45, k48, k49, k50, k51, k52, k57, k59, k60, k63, k64, k80, k97, k100, k101, k108, k112, k114, k117, k126, k130, k650, k100000, k1000000, ii_add, ii_sub, ii_neg, ii_mul, ii_lt, ii_le, ii_eq, if_true, if_false, if_pos, if_neg, gI_0, gI_1, gI_2, gI_4, gI_7, gI_15, gI_59, gI_61, gI_62, gI_66, gI_68, gI_71, gI_72, gI_74, gR_0_0, gR_0_1, gR_0_3, gR_0_4, gR_0_5, gR_0_6, gR_0_7, gR_0_8, gR_1_0, gR_1_1, gR_1_2, gR_2_0, gR_4_0, gR_4_1, gR_15_0, gR_59_0, gR_61_0, gR_61_1, gR_61_2, gR_62_0, gR_62_1, gR_62_2, gR_66_0, gR_66_1, gR_68_0, gR_68_1, gR_71_0, gR_72_0, gR_74_0, gR_74_1, gR_74_3, gR_74_5, gR_74_7, gR_74_8, gR_74_9, gR_74_15, ld_3, ld_5, ld_6, ld_60, ld_63, ld_64, ld_65, ld_67, ld_69, ld_70, ld_73, ld_75, ld_76, ld_77, ld_78, ld_79, ld_80, ld_82, st_3, st_5, st_6, st_60, st_63, st_64, st_65, st_67, st_69, st_70, st_73, st_75, st_76, st_77, st_78, st_79, st_80, st_82, aL_3, aL_5, aL_6, aL_60, aL_63, aL_64, aL_65, aL_67, aL_69, aL_70, aL_73, aL_75, aL_76, aL_77, aL_78, aL_79, aL_80, aL_82, pI_0, pI_1, pI_2, pI_4, pI_7, pI_15, pI_59, pI_61, pI_62, pI_66, pI_68, pI_71, pI_72, pI_74, ld_81, ld_16, aL_16, if_pos o0, h1, i1, j1, hn]
theorem CI_sb {m m' : Nat → Nat → Int32} {b : Int} {Y : Int → Int} (hC : CI m A) (h : ∀ a, a < 59 → m' a = m a) (hb : m' 59 1 = ii b) (hY : ∀ j, 0 ≤ j → j < b → m' 60 j.toNat = ii (Y j)) : CI m' (A.sb b Y) := by
  obtain ⟨c1, c2, c3, c4, c5, c6⟩ := hC
  refine ⟨RS_fr (fun j hj => h _ (by omega)) c1, HC_fr (fun b h7 h8 => h b (by omega)) c2, ?_, fun hs => RS_fr (fun j hj => h _ (by omega)) (c4 hs), hb, hY⟩
  rw [h 0 (by omega)]
  exact c3
theorem cAppend_0 (hC : CI μ.1 A) (h0 : -2147483648 ≤ q) (h1 : q < 2147483648) (hq : ¬ (33 ≤ q ∧ q ≤ 126)) : CS (fX10_append oS μ 0 (ii q)) μ (.inr 0) A := by
  have r : fX10_isBetween (ii q) (ii 33) (ii 126) = _ := isB_at h0 h1 (by omega) (by omega) (by omega)
  rw [if_neg hq] at r
  refine CS_no hC ?_
  unfold fX10_append bX10_append
  simp (disch := omega) only [Option.bind_some, km1, k0, k1, k2, k3, k4, k5, k6, k7, k8, k9, k10, k11, k15, k16, k20, k32, k33, k39, k40, k43, k44, k45, k48, k49, k50, k51, k52, k57, k59, k60, k63, k64, k80, k97, k100, k101, k108, k112, k114, k117, k126, k130, k650, k100000, k1000000, ii_add, ii_sub, ii_neg, ii_mul, ii_lt, ii_le, ii_eq, if_true, if_false, if_pos, if_neg, gI_0, gI_1, gI_2, gI_4, gI_7, gI_15, gI_59, gI_61, gI_62, gI_66, gI_68, gI_71, gI_72, gI_74, gR_0_0, gR_0_1, gR_0_3, gR_0_4, gR_0_5, gR_0_6, gR_0_7, gR_0_8, gR_1_0, gR_1_1, gR_1_2, gR_2_0, gR_4_0, gR_4_1, gR_15_0, gR_59_0, gR_61_0, gR_61_1, gR_61_2, gR_62_0, gR_62_1, gR_62_2, gR_66_0, gR_66_1, gR_68_0, gR_68_1, gR_71_0, gR_72_0, gR_74_0, gR_74_1, gR_74_3, gR_74_5, gR_74_7, gR_74_8, gR_74_9, gR_74_15, ld_3, ld_5, ld_6, ld_60, ld_63, ld_64, ld_65, ld_67, ld_69, ld_70, ld_73, ld_75, ld_76, ld_77, ld_78, ld_79, ld_80, ld_82, st_3, st_5, st_6, st_60, st_63, st_64, st_65, st_67, st_69, st_70, st_73, st_75, st_76, st_77, st_78, st_79, st_80, st_82, aL_3, aL_5, aL_6, aL_60, aL_63, aL_64, aL_65, aL_67, aL_69, aL_70, aL_73, aL_75, aL_76, aL_77, aL_78, aL_79, aL_80, aL_82, pI_0, pI_1, pI_2, pI_4, pI_7, pI_15, pI_59, pI_61, pI_62, pI_66, pI_68, pI_71, pI_72, pI_74, ld_81, ld_16, aL_16, if_pos o0, r]
theorem cAppend_1 (hA : AW A) (hC : CI μ.1 A) (hq : 33 ≤ q ∧ q ≤ 126) (hb : ¬ A.b < 60) : CS (fX10_append oS μ 0 (ii q)) μ (.inr 1) A := by
  have r : fX10_isBetween (ii q) (ii 33) (ii 126) = _ := isB_at (by omega) (by omega) (by omega) (by omega) (by omega)
  rw [if_pos hq] at r
  have hb2 := hA.2.2.2.2.1
  have hc := hC.2.2.2.2.1
  refine CS_no hC ?_
  unfold fX10_append bX10_append
  simp (disch := omega) only [Option.bind_some, km1, k0, k1, k2, k3, k4, k5, k6, k7, k8, k9, k10, k11, k15, k16, k20, k32, k33, k39, k40, k43, k44, k45, k48, k49, k50, k51, k52, k57, k59, k60, k63, k64, k80, k97, k100, k101, k108, k112, k114, k117, k126, k130, k650, k100000, k1000000, ii_add, ii_sub, ii_neg, ii_mul, ii_lt, ii_le, ii_eq, if_true, if_false, if_pos, if_neg, gI_0, gI_1, gI_2, gI_4, gI_7, gI_15, gI_59, gI_61, gI_62, gI_66, gI_68, gI_71, gI_72, gI_74, gR_0_0, gR_0_1, gR_0_3, gR_0_4, gR_0_5, gR_0_6, gR_0_7, gR_0_8, gR_1_0, gR_1_1, gR_1_2, gR_2_0, gR_4_0, gR_4_1, gR_15_0, gR_59_0, gR_61_0, gR_61_1, gR_61_2, gR_62_0, gR_62_1, gR_62_2, gR_66_0, gR_66_1, gR_68_0, gR_68_1, gR_71_0, gR_72_0, gR_74_0, gR_74_1, gR_74_3, gR_74_5, gR_74_7, gR_74_8, gR_74_9, gR_74_15, ld_3, ld_5, ld_6, ld_60, ld_63, ld_64, ld_65, ld_67, ld_69, ld_70, ld_73, ld_75, ld_76, ld_77, ld_78, ld_79, ld_80, ld_82, st_3, st_5, st_6, st_60, st_63, st_64, st_65, st_67, st_69, st_70, st_73, st_75, st_76, st_77, st_78, st_79, st_80, st_82, aL_3, aL_5, aL_6, aL_60, aL_63, aL_64, aL_65, aL_67, aL_69, aL_70, aL_73, aL_75, aL_76, aL_77, aL_78, aL_79, aL_80, aL_82, pI_0, pI_1, pI_2, pI_4, pI_7, pI_15, pI_59, pI_61, pI_62, pI_66, pI_68, pI_71, pI_72, pI_74, ld_81, ld_16, aL_16, if_pos o0, r, hc]
theorem cAppend (hA : AW A) (hC : CI μ.1 A) (hq : 33 ≤ q ∧ q ≤ 126) (hb : A.b < 60) : CS (fX10_append oS μ 0 (ii q)) μ (.inl (ii (A.b + 1))) (A.sb (A.b + 1) (upI A.Y A.b q)) := by
  have r : fX10_isBetween (ii q) (ii 33) (ii 126) = _ := isB_at (by omega) (by omega) (by omega) (by omega) (by omega)
  rw [if_pos hq] at r
  have hb2 := hA.2.2.2.2.1
  have hc := hC.2.2.2.2.1
  have hy := hC.2.2.2.2.2
  refine ⟨u2 (u2 μ.1 60 A.b.toNat (ii q)) 59 1 (ii (A.b + 1)), ?_, fun a ha => by simp (disch := omega) only [u2_offr], CI_sb hC (fun a ha => by simp (disch := omega) only [u2_offr]) (u2_at rfl rfl) (fun j h7 h8 => ?_)⟩
  · unfold fX10_append bX10_append fX9_put bX9_put
    simp (disch := omega) only [Option.bind_some, km1, k0, k1, k2, k3, k4, k5, k6, k7, k8, k9, k10, k11, k15, k16, k20, k32, k33, k39, k40, k43, k44, k45, k48, k49, k50, k51, k52, k57, k59, k60, k63, k64, k80, k97, k100, k101, k108, k112, k114, k117, k126, k130, k650, k100000, k1000000, ii_add, ii_sub, ii_neg, ii_mul, ii_lt, ii_le, ii_eq, if_true, if_false, if_pos, if_neg, gI_0, gI_1, gI_2, gI_4, gI_7, gI_15, gI_59, gI_61, gI_62, gI_66, gI_68, gI_71, gI_72, gI_74, gR_0_0, gR_0_1, gR_0_3, gR_0_4, gR_0_5, gR_0_6, gR_0_7, gR_0_8, gR_1_0, gR_1_1, gR_1_2, gR_2_0, gR_4_0, gR_4_1, gR_15_0, gR_59_0, gR_61_0, gR_61_1, gR_61_2, gR_62_0, gR_62_1, gR_62_2, gR_66_0, gR_66_1, gR_68_0, gR_68_1, gR_71_0, gR_72_0, gR_74_0, gR_74_1, gR_74_3, gR_74_5, gR_74_7, gR_74_8, gR_74_9, gR_74_15, ld_3, ld_5, ld_6, ld_60, ld_63, ld_64, ld_65, ld_67, ld_69, ld_70, ld_73, ld_75, ld_76, ld_77, ld_78, ld_79, ld_80, ld_82, st_3, st_5, st_6, st_60, st_63, st_64, st_65, st_67, st_69, st_70, st_73, st_75, st_76, st_77, st_78, st_79, st_80, st_82, aL_3, aL_5, aL_6, aL_60, aL_63, aL_64, aL_65, aL_67, aL_69, aL_70, aL_73, aL_75, aL_76, aL_77, aL_78, aL_79, aL_80, aL_82, pI_0, pI_1, pI_2, pI_4, pI_7, pI_15, pI_59, pI_61, pI_62, pI_66, pI_68, pI_71, pI_72, pI_74, ld_81, ld_16, aL_16, if_pos o0, if_pos o59, r, hc, u2_offr, u2_at]
  · by_cases hj : j = A.b
    · rw [upI_at hj]
      simp (disch := omega) only [u2_off, u2_at]
    · simp (disch := omega) only [u2_off, upI_n]
      exact hy j h7 (by omega)
theorem cClear (hC : CI μ.1 A) : CV (fX10_clearBuffer oS μ 0) μ A.b (A.sb 0 A.Y) := by
  have hc := hC.2.2.2.2.1
  refine ⟨u2 μ.1 59 1 (ii 0), ?_, fun a ha => by simp (disch := omega) only [u2_offr], CI_sb hC (fun a ha => by simp (disch := omega) only [u2_offr]) (u2_at rfl rfl) (fun j h7 h8 => by omega)⟩
  unfold fX10_clearBuffer bX10_clearBuffer fX9_clear bX9_clear
  simp (disch := omega) only [Option.bind_some, km1, k0, k1, k2, k3, k4, k5, k6, k7, k8, k9, k10, k11, k15, k16, k20, k32, k33, k39, k40, k43, k44, k45, k48, k49, k50, k51, k52, k57, k59, k60, k63, k64, k80, k97, k100, k101, k108, k112, k114, k117, k126, k130, k650, k100000, k1000000, ii_add, ii_sub, ii_neg, ii_mul, ii_lt, ii_le, ii_eq, if_true, if_false, if_pos, if_neg, gI_0, gI_1, gI_2, gI_4, gI_7, gI_15, gI_59, gI_61, gI_62, gI_66, gI_68, gI_71, gI_72, gI_74, gR_0_0, gR_0_1, gR_0_3, gR_0_4, gR_0_5, gR_0_6, gR_0_7, gR_0_8, gR_1_0, gR_1_1, gR_1_2, gR_2_0, gR_4_0, gR_4_1, gR_15_0, gR_59_0, gR_61_0, gR_61_1, gR_61_2, gR_62_0, gR_62_1, gR_62_2, gR_66_0, gR_66_1, gR_68_0, gR_68_1, gR_71_0, gR_72_0, gR_74_0, gR_74_1, gR_74_3, gR_74_5, gR_74_7, gR_74_8, gR_74_9, gR_74_15, ld_3, ld_5, ld_6, ld_60, ld_63, ld_64, ld_65, ld_67, ld_69, ld_70, ld_73, ld_75, ld_76, ld_77, ld_78, ld_79, ld_80, ld_82, st_3, st_5, st_6, st_60, st_63, st_64, st_65, st_67, st_69, st_70, st_73, st_75, st_76, st_77, st_78, st_79, st_80, st_82, aL_3, aL_5, aL_6, aL_60, aL_63, aL_64, aL_65, aL_67, aL_69, aL_70, aL_73, aL_75, aL_76, aL_77, aL_78, aL_79, aL_80, aL_82, pI_0, pI_1, pI_2, pI_4, pI_7, pI_15, pI_59, pI_61, pI_62, pI_66, pI_68, pI_71, pI_72, pI_74, ld_81, ld_16, aL_16, if_pos o0, if_pos o59, hc]
