/-! the reference's buffer -/
theorem i2c_n : ∀ n : Nat, n < 94 → vp_nar .char (((ii (33 + (n : Int))).toUInt32 % 65536).toInt32) = ii (33 + (n : Int)) := by decide +kernel
theorem i2c_at {q : Int} (h0 : 33 ≤ q) (h1 : q ≤ 126) : vp_nar .char (((ii q).toUInt32 % 65536).toInt32) = ii q := by
  have h := i2c_n (q - 33).toNat (by omega)
  rw [show (33 + ((q - 33).toNat : Int)) = q by omega] at h
  exact h
variable {μ : mMm} {A : AS} {q q2 : Int}
theorem rAppend_0 (hA : AW A) (hI : RI μ.1 A) (h0 : -2147483648 ≤ q) (h1 : q < 2147483648) (hq : ¬ (33 ≤ q ∧ q ≤ 126)) : RV (fX11_append oS μ 74 (ii q)) μ 1 0 A := by
  have r : fX11_in (ii q) (ii 33) (ii 126) = _ := in_at h0 h1 (by omega) (by omega) (by omega) (by omega)
  rw [if_neg hq] at r
  have hB := hI.2.2.2.2.1
  have hb2 := hA.2.2.2.2.1
  have t1 := thT1 (μ := (u2 μ.1 74 11 (ii 1), μ.2)) (q := 1) (Or.inr rfl) w11
  have t0 := thT1 (μ := (u2 μ.1 74 11 (ii 1), μ.2)) (q := 0) (Or.inl rfl) w11
  refine ⟨u2 (u2 μ.1 74 11 (ii 1)) 74 11 (ii 1), ?_, fun a ha => by simp (disch := omega) only [u2_offr], u2_at rfl rfl, RI_w (RI_w hI)⟩
  unfold fX11_append bX11_append
  by_cases h : 60 ≤ A.b
  · simp (disch := omega) only [Option.bind_some, km1, k0, k1, k2, k3, k4, k5, k6, k7, k8, k9, k10, k11, k15, k16, k20, k32, k33, k39, k40, k43, k44, k45, k48, k49, k50, k51, k52, k57, k59, k60, k63, k64, k80, k97, k100, k101, k108, k112, k114, k117, k126, k130, k650, k100000, k1000000, ii_add, ii_sub, ii_neg, ii_mul, ii_lt, ii_le, ii_eq, if_true, if_false, if_pos, if_neg, gI_0, gI_1, gI_2, gI_4, gI_7, gI_15, gI_59, gI_61, gI_62, gI_66, gI_68, gI_71, gI_72, gI_74, gR_0_0, gR_0_1, gR_0_3, gR_0_4, gR_0_5, gR_0_6, gR_0_7, gR_0_8, gR_1_0, gR_1_1, gR_1_2, gR_2_0, gR_4_0, gR_4_1, gR_15_0, gR_59_0, gR_61_0, gR_61_1, gR_61_2, gR_62_0, gR_62_1, gR_62_2, gR_66_0, gR_66_1, gR_68_0, gR_68_1, gR_71_0, gR_72_0, gR_74_0, gR_74_1, gR_74_3, gR_74_5, gR_74_7, gR_74_8, gR_74_9, gR_74_15, ld_3, ld_5, ld_6, ld_60, ld_63, ld_64, ld_65, ld_67, ld_69, ld_70, ld_73, ld_75, ld_76, ld_77, ld_78, ld_79, ld_80, ld_82, st_3, st_5, st_6, st_60, st_63, st_64, st_65, st_67, st_69, st_70, st_73, st_75, st_76, st_77, st_78, st_79, st_80, st_82, aL_3, aL_5, aL_6, aL_60, aL_63, aL_64, aL_65, aL_67, aL_69, aL_70, aL_73, aL_75, aL_76, aL_77, aL_78, aL_79, aL_80, aL_82, pI_0, pI_1, pI_2, pI_4, pI_7, pI_15, pI_59, pI_61, pI_62, pI_66, pI_68, pI_71, pI_72, pI_74, ld_81, ld_16, aL_16, if_pos o74, r, asks0, u2_off, hB, lX11_append_28, t0, t1]
  · simp (disch := omega) only [Option.bind_some, km1, k0, k1, k2, k3, k4, k5, k6, k7, k8, k9, k10, k11, k15, k16, k20, k32, k33, k39, k40, k43, k44, k45, k48, k49, k50, k51, k52, k57, k59, k60, k63, k64, k80, k97, k100, k101, k108, k112, k114, k117, k126, k130, k650, k100000, k1000000, ii_add, ii_sub, ii_neg, ii_mul, ii_lt, ii_le, ii_eq, if_true, if_false, if_pos, if_neg, gI_0, gI_1, gI_2, gI_4, gI_7, gI_15, gI_59, gI_61, gI_62, gI_66, gI_68, gI_71, gI_72, gI_74, gR_0_0, gR_0_1, gR_0_3, gR_0_4, gR_0_5, gR_0_6, gR_0_7, gR_0_8, gR_1_0, gR_1_1, gR_1_2, gR_2_0, gR_4_0, gR_4_1, gR_15_0, gR_59_0, gR_61_0, gR_61_1, gR_61_2, gR_62_0, gR_62_1, gR_62_2, gR_66_0, gR_66_1, gR_68_0, gR_68_1, gR_71_0, gR_72_0, gR_74_0, gR_74_1, gR_74_3, gR_74_5, gR_74_7, gR_74_8, gR_74_9, gR_74_15, ld_3, ld_5, ld_6, ld_60, ld_63, ld_64, ld_65, ld_67, ld_69, ld_70, ld_73, ld_75, ld_76, ld_77, ld_78, ld_79, ld_80, ld_82, st_3, st_5, st_6, st_60, st_63, st_64, st_65, st_67, st_69, st_70, st_73, st_75, st_76, st_77, st_78, st_79, st_80, st_82, aL_3, aL_5, aL_6, aL_60, aL_63, aL_64, aL_65, aL_67, aL_69, aL_70, aL_73, aL_75, aL_76, aL_77, aL_78, aL_79, aL_80, aL_82, pI_0, pI_1, pI_2, pI_4, pI_7, pI_15, pI_59, pI_61, pI_62, pI_66, pI_68, pI_71, pI_72, pI_74, ld_81, ld_16, aL_16, if_pos o74, r, asks0, u2_off, hB, lX11_append_28, t0, t1]
theorem rAppend_1 (hA : AW A) (hI : RI μ.1 A) (hq : 33 ≤ q ∧ q ≤ 126) (hf : ¬ A.b < 60) : RV (fX11_append oS μ 74 (ii q)) μ 2 0 A := by
  have r : fX11_in (ii q) (ii 33) (ii 126) = _ := in_at (by omega) (by omega) (by omega) (by omega) (by omega) (by omega)
  rw [if_pos hq] at r
  have hB := hI.2.2.2.2.1
  have hb2 := hA.2.2.2.2.1
  have t0 := thT0 (μ := (u2 μ.1 74 11 (ii 0), μ.2)) w11
  refine ⟨u2 (u2 μ.1 74 11 (ii 0)) 74 11 (ii 2), ?_, fun a ha => by simp (disch := omega) only [u2_offr], u2_at rfl rfl, RI_w (RI_w hI)⟩
  unfold fX11_append bX11_append
  simp (disch := omega) only [Option.bind_some, km1, k0, k1, k2, k3, k4, k5, k6, k7, k8, k9, k10, k11, k15, k16, k20, k32, k33, k39, k40, k43, k44, k45, k48, k49, k50, k51, k52, k57, k59, k60, k63, k64, k80, k97, k100, k101, k108, k112, k114, k117, k126, k130, k650, k100000, k1000000, ii_add, ii_sub, ii_neg, ii_mul, ii_lt, ii_le, ii_eq, if_true, if_false, if_pos, if_neg, gI_0, gI_1, gI_2, gI_4, gI_7, gI_15, gI_59, gI_61, gI_62, gI_66, gI_68, gI_71, gI_72, gI_74, gR_0_0, gR_0_1, gR_0_3, gR_0_4, gR_0_5, gR_0_6, gR_0_7, gR_0_8, gR_1_0, gR_1_1, gR_1_2, gR_2_0, gR_4_0, gR_4_1, gR_15_0, gR_59_0, gR_61_0, gR_61_1, gR_61_2, gR_62_0, gR_62_1, gR_62_2, gR_66_0, gR_66_1, gR_68_0, gR_68_1, gR_71_0, gR_72_0, gR_74_0, gR_74_1, gR_74_3, gR_74_5, gR_74_7, gR_74_8, gR_74_9, gR_74_15, ld_3, ld_5, ld_6, ld_60, ld_63, ld_64, ld_65, ld_67, ld_69, ld_70, ld_73, ld_75, ld_76, ld_77, ld_78, ld_79, ld_80, ld_82, st_3, st_5, st_6, st_60, st_63, st_64, st_65, st_67, st_69, st_70, st_73, st_75, st_76, st_77, st_78, st_79, st_80, st_82, aL_3, aL_5, aL_6, aL_60, aL_63, aL_64, aL_65, aL_67, aL_69, aL_70, aL_73, aL_75, aL_76, aL_77, aL_78, aL_79, aL_80, aL_82, pI_0, pI_1, pI_2, pI_4, pI_7, pI_15, pI_59, pI_61, pI_62, pI_66, pI_68, pI_71, pI_72, pI_74, ld_81, ld_16, aL_16, if_pos o74, r, asks1, u2_off, hB, lX11_append_28, t0]
theorem rAppend (hA : AW A) (hI : RI μ.1 A) (hq : 33 ≤ q ∧ q ≤ 126) (hf : A.b < 60) : RV (fX11_append oS μ 74 (ii q)) μ 0 (A.b + 1) (A.sb (A.b + 1) (upI A.Y A.b q)) := by
  have r : fX11_in (ii q) (ii 33) (ii 126) = _ := in_at (by omega) (by omega) (by omega) (by omega) (by omega) (by omega)
  rw [if_pos hq] at r
  have hB := hI.2.2.2.2.1
  have hb2 := hA.2.2.2.2.1
  have t0 := thT (μ := (u2 μ.1 74 11 (ii 0), μ.2)) w11
  have hY := hI.2.2.2.2.2
  have hc := i2c_at hq.1 hq.2
  refine ⟨u2 (u2 (u2 (u2 μ.1 74 11 (ii 0)) 74 11 (ii 0)) 81 A.b.toNat (ii q)) 74 10 (ii (A.b + 1)), ?_, fun a ha => by simp (disch := omega) only [u2_offr], by simp (disch := omega) only [u2_off, u2_offr, u2_at], RI_sb hI (fun a ha => by simp (disch := omega) only [u2_offr]) (fun k hk => by simp (disch := omega) only [u2_off]) (u2_at rfl rfl) (fun j h7 h8 => ?_)⟩
  · unfold fX11_append bX11_append
    simp (disch := omega) only [Option.bind_some, km1, k0, k1, k2, k3, k4, k5, k6, k7, k8, k9, k10, k11, k15, k16, k20, k32, k33, k39, k40, k43, k44, k45, k48, k49, k50, k51, k52, k57, k59, k60, k63, k64, k80, k97, k100, k101, k108, k112, k114, k117, k126, k130, k650, k100000, k1000000, ii_add, ii_sub, ii_neg, ii_mul, ii_lt, ii_le, ii_eq, if_true, if_false, if_pos, if_neg, gI_0, gI_1, gI_2, gI_4, gI_7, gI_15, gI_59, gI_61, gI_62, gI_66, gI_68, gI_71, gI_72, gI_74, gR_0_0, gR_0_1, gR_0_3, gR_0_4, gR_0_5, gR_0_6, gR_0_7, gR_0_8, gR_1_0, gR_1_1, gR_1_2, gR_2_0, gR_4_0, gR_4_1, gR_15_0, gR_59_0, gR_61_0, gR_61_1, gR_61_2, gR_62_0, gR_62_1, gR_62_2, gR_66_0, gR_66_1, gR_68_0, gR_68_1, gR_71_0, gR_72_0, gR_74_0, gR_74_1, gR_74_3, gR_74_5, gR_74_7, gR_74_8, gR_74_9, gR_74_15, ld_3, ld_5, ld_6, ld_60, ld_63, ld_64, ld_65, ld_67, ld_69, ld_70, ld_73, ld_75, ld_76, ld_77, ld_78, ld_79, ld_80, ld_82, st_3, st_5, st_6, st_60, st_63, st_64, st_65, st_67, st_69, st_70, st_73, st_75, st_76, st_77, st_78, st_79, st_80, st_82, aL_3, aL_5, aL_6, aL_60, aL_63, aL_64, aL_65, aL_67, aL_69, aL_70, aL_73, aL_75, aL_76, aL_77, aL_78, aL_79, aL_80, aL_82, pI_0, pI_1, pI_2, pI_4, pI_7, pI_15, pI_59, pI_61, pI_62, pI_66, pI_68, pI_71, pI_72, pI_74, ld_81, ld_16, aL_16, if_pos o74, r, asks1, u2_off, u2_at, hB, lX11_append_28, t0, st_81, hc]
  · by_cases hj : j = A.b
    · rw [upI_at hj]
      simp (disch := omega) only [u2_offr, u2_at]
    · simp (disch := omega) only [u2_off, upI_n]
      exact hY j h7 (by omega)
