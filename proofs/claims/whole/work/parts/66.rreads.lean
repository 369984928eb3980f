/-! the first error, as the reference finds it -/
theorem rdW_b {b : Int} {Y : Int → Int} (hb : b ≤ 60) : ∀ (f : Nat) (i : Int), 0 ≤ i → i ≤ b + 1 → rdW b Y f i = -1 ∨ (0 ≤ rdW b Y f i ∧ rdW b Y f i ≤ 100) := by
  intro f
  induction f with
  | zero =>
    intro i h0 h1
    unfold rdW
    omega
  | succ f ih =>
    intro i h0 h1
    have pb := ptS_b (b := b) (Y := Y) h0
    unfold rdW
    by_cases c1 : (ptS b Y i).1 = -1
    · have pe := pb.1 c1
      rw [if_pos c1]
      by_cases c2 : b ≤ (ptS b Y i).2.1
      · rw [if_pos c2]
        exact Or.inl rfl
      · rw [if_neg c2]
        by_cases c3 : sg b Y (ptS b Y i).2.1 = 59
        · rw [if_pos c3]
          exact ih _ (by omega) (by omega)
        · rw [if_neg c3]
          omega
    · rw [if_neg c1]
      have := pb.2.resolve_left c1
      omega
variable {μ : mMm} {A : AS}
theorem AW_YB (hA : AW A) : YB A.b A.Y := hA.2.2.2.2
theorem RI_BF {m : Nat → Nat → Int32} (hI : RI m A) : BF m A.b A.Y := hI.2.2.2.2
theorem RI_Q {m m' : Nat → Nat → Int32} (h : QF 0 m m') (hI : RI m A) : RI m' A := RI_fr (fun b hb => h.1 b (by omega) (by omega)) (fun k hk => h.2.1 k (by omega) (by omega) (by omega)) hI
def rdA (A : AS) : Int := rdW A.b A.Y (A.b + 1).toNat 0
theorem rreads_at (hA : AW A) (hI : RI μ.1 A) : ∃ m', fX11_reads oS μ 74 = some (ii (rdA A), (m', μ.2)) ∧ QF 0 μ.1 m' ∧ (rdA A = -1 → ∃ R : Nat, RDok A.b A.Y m' (R + 1) ∧ (ptS A.b A.Y (stP A.b A.Y R)).2.1 = A.b ∧ ∀ t, t < R → (ptS A.b A.Y (stP A.b A.Y t)).2.1 < A.b ∧ sg A.b A.Y (ptS A.b A.Y (stP A.b A.Y t)).2.1 = 59) := by
  have hY := AW_YB hA
  have g := hY.1
  have hB := RI_BF hI
  have hQ : QF 0 μ.1 (u2 (u2 (u2 μ.1 74 16 (ii 0)) 74 17 (ii 0)) 74 18 (ii (-1))) := ⟨fun a h1 h2 => by simp (disch := omega) only [u2_offr], fun f h1 h2 h3 => by simp (disch := omega) only [u2_off], fun k h1 h2 => by simp (disch := omega) only [u2_offr]⟩
  obtain ⟨m', i1, i2, i3⟩ := reads_loop hY (A.b + 1).toNat FU 0 (u2 (u2 (u2 μ.1 74 16 (ii 0)) 74 17 (ii 0)) 74 18 (ii (-1)), μ.2) (by show A.b + 1 - 0 ≤ _; omega) (by have := hFU; omega) (Int.le_refl _) (by show 0 ≤ A.b; omega) (Int.le_refl _) (BF_q hQ hB) ⟨by simp (disch := omega) only [u2_at], by simp (disch := omega) only [u2_off, u2_at]; rfl⟩ ⟨by simp (disch := omega) only [u2_off, u2_at]; rfl, by omega, fun t ht => by omega, fun t ht => by omega⟩ (fun t ht => by omega)
  refine ⟨m', ?_, hQ.tr i2, i3⟩
  unfold fX11_reads bX11_reads
  generalize lX11_reads_17 oS FU = K at i1 ⊢
  simp (disch := omega) only [Option.bind_some, km1, k0, k1, k2, k3, k4, k5, k6, k7, k8, k9, k10, k11, k15, k16, k20, k32, k33, k39, k40, k43, k44, k45, k48, k49, k50, k51, k52, k57, k59, k60, k63, k64, k80, k97, k100, k101, k108, k112, k114, k117, k126, k130, k650, k100000, k1000000, ii_add, ii_sub, ii_neg, ii_mul, ii_lt, ii_le, ii_eq, if_true, if_false, if_pos, if_neg, gI_0, gI_1, gI_2, gI_4, gI_7, gI_15, gI_59, gI_61, gI_62, gI_66, gI_68, gI_71, gI_72, gI_74, gR_0_0, gR_0_1, gR_0_3, gR_0_4, gR_0_5, gR_0_6, gR_0_7, gR_0_8, gR_1_0, gR_1_1, gR_1_2, gR_2_0, gR_4_0, gR_4_1, gR_15_0, gR_59_0, gR_61_0, gR_61_1, gR_61_2, gR_62_0, gR_62_1, gR_62_2, gR_66_0, gR_66_1, gR_68_0, gR_68_1, gR_71_0, gR_72_0, gR_74_0, gR_74_1, gR_74_3, gR_74_5, gR_74_7, gR_74_8, gR_74_9, gR_74_15, ld_3, ld_5, ld_6, ld_60, ld_63, ld_64, ld_65, ld_67, ld_69, ld_70, ld_73, ld_75, ld_76, ld_77, ld_78, ld_79, ld_80, ld_82, st_3, st_5, st_6, st_60, st_63, st_64, st_65, st_67, st_69, st_70, st_73, st_75, st_76, st_77, st_78, st_79, st_80, st_82, aL_3, aL_5, aL_6, aL_60, aL_63, aL_64, aL_65, aL_67, aL_69, aL_70, aL_73, aL_75, aL_76, aL_77, aL_78, aL_79, aL_80, aL_82, pI_0, pI_1, pI_2, pI_4, pI_7, pI_15, pI_59, pI_61, pI_62, pI_66, pI_68, pI_71, pI_72, pI_74, ld_81, ld_16, aL_16, if_pos o74]
  exact i1
theorem rFirstError (hA : AW A) (hI : RI μ.1 A) : RV (fX11_firstError oS μ 74) μ 0 (if rdA A = -1 then A.b else rdA A) A := by
  obtain ⟨m', i1, i2, i3⟩ := rreads_at hA hI
  have hY := AW_YB hA
  have hb : rdA A = -1 ∨ (0 ≤ rdA A ∧ rdA A ≤ 100) := rdW_b hY.1.2 _ 0 (by omega) (by have := hY.1; omega)
  have hI' := RI_Q i2 hI
  have e := hI'.2.2.2.2.1
  refine ⟨u2 m' 74 11 (ii 0), ?_, fun a ha => (by simp (disch := omega) only [u2_offr]; exact i2.1 a (by omega) (by omega)), u2_at rfl rfl, RI_w hI'⟩
  unfold fX11_firstError bX11_firstError lX11_firstError_18
  by_cases c : rdA A = -1
  · simp (disch := omega) only [Option.bind_some, km1, k0, k1, k2, k3, k4, k5, k6, k7, k8, k9, k10, k11, k15, k16, k20, k32, k33, k39, k40, k43, k44, k45, k48, k49, k50, k51, k52, k57, k59, k60, k63, k64, k80, k97, k100, k101, k108, k112, k114, k117, k126, k130, k650, k100000, k1000000, ii_add, ii_sub, ii_neg, ii_mul, ii_lt, ii_le, ii_eq, if_true, if_false, if_pos, if_neg, gI_0, gI_1, gI_2, gI_4, gI_7, gI_15, gI_59, gI_61, gI_62, gI_66, gI_68, gI_71, gI_72, gI_74, gR_0_0, gR_0_1, gR_0_3, gR_0_4, gR_0_5, gR_0_6, gR_0_7, gR_0_8, gR_1_0, gR_1_1, gR_1_2, gR_2_0, gR_4_0, gR_4_1, gR_15_0, gR_59_0, gR_61_0, gR_61_1, gR_61_2, gR_62_0, gR_62_1, gR_62_2, gR_66_0, gR_66_1, gR_68_0, gR_68_1, gR_71_0, gR_72_0, gR_74_0, gR_74_1, gR_74_3, gR_74_5, gR_74_7, gR_74_8, gR_74_9, gR_74_15, ld_3, ld_5, ld_6, ld_60, ld_63, ld_64, ld_65, ld_67, ld_69, ld_70, ld_73, ld_75, ld_76, ld_77, ld_78, ld_79, ld_80, ld_82, st_3, st_5, st_6, st_60, st_63, st_64, st_65, st_67, st_69, st_70, st_73, st_75, st_76, st_77, st_78, st_79, st_80, st_82, aL_3, aL_5, aL_6, aL_60, aL_63, aL_64, aL_65, aL_67, aL_69, aL_70, aL_73, aL_75, aL_76, aL_77, aL_78, aL_79, aL_80, aL_82, pI_0, pI_1, pI_2, pI_4, pI_7, pI_15, pI_59, pI_61, pI_62, pI_66, pI_68, pI_71, pI_72, pI_74, ld_81, ld_16, aL_16, if_pos o74, i1, e, says_at]
  · have := hb.resolve_left c
    simp (disch := omega) only [Option.bind_some, km1, k0, k1, k2, k3, k4, k5, k6, k7, k8, k9, k10, k11, k15, k16, k20, k32, k33, k39, k40, k43, k44, k45, k48, k49, k50, k51, k52, k57, k59, k60, k63, k64, k80, k97, k100, k101, k108, k112, k114, k117, k126, k130, k650, k100000, k1000000, ii_add, ii_sub, ii_neg, ii_mul, ii_lt, ii_le, ii_eq, if_true, if_false, if_pos, if_neg, gI_0, gI_1, gI_2, gI_4, gI_7, gI_15, gI_59, gI_61, gI_62, gI_66, gI_68, gI_71, gI_72, gI_74, gR_0_0, gR_0_1, gR_0_3, gR_0_4, gR_0_5, gR_0_6, gR_0_7, gR_0_8, gR_1_0, gR_1_1, gR_1_2, gR_2_0, gR_4_0, gR_4_1, gR_15_0, gR_59_0, gR_61_0, gR_61_1, gR_61_2, gR_62_0, gR_62_1, gR_62_2, gR_66_0, gR_66_1, gR_68_0, gR_68_1, gR_71_0, gR_72_0, gR_74_0, gR_74_1, gR_74_3, gR_74_5, gR_74_7, gR_74_8, gR_74_9, gR_74_15, ld_3, ld_5, ld_6, ld_60, ld_63, ld_64, ld_65, ld_67, ld_69, ld_70, ld_73, ld_75, ld_76, ld_77, ld_78, ld_79, ld_80, ld_82, st_3, st_5, st_6, st_60, st_63, st_64, st_65, st_67, st_69, st_70, st_73, st_75, st_76, st_77, st_78, st_79, st_80, st_82, aL_3, aL_5, aL_6, aL_60, aL_63, aL_64, aL_65, aL_67, aL_69, aL_70, aL_73, aL_75, aL_76, aL_77, aL_78, aL_79, aL_80, aL_82, pI_0, pI_1, pI_2, pI_4, pI_7, pI_15, pI_59, pI_61, pI_62, pI_66, pI_68, pI_71, pI_72, pI_74, ld_81, ld_16, aL_16, if_pos o74, i1, says_at]
