/-! numbers in the buffer, as the reference reads them -/
def BF (m : Nat → Nat → Int32) (b : Int) (Y : Int → Int) : Prop := m 74 10 = ii b ∧ ∀ j, 0 ≤ j → j < b → m 81 j.toNat = ii (Y j)
def WS (m : Nat → Nat → Int32) (w i : Int) : Prop := m 74 18 = ii w ∧ m 74 17 = ii i
def NF (m m' : Nat → Nat → Int32) : Prop := (∀ a, a ≠ 74 → m' a = m a) ∧ ∀ f, f ≠ 17 → f ≠ 18 → m' 74 f = m 74 f
theorem NF.rf {m : Nat → Nat → Int32} : NF m m := ⟨fun _ _ => rfl, fun _ _ _ => rfl⟩
theorem NF.tr {m m1 m2 : Nat → Nat → Int32} (h : NF m m1) (k : NF m1 m2) : NF m m2 := ⟨fun a ha => (k.1 a ha).trans (h.1 a ha), fun f h1 h2 => (k.2 f h1 h2).trans (h.2 f h1 h2)⟩
theorem BF_fr {m m' : Nat → Nat → Int32} {b : Int} {Y : Int → Int} (h : NF m m') (hB : BF m b Y) : BF m' b Y := by
  refine ⟨(h.2 10 (by omega) (by omega)).trans hB.1, fun j h0 h1 => ?_⟩
  rw [h.1 81 (by omega)]
  exact hB.2 j h0 h1
/-- the memory after a sign is met or missed -/
def nx (m : Nat → Nat → Int32) (w i : Int) : Nat → Nat → Int32 := u2 (u2 m 74 18 (ii w)) 74 17 (ii i)
theorem nx_F {m : Nat → Nat → Int32} {w i : Int} : NF m (nx m w i) := by
  unfold nx
  exact ⟨fun a ha => by simp (disch := omega) only [u2_offr], fun f h1 h2 => by simp (disch := omega) only [u2_off]⟩
theorem nx_W {m : Nat → Nat → Int32} {w i : Int} : WS (nx m w i) w i := by
  unfold nx
  exact ⟨by simp (disch := omega) only [u2_off, u2_at], by simp (disch := omega) only [u2_at]⟩
variable {μ : mMm} {b : Int} {Y : Int → Int}
theorem sg_b (hY : YB b Y) {i : Int} (h0 : 0 ≤ i) : -1 ≤ sg b Y i ∧ sg b Y i ≤ 126 := by
  unfold sg
  by_cases h : i < b
  · rw [if_pos h]
    have := hY.2 i h0 h
    omega
  · rw [if_neg h]
    omega
theorem sign_at (hB : BF μ.1 b Y) (hY : YB b Y) {w i : Int} (hw : WS μ.1 w i) (h0 : 0 ≤ i) (h1 : i ≤ 100) : fX11_sign oS μ 74 = some (ii (sg b Y i)) := sg_at hB hY hw.2 h0 h1
theorem need_1 {i : Int} (hw : WS μ.1 (-1) i) (h0 : 0 ≤ i) (h1 : i ≤ 100) : fX11_needs oS μ 74 (ii 1) = some (nx μ.1 (-1) (i + 1), μ.2) := needs_1 hw.1 hw.2 h0 h1
theorem need_0 {i : Int} (hw : WS μ.1 (-1) i) (h0 : 0 ≤ i) (h1 : i ≤ 100) : fX11_needs oS μ 74 (ii 0) = some (nx μ.1 i (i + 1), μ.2) := needs_0 hw.1 hw.2 h0 h1
theorem need_w {c w i : Int} (hw : WS μ.1 w i) (h0 : 0 ≤ w) (h1 : w ≤ 100) : fX11_needs oS μ 74 (ii c) = some μ := needs_w hw.1 h0 h1
theorem nloop_w {w i lim x : Int} (hw : WS μ.1 w i) (h0 : 0 ≤ w) (h1 : w ≤ 100) : ∀ (f n : Nat) (k : Int), 2 - k ≤ f → f < n → 0 ≤ k → k ≤ 2 → lX11_number_21 oS n μ 74 (ii lim) (ii x) (ii k) = some (ii x, μ) := by
  have e := hw.1
  intro f
  induction f with
  | zero =>
    intro n k h2 h3 h4 h5
    obtain ⟨n, rfl⟩ : ∃ k, n = k + 1 := ⟨n - 1, by omega⟩
    have : k = 2 := by push_cast at h2; omega
    subst this
    simp (disch := omega) only [Option.bind_some, km1, k0, k1, k2, k3, k4, k5, k6, k7, k8, k9, k10, k11, k15, k16, k20, k32, k33, k39, k40, k43, k44, k45, k48, k49, k50, k51, k52, k57, k59, k60, k63, k64, k80, k97, k100, k101, k108, k112, k114, k117, k126, k130, k650, k100000, k1000000, ii_add, ii_sub, ii_neg, ii_mul, ii_lt, ii_le, ii_eq, if_true, if_false, if_pos, if_neg, gI_0, gI_1, gI_2, gI_4, gI_7, gI_15, gI_59, gI_61, gI_62, gI_66, gI_68, gI_71, gI_72, gI_74, gR_0_0, gR_0_1, gR_0_3, gR_0_4, gR_0_5, gR_0_6, gR_0_7, gR_0_8, gR_1_0, gR_1_1, gR_1_2, gR_2_0, gR_4_0, gR_4_1, gR_15_0, gR_59_0, gR_61_0, gR_61_1, gR_61_2, gR_62_0, gR_62_1, gR_62_2, gR_66_0, gR_66_1, gR_68_0, gR_68_1, gR_71_0, gR_72_0, gR_74_0, gR_74_1, gR_74_3, gR_74_5, gR_74_7, gR_74_8, gR_74_9, gR_74_15, ld_3, ld_5, ld_6, ld_60, ld_63, ld_64, ld_65, ld_67, ld_69, ld_70, ld_73, ld_75, ld_76, ld_77, ld_78, ld_79, ld_80, ld_82, st_3, st_5, st_6, st_60, st_63, st_64, st_65, st_67, st_69, st_70, st_73, st_75, st_76, st_77, st_78, st_79, st_80, st_82, aL_3, aL_5, aL_6, aL_60, aL_63, aL_64, aL_65, aL_67, aL_69, aL_70, aL_73, aL_75, aL_76, aL_77, aL_78, aL_79, aL_80, aL_82, pI_0, pI_1, pI_2, pI_4, pI_7, pI_15, pI_59, pI_61, pI_62, pI_66, pI_68, pI_71, pI_72, pI_74, ld_81, ld_16, aL_16, lX11_number_21]
  | succ f ih =>
    intro n k h2 h3 h4 h5
    obtain ⟨n, rfl⟩ : ∃ k, n = k + 1 := ⟨n - 1, by omega⟩
    by_cases hk : k = 2
    · subst hk
      simp (disch := omega) only [Option.bind_some, km1, k0, k1, k2, k3, k4, k5, k6, k7, k8, k9, k10, k11, k15, k16, k20, k32, k33, k39, k40, k43, k44, k45, k48, k49, k50, k51, k52, k57, k59, k60, k63, k64, k80, k97, k100, k101, k108, k112, k114, k117, k126, k130, k650, k100000, k1000000, ii_add, ii_sub, ii_neg, ii_mul, ii_lt, ii_le, ii_eq, if_true, if_false, if_pos, if_neg, gI_0, gI_1, gI_2, gI_4, gI_7, gI_15, gI_59, gI_61, gI_62, gI_66, gI_68, gI_71, gI_72, gI_74, gR_0_0, gR_0_1, gR_0_3, gR_0_4, gR_0_5, gR_0_6, gR_0_7, gR_0_8, gR_1_0, gR_1_1, gR_1_2, gR_2_0, gR_4_0, gR_4_1, gR_15_0, gR_59_0, gR_61_0, gR_61_1, gR_61_2, gR_62_0, gR_62_1, gR_62_2, gR_66_0, gR_66_1, gR_68_0, gR_68_1, gR_71_0, gR_72_0, gR_74_0, gR_74_1, gR_74_3, gR_74_5, gR_74_7, gR_74_8, gR_74_9, gR_74_15, ld_3, ld_5, ld_6, ld_60, ld_63, ld_64, ld_65, ld_67, ld_69, ld_70, ld_73, ld_75, ld_76, ld_77, ld_78, ld_79, ld_80, ld_82, st_3, st_5, st_6, st_60, st_63, st_64, st_65, st_67, st_69, st_70, st_73, st_75, st_76, st_77, st_78, st_79, st_80, st_82, aL_3, aL_5, aL_6, aL_60, aL_63, aL_64, aL_65, aL_67, aL_69, aL_70, aL_73, aL_75, aL_76, aL_77, aL_78, aL_79, aL_80, aL_82, pI_0, pI_1, pI_2, pI_4, pI_7, pI_15, pI_59, pI_61, pI_62, pI_66, pI_68, pI_71, pI_72, pI_74, ld_81, ld_16, aL_16, lX11_number_21]
    · have r := ih n (k + 1) (by push_cast at h2; omega) (by omega) (by omega) (by omega)
      simp (disch := omega) only [Option.bind_some, km1, k0, k1, k2, k3, k4, k5, k6, k7, k8, k9, k10, k11, k15, k16, k20, k32, k33, k39, k40, k43, k44, k45, k48, k49, k50, k51, k52, k57, k59, k60, k63, k64, k80, k97, k100, k101, k108, k112, k114, k117, k126, k130, k650, k100000, k1000000, ii_add, ii_sub, ii_neg, ii_mul, ii_lt, ii_le, ii_eq, if_true, if_false, if_pos, if_neg, gI_0, gI_1, gI_2, gI_4, gI_7, gI_15, gI_59, gI_61, gI_62, gI_66, gI_68, gI_71, gI_72, gI_74, gR_0_0, gR_0_1, gR_0_3, gR_0_4, gR_0_5, gR_0_6, gR_0_7, gR_0_8, gR_1_0, gR_1_1, gR_1_2, gR_2_0, gR_4_0, gR_4_1, gR_15_0, gR_59_0, gR_61_0, gR_61_1, gR_61_2, gR_62_0, gR_62_1, gR_62_2, gR_66_0, gR_66_1, gR_68_0, gR_68_1, gR_71_0, gR_72_0, gR_74_0, gR_74_1, gR_74_3, gR_74_5, gR_74_7, gR_74_8, gR_74_9, gR_74_15, ld_3, ld_5, ld_6, ld_60, ld_63, ld_64, ld_65, ld_67, ld_69, ld_70, ld_73, ld_75, ld_76, ld_77, ld_78, ld_79, ld_80, ld_82, st_3, st_5, st_6, st_60, st_63, st_64, st_65, st_67, st_69, st_70, st_73, st_75, st_76, st_77, st_78, st_79, st_80, st_82, aL_3, aL_5, aL_6, aL_60, aL_63, aL_64, aL_65, aL_67, aL_69, aL_70, aL_73, aL_75, aL_76, aL_77, aL_78, aL_79, aL_80, aL_82, pI_0, pI_1, pI_2, pI_4, pI_7, pI_15, pI_59, pI_61, pI_62, pI_66, pI_68, pI_71, pI_72, pI_74, ld_81, ld_16, aL_16, lX11_number_21, lX11_number_74, e, r]
theorem nloop_n (hB : BF μ.1 b Y) (hY : YB b Y) {i lim x : Int} (hw : WS μ.1 (-1) i) (h0 : 0 ≤ i) (h1 : i ≤ 100) (hd : ¬ (48 ≤ sg b Y i ∧ sg b Y i ≤ 57)) : ∀ (f n : Nat) (k : Int), 2 - k ≤ f → f < n → 0 ≤ k → k ≤ 2 → lX11_number_21 oS n μ 74 (ii lim) (ii x) (ii k) = some (ii x, μ) := by
  have e := hw.1
  have s := sign_at hB hY hw h0 h1
  have sb := sg_b (b := b) (Y := Y) hY h0
  have d : fX11_in (ii (sg b Y i)) (ii 48) (ii 57) = _ := in_at (by omega) (by omega) (by omega) (by omega) (by omega) (by omega)
  rw [if_neg hd] at d
  intro f
  induction f with
  | zero =>
    intro n k h2 h3 h4 h5
    obtain ⟨n, rfl⟩ : ∃ k, n = k + 1 := ⟨n - 1, by omega⟩
    have : k = 2 := by push_cast at h2; omega
    subst this
    simp (disch := omega) only [Option.bind_some, km1, k0, k1, k2, k3, k4, k5, k6, k7, k8, k9, k10, k11, k15, k16, k20, k32, k33, k39, k40, k43, k44, k45, k48, k49, k50, k51, k52, k57, k59, k60, k63, k64, k80, k97, k100, k101, k108, k112, k114, k117, k126, k130, k650, k100000, k1000000, ii_add, ii_sub, ii_neg, ii_mul, ii_lt, ii_le, ii_eq, if_true, if_false, if_pos, if_neg, gI_0, gI_1, gI_2, gI_4, gI_7, gI_15, gI_59, gI_61, gI_62, gI_66, gI_68, gI_71, gI_72, gI_74, gR_0_0, gR_0_1, gR_0_3, gR_0_4, gR_0_5, gR_0_6, gR_0_7, gR_0_8, gR_1_0, gR_1_1, gR_1_2, gR_2_0, gR_4_0, gR_4_1, gR_15_0, gR_59_0, gR_61_0, gR_61_1, gR_61_2, gR_62_0, gR_62_1, gR_62_2, gR_66_0, gR_66_1, gR_68_0, gR_68_1, gR_71_0, gR_72_0, gR_74_0, gR_74_1, gR_74_3, gR_74_5, gR_74_7, gR_74_8, gR_74_9, gR_74_15, ld_3, ld_5, ld_6, ld_60, ld_63, ld_64, ld_65, ld_67, ld_69, ld_70, ld_73, ld_75, ld_76, ld_77, ld_78, ld_79, ld_80, ld_82, st_3, st_5, st_6, st_60, st_63, st_64, st_65, st_67, st_69, st_70, st_73, st_75, st_76, st_77, st_78, st_79, st_80, st_82, aL_3, aL_5, aL_6, aL_60, aL_63, aL_64, aL_65, aL_67, aL_69, aL_70, aL_73, aL_75, aL_76, aL_77, aL_78, aL_79, aL_80, aL_82, pI_0, pI_1, pI_2, pI_4, pI_7, pI_15, pI_59, pI_61, pI_62, pI_66, pI_68, pI_71, pI_72, pI_74, ld_81, ld_16, aL_16, lX11_number_21]
  | succ f ih =>
    intro n k h2 h3 h4 h5
    obtain ⟨n, rfl⟩ : ∃ k, n = k + 1 := ⟨n - 1, by omega⟩
    by_cases hk : k = 2
    · subst hk
      simp (disch := omega) only [Option.bind_some, km1, k0, k1, k2, k3, k4, k5, k6, k7, k8, k9, k10, k11, k15, k16, k20, k32, k33, k39, k40, k43, k44, k45, k48, k49, k50, k51, k52, k57, k59, k60, k63, k64, k80, k97, k100, k101, k108, k112, k114, k117, k126, k130, k650, k100000, k1000000, ii_add, ii_sub, ii_neg, ii_mul, ii_lt, ii_le, ii_eq, if_true, if_false, if_pos, if_neg, gI_0, gI_1, gI_2, gI_4, gI_7, gI_15, gI_59, gI_61, gI_62, gI_66, gI_68, gI_71, gI_72, gI_74, gR_0_0, gR_0_1, gR_0_3, gR_0_4, gR_0_5, gR_0_6, gR_0_7, gR_0_8, gR_1_0, gR_1_1, gR_1_2, gR_2_0, gR_4_0, gR_4_1, gR_15_0, gR_59_0, gR_61_0, gR_61_1, gR_61_2, gR_62_0, gR_62_1, gR_62_2, gR_66_0, gR_66_1, gR_68_0, gR_68_1, gR_71_0, gR_72_0, gR_74_0, gR_74_1, gR_74_3, gR_74_5, gR_74_7, gR_74_8, gR_74_9, gR_74_15, ld_3, ld_5, ld_6, ld_60, ld_63, ld_64, ld_65, ld_67, ld_69, ld_70, ld_73, ld_75, ld_76, ld_77, ld_78, ld_79, ld_80, ld_82, st_3, st_5, st_6, st_60, st_63, st_64, st_65, st_67, st_69, st_70, st_73, st_75, st_76, st_77, st_78, st_79, st_80, st_82, aL_3, aL_5, aL_6, aL_60, aL_63, aL_64, aL_65, aL_67, aL_69, aL_70, aL_73, aL_75, aL_76, aL_77, aL_78, aL_79, aL_80, aL_82, pI_0, pI_1, pI_2, pI_4, pI_7, pI_15, pI_59, pI_61, pI_62, pI_66, pI_68, pI_71, pI_72, pI_74, ld_81, ld_16, aL_16, lX11_number_21]
    · have r := ih n (k + 1) (by push_cast at h2; omega) (by omega) (by omega) (by omega)
      simp (disch := omega) only [Option.bind_some, km1, k0, k1, k2, k3, k4, k5, k6, k7, k8, k9, k10, k11, k15, k16, k20, k32, k33, k39, k40, k43, k44, k45, k48, k49, k50, k51, k52, k57, k59, k60, k63, k64, k80, k97, k100, k101, k108, k112, k114, k117, k126, k130, k650, k100000, k1000000, ii_add, ii_sub, ii_neg, ii_mul, ii_lt, ii_le, ii_eq, if_true, if_false, if_pos, if_neg, gI_0, gI_1, gI_2, gI_4, gI_7, gI_15, gI_59, gI_61, gI_62, gI_66, gI_68, gI_71, gI_72, gI_74, gR_0_0, gR_0_1, gR_0_3, gR_0_4, gR_0_5, gR_0_6, gR_0_7, gR_0_8, gR_1_0, gR_1_1, gR_1_2, gR_2_0, gR_4_0, gR_4_1, gR_15_0, gR_59_0, gR_61_0, gR_61_1, gR_61_2, gR_62_0, gR_62_1, gR_62_2, gR_66_0, gR_66_1, gR_68_0, gR_68_1, gR_71_0, gR_72_0, gR_74_0, gR_74_1, gR_74_3, gR_74_5, gR_74_7, gR_74_8, gR_74_9, gR_74_15, ld_3, ld_5, ld_6, ld_60, ld_63, ld_64, ld_65, ld_67, ld_69, ld_70, ld_73, ld_75, ld_76, ld_77, ld_78, ld_79, ld_80, ld_82, st_3, st_5, st_6, st_60, st_63, st_64, st_65, st_67, st_69, st_70, st_73, st_75, st_76, st_77, st_78, st_79, st_80, st_82, aL_3, aL_5, aL_6, aL_60, aL_63, aL_64, aL_65, aL_67, aL_69, aL_70, aL_73, aL_75, aL_76, aL_77, aL_78, aL_79, aL_80, aL_82, pI_0, pI_1, pI_2, pI_4, pI_7, pI_15, pI_59, pI_61, pI_62, pI_66, pI_68, pI_71, pI_72, pI_74, ld_81, ld_16, aL_16, lX11_number_21, lX11_number_74, e, s, d, r]
/-- one more digit -/
theorem nloop_d (hB : BF μ.1 b Y) (hY : YB b Y) {i lim x k : Int} (hw : WS μ.1 (-1) i) (h0 : 0 ≤ i) (h1 : i ≤ 100) (hd : 48 ≤ sg b Y i ∧ sg b Y i ≤ 57) (hk0 : 0 ≤ k) (hk : k < 2) (hx0 : 0 ≤ x) (hx : x ≤ 1000) (hl0 : 0 ≤ lim) (hl : lim ≤ 100) (n : Nat) : lX11_number_21 oS (n + 1) μ 74 (ii lim) (ii x) (ii k) = lX11_number_21 oS n (nx μ.1 (if lim < 10 * x + sg b Y i - 48 then i else -1) (i + 1), μ.2) 74 (ii lim) (ii (10 * x + sg b Y i - 48)) (ii (k + 1)) := by
  have e := hw.1
  have s := sign_at hB hY hw h0 h1
  have d : fX11_in (ii (sg b Y i)) (ii 48) (ii 57) = _ := in_at (by omega) (by omega) (by omega) (by omega) (by omega) (by omega)
  rw [if_pos hd] at d
  rw [lX11_number_21]
  generalize lX11_number_21 oS n = K
  by_cases h : lim < 10 * x + sg b Y i - 48
  · have r := need_0 hw h0 h1
    simp (disch := omega) only [Option.bind_some, km1, k0, k1, k2, k3, k4, k5, k6, k7, k8, k9, k10, k11, k15, k16, k20, k32, k33, k39, k40, k43, k44, k45, k48, k49, k50, k51, k52, k57, k59, k60, k63, k64, k80, k97, k100, k101, k108, k112, k114, k117, k126, k130, k650, k100000, k1000000, ii_add, ii_sub, ii_neg, ii_mul, ii_lt, ii_le, ii_eq, if_true, if_false, if_pos, if_neg, gI_0, gI_1, gI_2, gI_4, gI_7, gI_15, gI_59, gI_61, gI_62, gI_66, gI_68, gI_71, gI_72, gI_74, gR_0_0, gR_0_1, gR_0_3, gR_0_4, gR_0_5, gR_0_6, gR_0_7, gR_0_8, gR_1_0, gR_1_1, gR_1_2, gR_2_0, gR_4_0, gR_4_1, gR_15_0, gR_59_0, gR_61_0, gR_61_1, gR_61_2, gR_62_0, gR_62_1, gR_62_2, gR_66_0, gR_66_1, gR_68_0, gR_68_1, gR_71_0, gR_72_0, gR_74_0, gR_74_1, gR_74_3, gR_74_5, gR_74_7, gR_74_8, gR_74_9, gR_74_15, ld_3, ld_5, ld_6, ld_60, ld_63, ld_64, ld_65, ld_67, ld_69, ld_70, ld_73, ld_75, ld_76, ld_77, ld_78, ld_79, ld_80, ld_82, st_3, st_5, st_6, st_60, st_63, st_64, st_65, st_67, st_69, st_70, st_73, st_75, st_76, st_77, st_78, st_79, st_80, st_82, aL_3, aL_5, aL_6, aL_60, aL_63, aL_64, aL_65, aL_67, aL_69, aL_70, aL_73, aL_75, aL_76, aL_77, aL_78, aL_79, aL_80, aL_82, pI_0, pI_1, pI_2, pI_4, pI_7, pI_15, pI_59, pI_61, pI_62, pI_66, pI_68, pI_71, pI_72, pI_74, ld_81, ld_16, aL_16, lX11_number_74, lX11_number_71, e, s, d, r]
  · have r := need_1 hw h0 h1
    simp (disch := omega) only [Option.bind_some, km1, k0, k1, k2, k3, k4, k5, k6, k7, k8, k9, k10, k11, k15, k16, k20, k32, k33, k39, k40, k43, k44, k45, k48, k49, k50, k51, k52, k57, k59, k60, k63, k64, k80, k97, k100, k101, k108, k112, k114, k117, k126, k130, k650, k100000, k1000000, ii_add, ii_sub, ii_neg, ii_mul, ii_lt, ii_le, ii_eq, if_true, if_false, if_pos, if_neg, gI_0, gI_1, gI_2, gI_4, gI_7, gI_15, gI_59, gI_61, gI_62, gI_66, gI_68, gI_71, gI_72, gI_74, gR_0_0, gR_0_1, gR_0_3, gR_0_4, gR_0_5, gR_0_6, gR_0_7, gR_0_8, gR_1_0, gR_1_1, gR_1_2, gR_2_0, gR_4_0, gR_4_1, gR_15_0, gR_59_0, gR_61_0, gR_61_1, gR_61_2, gR_62_0, gR_62_1, gR_62_2, gR_66_0, gR_66_1, gR_68_0, gR_68_1, gR_71_0, gR_72_0, gR_74_0, gR_74_1, gR_74_3, gR_74_5, gR_74_7, gR_74_8, gR_74_9, gR_74_15, ld_3, ld_5, ld_6, ld_60, ld_63, ld_64, ld_65, ld_67, ld_69, ld_70, ld_73, ld_75, ld_76, ld_77, ld_78, ld_79, ld_80, ld_82, st_3, st_5, st_6, st_60, st_63, st_64, st_65, st_67, st_69, st_70, st_73, st_75, st_76, st_77, st_78, st_79, st_80, st_82, aL_3, aL_5, aL_6, aL_60, aL_63, aL_64, aL_65, aL_67, aL_69, aL_70, aL_73, aL_75, aL_76, aL_77, aL_78, aL_79, aL_80, aL_82, pI_0, pI_1, pI_2, pI_4, pI_7, pI_15, pI_59, pI_61, pI_62, pI_66, pI_68, pI_71, pI_72, pI_74, ld_81, ld_16, aL_16, lX11_number_74, lX11_number_71, e, s, d, r]
theorem rnum_at (hB : BF μ.1 b Y) (hY : YB b Y) {i lim : Int} (hw : WS μ.1 (-1) i) (h0 : 0 ≤ i) (h1 : i ≤ 90) (hl0 : 30 ≤ lim) (hl : lim ≤ 50) : ∃ m', fX11_number oS μ 74 (ii lim) = some (ii (nm b Y lim i).2.2, (m', μ.2)) ∧ WS m' (nm b Y lim i).1 (nm b Y lim i).2.1 ∧ NF μ.1 m' := by
  have sb := sg_b (b := b) (Y := Y) hY h0
  have s := sign_at hB hY hw h0 (by omega)
  have d : fX11_in (ii (sg b Y i - 48)) (ii 1) (ii 9) = _ := in_at (by omega) (by omega) (by omega) (by omega) (by omega) (by omega)
  obtain ⟨n, hn⟩ : ∃ k, FU = k + 1 + 1 + 1 := ⟨4997, rfl⟩
  unfold nm
  by_cases c1 : 49 ≤ sg b Y i ∧ sg b Y i ≤ 57
  · rw [if_neg (by omega)]
    rw [if_pos (by omega)] at d
    have r := need_1 hw h0 (by omega)
    have hB1 := BF_fr (nx_F (w := -1) (i := i + 1)) hB
    have hW1 : WS (nx μ.1 (-1) (i + 1)) (-1) (i + 1) := nx_W
    have base : fX11_number oS μ 74 (ii lim) = lX11_number_21 oS FU (nx μ.1 (-1) (i + 1), μ.2) 74 (ii lim) (ii (sg b Y i - 48)) (ii 0) := by
      unfold fX11_number bX11_number
      generalize lX11_number_21 oS FU = K
      simp (disch := omega) only [Option.bind_some, km1, k0, k1, k2, k3, k4, k5, k6, k7, k8, k9, k10, k11, k15, k16, k20, k32, k33, k39, k40, k43, k44, k45, k48, k49, k50, k51, k52, k57, k59, k60, k63, k64, k80, k97, k100, k101, k108, k112, k114, k117, k126, k130, k650, k100000, k1000000, ii_add, ii_sub, ii_neg, ii_mul, ii_lt, ii_le, ii_eq, if_true, if_false, if_pos, if_neg, gI_0, gI_1, gI_2, gI_4, gI_7, gI_15, gI_59, gI_61, gI_62, gI_66, gI_68, gI_71, gI_72, gI_74, gR_0_0, gR_0_1, gR_0_3, gR_0_4, gR_0_5, gR_0_6, gR_0_7, gR_0_8, gR_1_0, gR_1_1, gR_1_2, gR_2_0, gR_4_0, gR_4_1, gR_15_0, gR_59_0, gR_61_0, gR_61_1, gR_61_2, gR_62_0, gR_62_1, gR_62_2, gR_66_0, gR_66_1, gR_68_0, gR_68_1, gR_71_0, gR_72_0, gR_74_0, gR_74_1, gR_74_3, gR_74_5, gR_74_7, gR_74_8, gR_74_9, gR_74_15, ld_3, ld_5, ld_6, ld_60, ld_63, ld_64, ld_65, ld_67, ld_69, ld_70, ld_73, ld_75, ld_76, ld_77, ld_78, ld_79, ld_80, ld_82, st_3, st_5, st_6, st_60, st_63, st_64, st_65, st_67, st_69, st_70, st_73, st_75, st_76, st_77, st_78, st_79, st_80, st_82, aL_3, aL_5, aL_6, aL_60, aL_63, aL_64, aL_65, aL_67, aL_69, aL_70, aL_73, aL_75, aL_76, aL_77, aL_78, aL_79, aL_80, aL_82, pI_0, pI_1, pI_2, pI_4, pI_7, pI_15, pI_59, pI_61, pI_62, pI_66, pI_68, pI_71, pI_72, pI_74, ld_81, ld_16, aL_16, if_pos o74, s, d, r]
    by_cases c2 : 48 ≤ sg b Y (i + 1) ∧ sg b Y (i + 1) ≤ 57
    · rw [if_neg (by omega)]
      have st := nloop_d (μ := (nx μ.1 (-1) (i + 1), μ.2)) (lim := lim) (x := sg b Y i - 48) (k := 0) hB1 hY hW1 (by omega) (by omega) c2 (by omega) (by omega) (by omega) (by omega) (by omega) (by omega) (n + 1 + 1)
      rw [← hn] at st
      by_cases c3 : lim < 10 * (sg b Y i - 48) + sg b Y (i + 1) - 48
      · rw [if_pos c3]
        rw [if_pos c3] at st
        refine ⟨nx (nx μ.1 (-1) (i + 1)) (i + 1) (i + 1 + 1), ?_, ?_, nx_F.tr nx_F⟩
        · rw [base, st]
          exact nloop_w (μ := (nx (nx μ.1 (-1) (i + 1)) (i + 1) (i + 1 + 1), μ.2)) nx_W (by omega) (by omega) 1 _ (0 + 1) (by omega) (by omega) (by omega) (by omega)
        · show WS _ (i + 1) (i + 2)
          rw [show i + 2 = i + 1 + 1 by omega]
          exact nx_W
      · rw [if_neg c3]
        rw [if_neg c3] at st
        have hB2 := BF_fr (nx_F (w := -1) (i := i + 1 + 1)) hB1
        have hW2 : WS (nx (nx μ.1 (-1) (i + 1)) (-1) (i + 1 + 1)) (-1) (i + 1 + 1) := nx_W
        have e2 : sg b Y (i + 2) = sg b Y (i + 1 + 1) := congrArg (sg b Y) (by omega)
        by_cases c4 : 48 ≤ sg b Y (i + 1 + 1) ∧ sg b Y (i + 1 + 1) ≤ 57
        · rw [e2, if_neg (by omega)]
          have st2 := nloop_d (μ := (nx (nx μ.1 (-1) (i + 1)) (-1) (i + 1 + 1), μ.2)) (lim := lim) (x := 10 * (sg b Y i - 48) + sg b Y (i + 1) - 48) (k := 0 + 1) hB2 hY hW2 (by omega) (by omega) c4 (by omega) (by omega) (by omega) (by omega) (by omega) (by omega) (n + 1)
          rw [if_pos (by omega)] at st2
          refine ⟨nx (nx (nx μ.1 (-1) (i + 1)) (-1) (i + 1 + 1)) (i + 1 + 1) (i + 1 + 1 + 1), ?_, ?_, (nx_F.tr nx_F).tr nx_F⟩
          · rw [base, st, st2]
            exact nloop_w (μ := (nx (nx (nx μ.1 (-1) (i + 1)) (-1) (i + 1 + 1)) (i + 1 + 1) (i + 1 + 1 + 1), μ.2)) nx_W (by omega) (by omega) 0 _ (0 + 1 + 1) (by omega) (by omega) (by omega) (by omega)
          · show WS _ (i + 2) (i + 3)
            rw [show i + 3 = i + 1 + 1 + 1 by omega, show i + 2 = i + 1 + 1 by omega]
            exact nx_W
        · rw [e2, if_pos c4]
          refine ⟨nx (nx μ.1 (-1) (i + 1)) (-1) (i + 1 + 1), ?_, ?_, nx_F.tr nx_F⟩
          · rw [base, st]
            exact nloop_n (μ := (nx (nx μ.1 (-1) (i + 1)) (-1) (i + 1 + 1), μ.2)) hB2 hY hW2 (by omega) (by omega) c4 1 _ (0 + 1) (by omega) (by omega) (by omega) (by omega)
          · show WS _ (-1) (i + 2)
            rw [show i + 2 = i + 1 + 1 by omega]
            exact nx_W
    · rw [if_pos c2]
      refine ⟨nx μ.1 (-1) (i + 1), ?_, nx_W, nx_F⟩
      rw [base]
      exact nloop_n (μ := (nx μ.1 (-1) (i + 1), μ.2)) hB1 hY hW1 (by omega) (by omega) c2 2 FU 0 (by omega) (by decide) (by omega) (by omega)
  · rw [if_pos c1]
    rw [if_neg (by omega)] at d
    have r := need_0 hw h0 (by omega)
    refine ⟨nx μ.1 i (i + 1), ?_, nx_W, nx_F⟩
    have st := nloop_w (μ := (nx μ.1 i (i + 1), μ.2)) (lim := lim) (x := sg b Y i - 48) nx_W h0 (by omega) 2 FU 0 (by omega) (by decide) (by omega) (by omega)
    unfold fX11_number bX11_number
    generalize lX11_number_21 oS FU = K at st ⊢
    simp (disch := omega) only [Option.bind_some, km1, k0, k1, k2, k3, k4, k5, k6, k7, k8, k9, k10, k11, k15, k16, k20, k32, k33, k39, k40, k43, k44, k45, k48, k49, k50, k51, k52, k57, k59, k60, k63, k64, k80, k97, k100, k101, k108, k112, k114, k117, k126, k130, k650, k100000, k1000000, ii_add, ii_sub, ii_neg, ii_mul, ii_lt, ii_le, ii_eq, if_true, if_false, if_pos, if_neg, gI_0, gI_1, gI_2, gI_4, gI_7, gI_15, gI_59, gI_61, gI_62, gI_66, gI_68, gI_71, gI_72, gI_74, gR_0_0, gR_0_1, gR_0_3, gR_0_4, gR_0_5, gR_0_6, gR_0_7, gR_0_8, gR_1_0, gR_1_1, gR_1_2, gR_2_0, gR_4_0, gR_4_1, gR_15_0, gR_59_0, gR_61_0, gR_61_1, gR_61_2, gR_62_0, gR_62_1, gR_62_2, gR_66_0, gR_66_1, gR_68_0, gR_68_1, gR_71_0, gR_72_0, gR_74_0, gR_74_1, gR_74_3, gR_74_5, gR_74_7, gR_74_8, gR_74_9, gR_74_15, ld_3, ld_5, ld_6, ld_60, ld_63, ld_64, ld_65, ld_67, ld_69, ld_70, ld_73, ld_75, ld_76, ld_77, ld_78, ld_79, ld_80, ld_82, st_3, st_5, st_6, st_60, st_63, st_64, st_65, st_67, st_69, st_70, st_73, st_75, st_76, st_77, st_78, st_79, st_80, st_82, aL_3, aL_5, aL_6, aL_60, aL_63, aL_64, aL_65, aL_67, aL_69, aL_70, aL_73, aL_75, aL_76, aL_77, aL_78, aL_79, aL_80, aL_82, pI_0, pI_1, pI_2, pI_4, pI_7, pI_15, pI_59, pI_61, pI_62, pI_66, pI_68, pI_71, pI_72, pI_74, ld_81, ld_16, aL_16, if_pos o74, s, d, r, st]
theorem rnum_w (hB : BF μ.1 b Y) (hY : YB b Y) {w i lim : Int} (hw : WS μ.1 w i) (hw0 : 0 ≤ w) (hw1 : w ≤ 100) (h0 : 0 ≤ i) (h1 : i ≤ 100) : fX11_number oS μ 74 (ii lim) = some (ii (sg b Y i - 48), μ) := by
  have sb := sg_b (b := b) (Y := Y) hY h0
  have s := sign_at hB hY hw h0 h1
  have d : fX11_in (ii (sg b Y i - 48)) (ii 1) (ii 9) = _ := in_at (by omega) (by omega) (by omega) (by omega) (by omega) (by omega)
  have r := fun c => need_w (c := c) hw hw0 hw1
  have st := nloop_w (lim := lim) (x := sg b Y i - 48) hw hw0 hw1 2 FU 0 (by omega) (by decide) (by omega) (by omega)
  unfold fX11_number bX11_number
  generalize lX11_number_21 oS FU = K at st ⊢
  simp (disch := omega) only [Option.bind_some, km1, k0, k1, k2, k3, k4, k5, k6, k7, k8, k9, k10, k11, k15, k16, k20, k32, k33, k39, k40, k43, k44, k45, k48, k49, k50, k51, k52, k57, k59, k60, k63, k64, k80, k97, k100, k101, k108, k112, k114, k117, k126, k130, k650, k100000, k1000000, ii_add, ii_sub, ii_neg, ii_mul, ii_lt, ii_le, ii_eq, if_true, if_false, if_pos, if_neg, gI_0, gI_1, gI_2, gI_4, gI_7, gI_15, gI_59, gI_61, gI_62, gI_66, gI_68, gI_71, gI_72, gI_74, gR_0_0, gR_0_1, gR_0_3, gR_0_4, gR_0_5, gR_0_6, gR_0_7, gR_0_8, gR_1_0, gR_1_1, gR_1_2, gR_2_0, gR_4_0, gR_4_1, gR_15_0, gR_59_0, gR_61_0, gR_61_1, gR_61_2, gR_62_0, gR_62_1, gR_62_2, gR_66_0, gR_66_1, gR_68_0, gR_68_1, gR_71_0, gR_72_0, gR_74_0, gR_74_1, gR_74_3, gR_74_5, gR_74_7, gR_74_8, gR_74_9, gR_74_15, ld_3, ld_5, ld_6, ld_60, ld_63, ld_64, ld_65, ld_67, ld_69, ld_70, ld_73, ld_75, ld_76, ld_77, ld_78, ld_79, ld_80, ld_82, st_3, st_5, st_6, st_60, st_63, st_64, st_65, st_67, st_69, st_70, st_73, st_75, st_76, st_77, st_78, st_79, st_80, st_82, aL_3, aL_5, aL_6, aL_60, aL_63, aL_64, aL_65, aL_67, aL_69, aL_70, aL_73, aL_75, aL_76, aL_77, aL_78, aL_79, aL_80, aL_82, pI_0, pI_1, pI_2, pI_4, pI_7, pI_15, pI_59, pI_61, pI_62, pI_66, pI_68, pI_71, pI_72, pI_74, ld_81, ld_16, aL_16, if_pos o74, s, d, r, st]
