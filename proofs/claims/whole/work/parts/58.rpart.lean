/-! a repeat in the buffer, as the reference reads it -/
variable {μ : mMm} {b : Int} {Y : Int → Int}
theorem nm_b (b : Int) (Y : Int → Int) (lim : Int) {i : Int} (h0 : 0 ≤ i) : ((nm b Y lim i).1 = -1 ∨ (i ≤ (nm b Y lim i).1 ∧ (nm b Y lim i).1 ≤ i + 2)) ∧ i + 1 ≤ (nm b Y lim i).2.1 ∧ (nm b Y lim i).2.1 ≤ i + 3 := by
  unfold nm
  by_cases c1 : 49 ≤ sg b Y i ∧ sg b Y i ≤ 57
  · rw [if_neg (by omega)]
    by_cases c2 : 48 ≤ sg b Y (i + 1) ∧ sg b Y (i + 1) ≤ 57
    · rw [if_neg (by omega)]
      by_cases c3 : lim < 10 * (sg b Y i - 48) + sg b Y (i + 1) - 48
      · rw [if_pos c3]
        exact ⟨Or.inr ⟨by show i ≤ i + 1; omega, by show i + 1 ≤ i + 2; omega⟩, by show i + 1 ≤ i + 2; omega, by show i + 2 ≤ i + 3; omega⟩
      · rw [if_neg c3]
        by_cases c4 : 48 ≤ sg b Y (i + 2) ∧ sg b Y (i + 2) ≤ 57
        · rw [if_neg (by omega)]
          exact ⟨Or.inr ⟨by show i ≤ i + 2; omega, Int.le_refl _⟩, by show i + 1 ≤ i + 3; omega, Int.le_refl _⟩
        · rw [if_pos c4]
          exact ⟨Or.inl rfl, by show i + 1 ≤ i + 2; omega, by show i + 2 ≤ i + 3; omega⟩
    · rw [if_pos c2]
      exact ⟨Or.inl rfl, Int.le_refl _, by show i + 1 ≤ i + 3; omega⟩
  · rw [if_pos c1]
    exact ⟨Or.inr ⟨Int.le_refl _, by show i ≤ i + 2; omega⟩, Int.le_refl _, by show i + 1 ≤ i + 3; omega⟩
/-- where it is wrong (or -1), where it ends, its distance and its length -/
def prd (b : Int) (Y : Int → Int) (j : Int) : Int × Int × Int × Int :=
  if (nm b Y 39 j).1 = -1 then
    (if sg b Y (nm b Y 39 j).2.1 = 44 then ((nm b Y 40 ((nm b Y 39 j).2.1 + 1)).1, (nm b Y 40 ((nm b Y 39 j).2.1 + 1)).2.1, (nm b Y 39 j).2.2, (nm b Y 40 ((nm b Y 39 j).2.1 + 1)).2.2)
    else ((nm b Y 39 j).2.1, (nm b Y 39 j).2.1 + 1, 0, 0))
  else ((nm b Y 39 j).1, (nm b Y 39 j).2.1, 0, 0)
theorem rp_281u {m : Nat → Nat → Int32} {l : Nat → Nat → Int64} {k : Nat} {x : Int32} {r : Int} (hm : m 74 16 = ii r) : lX11_readPart_281 oS (u2 m 82 k x, l) 74 = some (u2 (u2 m 82 k x) 74 16 (ii (r + 1)), l) := by
  have h : u2 m 82 k x 74 16 = ii r := (u2_off (by omega)).trans hm
  exact rp_281 (μ := (u2 m 82 k x, l)) h
theorem rp_264w (hB : BF μ.1 b Y) (hY : YB b Y) {w i r c : Int} (hw : WS μ.1 w i) (hw0 : 0 ≤ w) (hw1 : w ≤ 100) (h0 : 0 ≤ i) (h1 : i ≤ 100) (hm : μ.1 74 16 = ii r) (hr0 : 0 ≤ r) (hr : r ≤ 31) : ∃ m', lX11_readPart_264 oS μ 74 (ii (3 * r)) (ii c) 74 = some (m', μ.2) ∧ WS m' w i ∧ QF r μ.1 m' ∧ m' 74 16 = ii (r + 1) ∧ m' 82 (3 * r).toNat = μ.1 82 (3 * r).toNat := by
  have n := need_w (c := c) hw hw0 hw1
  have x := rnum_w (lim := 40) hB hY hw hw0 hw1 h0 h1
  have e := rp_281u (l := μ.2) (k := (3 * r + 2).toNat) (x := (ii (sg b Y i - 48))) hm
  refine ⟨u2 (u2 μ.1 82 (3 * r + 2).toNat (ii (sg b Y i - 48))) 74 16 (ii (r + 1)), ?_, WS_16 (WS_82 hw), (QF_82 (by omega) hr0).tr QF_16, u2_at rfl rfl, by simp (disch := omega) only [u2_off]⟩
  unfold lX11_readPart_264
  simp (disch := omega) only [Option.bind_some, km1, k0, k1, k2, k3, k4, k5, k6, k7, k8, k9, k10, k11, k15, k16, k20, k32, k33, k39, k40, k43, k44, k45, k48, k49, k50, k51, k52, k57, k59, k60, k63, k64, k80, k97, k100, k101, k108, k112, k114, k117, k126, k130, k650, k100000, k1000000, ii_add, ii_sub, ii_neg, ii_mul, ii_lt, ii_le, ii_eq, if_true, if_false, if_pos, if_neg, gI_0, gI_1, gI_2, gI_4, gI_7, gI_15, gI_59, gI_61, gI_62, gI_66, gI_68, gI_71, gI_72, gI_74, gR_0_0, gR_0_1, gR_0_3, gR_0_4, gR_0_5, gR_0_6, gR_0_7, gR_0_8, gR_1_0, gR_1_1, gR_1_2, gR_2_0, gR_4_0, gR_4_1, gR_15_0, gR_59_0, gR_61_0, gR_61_1, gR_61_2, gR_62_0, gR_62_1, gR_62_2, gR_66_0, gR_66_1, gR_68_0, gR_68_1, gR_71_0, gR_72_0, gR_74_0, gR_74_1, gR_74_3, gR_74_5, gR_74_7, gR_74_8, gR_74_9, gR_74_15, ld_3, ld_5, ld_6, ld_60, ld_63, ld_64, ld_65, ld_67, ld_69, ld_70, ld_73, ld_75, ld_76, ld_77, ld_78, ld_79, ld_80, ld_82, st_3, st_5, st_6, st_60, st_63, st_64, st_65, st_67, st_69, st_70, st_73, st_75, st_76, st_77, st_78, st_79, st_80, st_82, aL_3, aL_5, aL_6, aL_60, aL_63, aL_64, aL_65, aL_67, aL_69, aL_70, aL_73, aL_75, aL_76, aL_77, aL_78, aL_79, aL_80, aL_82, pI_0, pI_1, pI_2, pI_4, pI_7, pI_15, pI_59, pI_61, pI_62, pI_66, pI_68, pI_71, pI_72, pI_74, ld_81, ld_16, aL_16, n, x, e]
theorem rp_264n (hB : BF μ.1 b Y) (hY : YB b Y) {i r : Int} (hw : WS μ.1 (-1) i) (h0 : 0 ≤ i) (h1 : i ≤ 80) (hm : μ.1 74 16 = ii r) (hr0 : 0 ≤ r) (hr : r ≤ 31) : ∃ m', lX11_readPart_264 oS μ 74 (ii (3 * r)) (ii 0) 74 = some (m', μ.2) ∧ WS m' i (i + 1) ∧ QF r μ.1 m' ∧ m' 74 16 = ii (r + 1) ∧ m' 82 (3 * r).toNat = μ.1 82 (3 * r).toNat := by
  have n := need_0 hw h0 (by omega)
  have x := rnum_w (μ := (nx μ.1 i (i + 1), μ.2)) (lim := 40) (BF_fr nx_F hB) hY nx_W h0 (by omega) (by omega) (by omega)
  have hm1 : nx μ.1 i (i + 1) 74 16 = ii r := (nx_F.2 16 (by omega) (by omega)).trans hm
  have e := rp_281u (l := μ.2) (k := (3 * r + 2).toNat) (x := (ii (sg b Y (i + 1) - 48))) hm1
  refine ⟨u2 (u2 (nx μ.1 i (i + 1)) 82 (3 * r + 2).toNat (ii (sg b Y (i + 1) - 48))) 74 16 (ii (r + 1)), ?_, WS_16 (WS_82 nx_W), (nx_F.q.tr (QF_82 (by omega) hr0)).tr QF_16, u2_at rfl rfl, ?_⟩
  · unfold lX11_readPart_264
    simp (disch := omega) only [Option.bind_some, km1, k0, k1, k2, k3, k4, k5, k6, k7, k8, k9, k10, k11, k15, k16, k20, k32, k33, k39, k40, k43, k44, k45, k48, k49, k50, k51, k52, k57, k59, k60, k63, k64, k80, k97, k100, k101, k108, k112, k114, k117, k126, k130, k650, k100000, k1000000, ii_add, ii_sub, ii_neg, ii_mul, ii_lt, ii_le, ii_eq, if_true, if_false, if_pos, if_neg, gI_0, gI_1, gI_2, gI_4, gI_7, gI_15, gI_59, gI_61, gI_62, gI_66, gI_68, gI_71, gI_72, gI_74, gR_0_0, gR_0_1, gR_0_3, gR_0_4, gR_0_5, gR_0_6, gR_0_7, gR_0_8, gR_1_0, gR_1_1, gR_1_2, gR_2_0, gR_4_0, gR_4_1, gR_15_0, gR_59_0, gR_61_0, gR_61_1, gR_61_2, gR_62_0, gR_62_1, gR_62_2, gR_66_0, gR_66_1, gR_68_0, gR_68_1, gR_71_0, gR_72_0, gR_74_0, gR_74_1, gR_74_3, gR_74_5, gR_74_7, gR_74_8, gR_74_9, gR_74_15, ld_3, ld_5, ld_6, ld_60, ld_63, ld_64, ld_65, ld_67, ld_69, ld_70, ld_73, ld_75, ld_76, ld_77, ld_78, ld_79, ld_80, ld_82, st_3, st_5, st_6, st_60, st_63, st_64, st_65, st_67, st_69, st_70, st_73, st_75, st_76, st_77, st_78, st_79, st_80, st_82, aL_3, aL_5, aL_6, aL_60, aL_63, aL_64, aL_65, aL_67, aL_69, aL_70, aL_73, aL_75, aL_76, aL_77, aL_78, aL_79, aL_80, aL_82, pI_0, pI_1, pI_2, pI_4, pI_7, pI_15, pI_59, pI_61, pI_62, pI_66, pI_68, pI_71, pI_72, pI_74, ld_81, ld_16, aL_16, n, x, e]
  · simp (disch := omega) only [u2_off]
    rw [nx_F.1 82 (by omega)]
theorem rp_264y (hB : BF μ.1 b Y) (hY : YB b Y) {i r : Int} (hw : WS μ.1 (-1) i) (h0 : 0 ≤ i) (h1 : i ≤ 80) (hm : μ.1 74 16 = ii r) (hr0 : 0 ≤ r) (hr : r ≤ 31) : ∃ m', lX11_readPart_264 oS μ 74 (ii (3 * r)) (ii 1) 74 = some (m', μ.2) ∧ WS m' (nm b Y 40 (i + 1)).1 (nm b Y 40 (i + 1)).2.1 ∧ QF r μ.1 m' ∧ m' 74 16 = ii (r + 1) ∧ m' 82 (3 * r).toNat = μ.1 82 (3 * r).toNat ∧ m' 82 (3 * r + 1).toNat = μ.1 82 (3 * r + 1).toNat ∧ m' 82 (3 * r + 2).toNat = ii (nm b Y 40 (i + 1)).2.2 := by
  have n := need_1 hw h0 (by omega)
  obtain ⟨m1, j1, j2, j3⟩ := rnum_at (μ := (nx μ.1 (-1) (i + 1), μ.2)) (lim := 40) (BF_fr nx_F hB) hY nx_W (by omega) (by omega) (by omega) (by omega)
  have hN : NF μ.1 m1 := nx_F.tr j3
  have hm1 : m1 74 16 = ii r := (hN.2 16 (by omega) (by omega)).trans hm
  have e := rp_281u (l := μ.2) (k := (3 * r + 2).toNat) (x := (ii (nm b Y 40 (i + 1)).2.2)) hm1
  refine ⟨u2 (u2 m1 82 (3 * r + 2).toNat (ii (nm b Y 40 (i + 1)).2.2)) 74 16 (ii (r + 1)), ?_, WS_16 (WS_82 j2), (hN.q.tr (QF_82 (by omega) hr0)).tr QF_16, u2_at rfl rfl, ?_, ?_, ?_⟩
  · unfold lX11_readPart_264
    simp (disch := omega) only [Option.bind_some, km1, k0, k1, k2, k3, k4, k5, k6, k7, k8, k9, k10, k11, k15, k16, k20, k32, k33, k39, k40, k43, k44, k45, k48, k49, k50, k51, k52, k57, k59, k60, k63, k64, k80, k97, k100, k101, k108, k112, k114, k117, k126, k130, k650, k100000, k1000000, ii_add, ii_sub, ii_neg, ii_mul, ii_lt, ii_le, ii_eq, if_true, if_false, if_pos, if_neg, gI_0, gI_1, gI_2, gI_4, gI_7, gI_15, gI_59, gI_61, gI_62, gI_66, gI_68, gI_71, gI_72, gI_74, gR_0_0, gR_0_1, gR_0_3, gR_0_4, gR_0_5, gR_0_6, gR_0_7, gR_0_8, gR_1_0, gR_1_1, gR_1_2, gR_2_0, gR_4_0, gR_4_1, gR_15_0, gR_59_0, gR_61_0, gR_61_1, gR_61_2, gR_62_0, gR_62_1, gR_62_2, gR_66_0, gR_66_1, gR_68_0, gR_68_1, gR_71_0, gR_72_0, gR_74_0, gR_74_1, gR_74_3, gR_74_5, gR_74_7, gR_74_8, gR_74_9, gR_74_15, ld_3, ld_5, ld_6, ld_60, ld_63, ld_64, ld_65, ld_67, ld_69, ld_70, ld_73, ld_75, ld_76, ld_77, ld_78, ld_79, ld_80, ld_82, st_3, st_5, st_6, st_60, st_63, st_64, st_65, st_67, st_69, st_70, st_73, st_75, st_76, st_77, st_78, st_79, st_80, st_82, aL_3, aL_5, aL_6, aL_60, aL_63, aL_64, aL_65, aL_67, aL_69, aL_70, aL_73, aL_75, aL_76, aL_77, aL_78, aL_79, aL_80, aL_82, pI_0, pI_1, pI_2, pI_4, pI_7, pI_15, pI_59, pI_61, pI_62, pI_66, pI_68, pI_71, pI_72, pI_74, ld_81, ld_16, aL_16, n, j1, e]
  · simp (disch := omega) only [u2_off]
    rw [hN.1 82 (by omega)]
  · simp (disch := omega) only [u2_off]
    rw [hN.1 82 (by omega)]
  · simp (disch := omega) only [u2_off, u2_at]
