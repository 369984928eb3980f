/-! a part, whatever it is -/
variable {μ : mMm} {b : Int} {Y : Int → Int}
/-- where the part at i is wrong (or -1), where it ends, its first and second number -/
def ptS (b : Int) (Y : Int → Int) (i : Int) : Int × Int × Int × Int :=
  if sg b Y i = 43 then (if 97 ≤ sg b Y (i + 1) ∧ sg b Y (i + 1) ≤ 100 then (-1, lr b Y (b - (i + 2)).toNat (i + 2), i + 1, lr b Y (b - (i + 2)).toNat (i + 2) - (i + 1)) else (i + 1, i + 2, 0, 0))
  else if sg b Y i = 112 then ((if 48 ≤ sg b Y (i + 1) ∧ sg b Y (i + 1) ≤ 50 then -1 else i + 1), i + 2, sg b Y (i + 1) - 48, 0)
  else if sg b Y i = 108 then ((if 97 ≤ sg b Y (i + 1) ∧ sg b Y (i + 1) ≤ 100 then -1 else i + 1), i + 2, sg b Y (i + 1) - 97, 0)
  else if sg b Y i = 114 then prd b Y (i + 1)
  else ((if okS (sg b Y i) = 1 then -1 else i), i + 1, i + 1, 0)
/-- what is told of the part: its sign, its numbers -/
def TD (m : Nat → Nat → Int32) (r c x y : Int) : Prop := m 82 (3 * r).toNat = ii c ∧ (c = 43 ∨ c = 112 ∨ c = 108 ∨ c = 114 → m 82 (3 * r + 1).toNat = ii x) ∧ (c = 43 ∨ c = 114 → m 82 (3 * r + 2).toNat = ii y)
theorem lr_b (b : Int) (Y : Int → Int) : ∀ (f : Nat) (i : Int), b - i = f → i ≤ lr b Y f i ∧ lr b Y f i ≤ b := by
  intro f
  induction f with
  | zero =>
    intro i h
    unfold lr
    omega
  | succ f ih =>
    intro i h
    push_cast at h
    unfold lr
    have r := ih (i + 1) (by omega)
    by_cases hc : 97 ≤ sg b Y i ∧ sg b Y i ≤ 100
    · rw [if_pos hc]
      omega
    · rw [if_neg hc]
      omega
theorem mp_c {m : Nat → Nat → Int32} {r w i c : Int} (hr : 0 ≤ r) : mp m r w i c 82 (3 * r).toNat = ii c := by
  unfold mp
  simp (disch := omega) only [u2_off, u2_at]
theorem mp_i {m : Nat → Nat → Int32} {r w i c : Int} : mp m r w i c 82 (3 * r + 1).toNat = ii (i + 1) := by
  unfold mp
  simp (disch := omega) only [u2_at]
theorem rpart_plus (hB : BF μ.1 b Y) (hY : YB b Y) {i r : Int} (hw : WS μ.1 (-1) i) (h0 : 0 ≤ i) (h1 : i ≤ 60) (hm : μ.1 74 16 = ii r) (hr0 : 0 ≤ r) (hr : r ≤ 31) (h43 : sg b Y i = 43) : ∃ m', fX11_readPart oS μ 74 = some (m', μ.2) ∧ WS m' (ptS b Y i).1 (ptS b Y i).2.1 ∧ QF r μ.1 m' ∧ m' 74 16 = ii (r + 1) ∧ ((ptS b Y i).1 = -1 → TD m' r 43 (ptS b Y i).2.2.1 (ptS b Y i).2.2.2) := by
  have g := hY.1
  have hQ := mp_F (m := μ.1) (w := -1) (i := i) (c := 43) hr0
  have hm1 : mp μ.1 r (-1) i 43 74 16 = ii r := by
    unfold mp
    simp (disch := omega) only [u2_off]
    exact (nx_F.2 16 (by omega) (by omega)).trans hm
  rw [rp_plus0 hB hY hw h0 h1 hm hr0 hr h43]
  unfold ptS
  rw [if_pos h43]
  by_cases c1 : 97 ≤ sg b Y (i + 1) ∧ sg b Y (i + 1) ≤ 100
  · rw [if_pos c1, if_pos c1]
    have hib : i + 1 < b := by
      unfold sg at c1
      by_cases hh : i + 1 < b
      · exact hh
      · rw [if_neg hh] at c1
        omega
    have lb := lr_b b Y (b - (i + 2)).toNat (i + 2) (by omega)
    obtain ⟨m1, j1, j2, j3⟩ := letters_loop (μ := (nx (mp μ.1 r (-1) i 43) (-1) (i + 2), μ.2)) (x := 3 * r) (c := 43) (k := fun μ => lX11_readPart_132 oS μ 74 (ii (3 * r)) (ii 43)) (fun _ => rfl) hY (b - (i + 2)).toNat FU (i + 2) (by omega) (by have := hFU; omega) (by omega) (BF_fr nx_F (BF_q hQ hB)) nx_W
    have hN : NF (mp μ.1 r (-1) i 43) m1 := nx_F.tr j3
    have hm2 : m1 74 16 = ii r := (hN.2 16 (by omega) (by omega)).trans hm1
    have e1 : m1 82 (3 * r + 1).toNat = ii (i + 1) := by
      rw [hN.1 82 (by omega)]
      exact mp_i
    have e0 : m1 82 (3 * r).toNat = ii 43 := by
      rw [hN.1 82 (by omega)]
      exact mp_c hr0
    have f := rp_132 (μ := (m1, μ.2)) j2 (by omega) (by omega) (show 0 ≤ i + 1 by omega) (by omega) hm2 hr0 hr e1
    refine ⟨_, j1.trans f, WS_16 (WS_82 j2), ((hQ.tr hN.q).tr (QF_82 (by omega) hr0)).tr QF_16, u2_at rfl rfl, fun _ => ⟨?_, fun _ => ?_, fun _ => ?_⟩⟩
    · simp (disch := omega) only [u2_off]
      exact e0
    · simp (disch := omega) only [u2_off]
      exact e1
    · simp (disch := omega) only [u2_off, u2_at]
  · rw [if_neg c1, if_neg c1]
    obtain ⟨n, hn⟩ : ∃ k, FU = k + 1 := ⟨4999, rfl⟩
    have hW : WS (nx (mp μ.1 r (-1) i 43) (i + 1) (i + 2)) (i + 1) (i + 2) := nx_W
    have w := hW.1
    have hm2 : nx (mp μ.1 r (-1) i 43) (i + 1) (i + 2) 74 16 = ii r := (nx_F.2 16 (by omega) (by omega)).trans hm1
    have e1 : nx (mp μ.1 r (-1) i 43) (i + 1) (i + 2) 82 (3 * r + 1).toNat = ii (i + 1) := by
      rw [nx_F.1 82 (by omega)]
      exact mp_i
    have f := rp_132 (μ := (nx (mp μ.1 r (-1) i 43) (i + 1) (i + 2), μ.2)) hW (by omega) (by omega) (show 0 ≤ i + 1 by omega) (by omega) hm2 hr0 hr e1
    refine ⟨u2 (u2 (nx (mp μ.1 r (-1) i 43) (i + 1) (i + 2)) 82 (3 * r + 2).toNat (ii (i + 2 - (i + 1)))) 74 16 (ii (r + 1)), ?_, WS_16 (WS_82 hW), ((hQ.tr nx_F.q).tr (QF_82 (by omega) hr0)).tr QF_16, u2_at rfl rfl, fun h => ?_⟩
    · rw [hn, lX11_readPart_103]
      generalize lX11_readPart_103 oS n = K
      generalize lX11_readPart_132 oS = G at f ⊢
      simp (disch := omega) only [Option.bind_some, km1, k0, k1, k2, k3, k4, k5, k6, k7, k8, k9, k10, k11, k15, k16, k20, k32, k33, k39, k40, k43, k44, k45, k48, k49, k50, k51, k52, k57, k59, k60, k63, k64, k80, k97, k100, k101, k108, k112, k114, k117, k126, k130, k650, k100000, k1000000, ii_add, ii_sub, ii_neg, ii_mul, ii_lt, ii_le, ii_eq, if_true, if_false, if_pos, if_neg, gI_0, gI_1, gI_2, gI_4, gI_7, gI_15, gI_59, gI_61, gI_62, gI_66, gI_68, gI_71, gI_72, gI_74, gR_0_0, gR_0_1, gR_0_3, gR_0_4, gR_0_5, gR_0_6, gR_0_7, gR_0_8, gR_1_0, gR_1_1, gR_1_2, gR_2_0, gR_4_0, gR_4_1, gR_15_0, gR_59_0, gR_61_0, gR_61_1, gR_61_2, gR_62_0, gR_62_1, gR_62_2, gR_66_0, gR_66_1, gR_68_0, gR_68_1, gR_71_0, gR_72_0, gR_74_0, gR_74_1, gR_74_3, gR_74_5, gR_74_7, gR_74_8, gR_74_9, gR_74_15, ld_3, ld_5, ld_6, ld_60, ld_63, ld_64, ld_65, ld_67, ld_69, ld_70, ld_73, ld_75, ld_76, ld_77, ld_78, ld_79, ld_80, ld_82, st_3, st_5, st_6, st_60, st_63, st_64, st_65, st_67, st_69, st_70, st_73, st_75, st_76, st_77, st_78, st_79, st_80, st_82, aL_3, aL_5, aL_6, aL_60, aL_63, aL_64, aL_65, aL_67, aL_69, aL_70, aL_73, aL_75, aL_76, aL_77, aL_78, aL_79, aL_80, aL_82, pI_0, pI_1, pI_2, pI_4, pI_7, pI_15, pI_59, pI_61, pI_62, pI_66, pI_68, pI_71, pI_72, pI_74, ld_81, ld_16, aL_16, w]
      exact f
    · have h : i + 1 = -1 := h
      omega
