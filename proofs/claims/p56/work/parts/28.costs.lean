/-! the least costs from the end -/
def upI (B : Int → Int) (k x : Int) : Int → Int := fun j => if j = k then x else B j
def iGo (B : Int → Int) (rp p m : Int) : Nat → Int → Int → Int
  | 0, _, b => b
  | f + 1, n, b => if m < n then b else iGo B rp p m f (n + 1) (min b (rp + B (p + n)))
def cGo (Lg : Int → Int) (lp rp s : Int) : Nat → Int → (Int → Int) → (Int → Int)
  | 0, _, B => B
  | f + 1, p, B => if p < 0 then B else cGo Lg lp rp s f (p - 1) (upI B p (iGo B rp p (Lg p) 10 s (lp + B (p + 1))))
def cst (v : Int → Int) (w : Int) : Int → Int := cGo (fun p => lng v p w) (v 4) (v 5) (v 2) 41 (v 0 - 1) (fun _ => 0)
theorem upI_s (B : Int → Int) (k x : Int) : upI B k x k = x := if_pos rfl
theorem upI_n {B : Int → Int} {k x j : Int} (h : j ≠ k) : upI B k x j = B j := if_neg h
theorem iGo_b {B : Int → Int} {rp p m : Int} (hrp : 0 ≤ rp) : ∀ (f : Nat) (n b : Int), (∀ k, n ≤ k → k ≤ m → 0 ≤ B (p + k)) → 0 ≤ b → 0 ≤ iGo B rp p m f n b ∧ iGo B rp p m f n b ≤ b
  | 0, n, b, _, h => ⟨h, Int.le_refl _⟩
  | f + 1, n, b, hB, h => by
    unfold iGo
    split
    · exact ⟨h, Int.le_refl _⟩
    · have h1 := hB n (Int.le_refl _) (by omega)
      obtain ⟨g1, g2⟩ := iGo_b hrp f (n + 1) (min b (rp + B (p + n))) (fun k h2 h3 => hB k (by omega) h3) (by omega)
      exact ⟨g1, by omega⟩
def CB (B : Int → Int) (p c : Int) : Prop := ∀ k, p < k → k ≤ c → 0 ≤ B k ∧ B k ≤ 9 * (c - k)
theorem CB_st {B : Int → Int} {p c rp lp m s : Int} (h : CB B p c) (hp : p < c) (h0 : 0 ≤ rp) (h1 : 0 ≤ lp) (h2 : lp ≤ 9) (hs : 1 ≤ s) (hm : p + m ≤ c) : CB (upI B p (iGo B rp p m 10 s (lp + B (p + 1)))) (p - 1) c := by
  intro k hk1 hk2
  have hb := h (p + 1) (by omega) (by omega)
  by_cases hk : k = p
  · subst hk
    rw [upI_s]
    obtain ⟨g1, g2⟩ := iGo_b (B := B) (p := k) (m := m) h0 10 s (lp + B (k + 1)) (fun j hj1 hj2 => (h (k + j) (by omega) (by omega)).1) (by omega)
    exact ⟨g1, by omega⟩
  · rw [upI_n hk]
    exact h k (by omega) hk2
theorem cGo_b {Lg : Int → Int} {lp rp s c : Int} (h0 : 0 ≤ rp) (h1 : 0 ≤ lp) (h2 : lp ≤ 9) (hs : 1 ≤ s) (hL : ∀ p, 0 ≤ p → p ≤ c → p + Lg p ≤ c) : ∀ (f : Nat) (p : Int) (B : Int → Int), CB B p c → p < c → -1 ≤ p → p < f → CB (cGo Lg lp rp s f p B) (-1) c
  | 0, p, B, h, hp, hp1, hf => by
    have : p = -1 := by push_cast at hf; omega
    subst this
    exact h
  | f + 1, p, B, h, hp, hp1, hf => by
    unfold cGo
    split
    · have : p = -1 := by omega
      subst this
      exact h
    · exact cGo_b h0 h1 h2 hs hL f (p - 1) _ (CB_st h hp h0 h1 h2 hs (hL p (by omega) (by omega))) (by omega) (by omega) (by push_cast at hf; omega)
theorem CB_0 {c : Int} : CB (fun _ => 0) (c - 1) c := fun k h1 h2 => ⟨Int.le_refl _, by show (0 : Int) ≤ 9 * (c - k); omega⟩
theorem cst_b {v : Int → Int} (hW : WF v) (w : Int) {k : Int} (h0 : 0 ≤ k) (h1 : k ≤ v 0) : 0 ≤ cst v w k ∧ cst v w k ≤ 360 := by
  have g0 := wf_0 hW
  have g4 := wf_4 hW
  have g5 := wf_5 hW
  have g2 := wf_2 hW
  have := cGo_b (Lg := fun p => lng v p w) (lp := v 4) (rp := v 5) (s := v 2) (c := v 0) (by omega) (by omega) (by omega) (by omega) (fun p hp0 hp1 => lng_e hW hp0 hp1) 41 (v 0 - 1) (fun _ => 0) CB_0 (by omega) (by omega) (by omega) k (by omega) h1
  unfold cst
  omega
theorem setCost_at {μ : mMm} {p : Int} {x : Int32} (h0 : 0 ≤ p) (h1 : p < 41) : fX4_setCost oS μ 66 (ii p) x = some (u2 μ.1 67 p.toNat x, μ.2) := by
  unfold fX4_setCost bX4_setCost
  simp (disch := omega) only [Option.bind_some, km1, k0, k1, k2, k3, k4, k5, k6, k7, k8, k9, k10, k11, k15, k16, k20, k32, k33, k39, k40, k43, k44, k45, k48, k49, k50, k51, k52, k57, k59, k60, k63, k64, k80, k97, k100, k101, k108, k112, k114, k117, k126, k130, k650, k100000, k1000000, ii_add, ii_sub, ii_neg, ii_mul, ii_lt, ii_le, ii_eq, if_true, if_false, if_pos, if_neg, gI_0, gI_1, gI_2, gI_4, gI_7, gI_15, gI_59, gI_61, gI_62, gI_66, gI_68, gI_71, gI_72, gR_0_0, gR_0_1, gR_0_3, gR_0_4, gR_0_5, gR_0_6, gR_0_7, gR_0_8, gR_1_0, gR_1_1, gR_1_2, gR_2_0, gR_4_0, gR_4_1, gR_15_0, gR_59_0, gR_61_0, gR_61_1, gR_61_2, gR_62_0, gR_62_1, gR_62_2, gR_66_0, gR_66_1, gR_68_0, gR_68_1, gR_71_0, gR_72_0, ld_3, ld_5, ld_6, ld_60, ld_63, ld_64, ld_65, ld_67, ld_69, ld_70, ld_73, st_3, st_5, st_6, st_60, st_63, st_64, st_65, st_67, st_69, st_70, st_73, aL_3, aL_5, aL_6, aL_60, aL_63, aL_64, aL_65, aL_67, aL_69, aL_70, aL_73, pI_0, pI_1, pI_2, pI_4, pI_7, pI_15, pI_59, pI_61, pI_62, pI_66, pI_68, pI_71, pI_72, ld_16, aL_16, if_pos o66]
theorem costAt_at {μ : mMm} {p : Int} (h0 : 0 ≤ p) (h1 : p < 41) : fX4_costAt oS μ 66 (ii p) = some (μ.1 67 p.toNat) := by
  unfold fX4_costAt bX4_costAt
  simp (disch := omega) only [Option.bind_some, km1, k0, k1, k2, k3, k4, k5, k6, k7, k8, k9, k10, k11, k15, k16, k20, k32, k33, k39, k40, k43, k44, k45, k48, k49, k50, k51, k52, k57, k59, k60, k63, k64, k80, k97, k100, k101, k108, k112, k114, k117, k126, k130, k650, k100000, k1000000, ii_add, ii_sub, ii_neg, ii_mul, ii_lt, ii_le, ii_eq, if_true, if_false, if_pos, if_neg, gI_0, gI_1, gI_2, gI_4, gI_7, gI_15, gI_59, gI_61, gI_62, gI_66, gI_68, gI_71, gI_72, gR_0_0, gR_0_1, gR_0_3, gR_0_4, gR_0_5, gR_0_6, gR_0_7, gR_0_8, gR_1_0, gR_1_1, gR_1_2, gR_2_0, gR_4_0, gR_4_1, gR_15_0, gR_59_0, gR_61_0, gR_61_1, gR_61_2, gR_62_0, gR_62_1, gR_62_2, gR_66_0, gR_66_1, gR_68_0, gR_68_1, gR_71_0, gR_72_0, ld_3, ld_5, ld_6, ld_60, ld_63, ld_64, ld_65, ld_67, ld_69, ld_70, ld_73, st_3, st_5, st_6, st_60, st_63, st_64, st_65, st_67, st_69, st_70, st_73, aL_3, aL_5, aL_6, aL_60, aL_63, aL_64, aL_65, aL_67, aL_69, aL_70, aL_73, pI_0, pI_1, pI_2, pI_4, pI_7, pI_15, pI_59, pI_61, pI_62, pI_66, pI_68, pI_71, pI_72, ld_16, aL_16, if_pos o66]
theorem fromEnd_in {v : Int → Int} (hW : WF v) {B : Int → Int} {μ : mMm} {w p m : Int} {k28 : mMm → Nat → Int32 → Int32 → Option (Int32 × mMm)} (hR : RT μ.1 v) (hp0 : 0 ≤ p) (hp : p < v 0) (hm : p + m ≤ v 0) (hm9 : m ≤ 9) (hm0 : 0 ≤ m) (hB : ∀ k, p < k → k ≤ v 0 → μ.1 67 k.toNat = ii (B k)) (hC : CB B p (v 0)) : ∀ (f n : Nat) (l b : Int), m + 1 - l ≤ f → f < n → 1 ≤ l → l ≤ 10 → 0 ≤ b → b ≤ 400 → lX4_leastFromEnd_74 k28 oS n μ 66 (ii w) (ii p) (ii b) (ii m) (ii l) = k28 (u2 μ.1 67 p.toNat (ii (iGo B (v 5) p m f l b)), μ.2) 66 (ii w) (ii (p + -1)) := by
  have g0 := wf_0 hW
  have g5 := wf_5 hW
  have e5 := rs_rp hR
  intro f
  induction f with
  | zero =>
    intro n l b h1 h2 h3 h4 h5 h6
    obtain ⟨n, rfl⟩ : ∃ k, n = k + 1 := ⟨n - 1, by omega⟩
    simp (disch := omega) only [Option.bind_some, km1, k0, k1, k2, k3, k4, k5, k6, k7, k8, k9, k10, k11, k15, k16, k20, k32, k33, k39, k40, k43, k44, k45, k48, k49, k50, k51, k52, k57, k59, k60, k63, k64, k80, k97, k100, k101, k108, k112, k114, k117, k126, k130, k650, k100000, k1000000, ii_add, ii_sub, ii_neg, ii_mul, ii_lt, ii_le, ii_eq, if_true, if_false, if_pos, if_neg, gI_0, gI_1, gI_2, gI_4, gI_7, gI_15, gI_59, gI_61, gI_62, gI_66, gI_68, gI_71, gI_72, gR_0_0, gR_0_1, gR_0_3, gR_0_4, gR_0_5, gR_0_6, gR_0_7, gR_0_8, gR_1_0, gR_1_1, gR_1_2, gR_2_0, gR_4_0, gR_4_1, gR_15_0, gR_59_0, gR_61_0, gR_61_1, gR_61_2, gR_62_0, gR_62_1, gR_62_2, gR_66_0, gR_66_1, gR_68_0, gR_68_1, gR_71_0, gR_72_0, ld_3, ld_5, ld_6, ld_60, ld_63, ld_64, ld_65, ld_67, ld_69, ld_70, ld_73, st_3, st_5, st_6, st_60, st_63, st_64, st_65, st_67, st_69, st_70, st_73, aL_3, aL_5, aL_6, aL_60, aL_63, aL_64, aL_65, aL_67, aL_69, aL_70, aL_73, pI_0, pI_1, pI_2, pI_4, pI_7, pI_15, pI_59, pI_61, pI_62, pI_66, pI_68, pI_71, pI_72, ld_16, aL_16, lX4_leastFromEnd_74, setCost_at, iGo]
  | succ f ih =>
    intro n l b h1 h2 h3 h4 h5 h6
    obtain ⟨n, rfl⟩ : ∃ k, n = k + 1 := ⟨n - 1, by omega⟩
    unfold iGo
    by_cases hl : m < l
    · rw [if_pos hl]
      simp (disch := omega) only [Option.bind_some, km1, k0, k1, k2, k3, k4, k5, k6, k7, k8, k9, k10, k11, k15, k16, k20, k32, k33, k39, k40, k43, k44, k45, k48, k49, k50, k51, k52, k57, k59, k60, k63, k64, k80, k97, k100, k101, k108, k112, k114, k117, k126, k130, k650, k100000, k1000000, ii_add, ii_sub, ii_neg, ii_mul, ii_lt, ii_le, ii_eq, if_true, if_false, if_pos, if_neg, gI_0, gI_1, gI_2, gI_4, gI_7, gI_15, gI_59, gI_61, gI_62, gI_66, gI_68, gI_71, gI_72, gR_0_0, gR_0_1, gR_0_3, gR_0_4, gR_0_5, gR_0_6, gR_0_7, gR_0_8, gR_1_0, gR_1_1, gR_1_2, gR_2_0, gR_4_0, gR_4_1, gR_15_0, gR_59_0, gR_61_0, gR_61_1, gR_61_2, gR_62_0, gR_62_1, gR_62_2, gR_66_0, gR_66_1, gR_68_0, gR_68_1, gR_71_0, gR_72_0, ld_3, ld_5, ld_6, ld_60, ld_63, ld_64, ld_65, ld_67, ld_69, ld_70, ld_73, st_3, st_5, st_6, st_60, st_63, st_64, st_65, st_67, st_69, st_70, st_73, aL_3, aL_5, aL_6, aL_60, aL_63, aL_64, aL_65, aL_67, aL_69, aL_70, aL_73, pI_0, pI_1, pI_2, pI_4, pI_7, pI_15, pI_59, pI_61, pI_62, pI_66, pI_68, pI_71, pI_72, ld_16, aL_16, lX4_leastFromEnd_74, setCost_at]
    · rw [if_neg hl]
      have c1 := hB (p + l) (by omega) (by omega)
      have c2 := hC (p + l) (by omega) (by omega)
      have hI := ih n (l + 1) (min b (v 5 + B (p + l))) (by push_cast at h1; omega) (by omega) (by omega) (by omega) (by omega) (by omega)
      simp (disch := omega) only [Option.bind_some, km1, k0, k1, k2, k3, k4, k5, k6, k7, k8, k9, k10, k11, k15, k16, k20, k32, k33, k39, k40, k43, k44, k45, k48, k49, k50, k51, k52, k57, k59, k60, k63, k64, k80, k97, k100, k101, k108, k112, k114, k117, k126, k130, k650, k100000, k1000000, ii_add, ii_sub, ii_neg, ii_mul, ii_lt, ii_le, ii_eq, if_true, if_false, if_pos, if_neg, gI_0, gI_1, gI_2, gI_4, gI_7, gI_15, gI_59, gI_61, gI_62, gI_66, gI_68, gI_71, gI_72, gR_0_0, gR_0_1, gR_0_3, gR_0_4, gR_0_5, gR_0_6, gR_0_7, gR_0_8, gR_1_0, gR_1_1, gR_1_2, gR_2_0, gR_4_0, gR_4_1, gR_15_0, gR_59_0, gR_61_0, gR_61_1, gR_61_2, gR_62_0, gR_62_1, gR_62_2, gR_66_0, gR_66_1, gR_68_0, gR_68_1, gR_71_0, gR_72_0, ld_3, ld_5, ld_6, ld_60, ld_63, ld_64, ld_65, ld_67, ld_69, ld_70, ld_73, st_3, st_5, st_6, st_60, st_63, st_64, st_65, st_67, st_69, st_70, st_73, aL_3, aL_5, aL_6, aL_60, aL_63, aL_64, aL_65, aL_67, aL_69, aL_70, aL_73, pI_0, pI_1, pI_2, pI_4, pI_7, pI_15, pI_59, pI_61, pI_62, pI_66, pI_68, pI_71, pI_72, ld_16, aL_16, lX4_leastFromEnd_74, costAt_at, e5, c1, ii_min]
      exact hI
theorem fromEnd_loop {v : Int → Int} (hW : WF v) {w : Int} (hw0 : 1 ≤ w) (hw : w ≤ 32) : ∀ (f n : Nat) (p : Int) (B : Int → Int) (μ : mMm), p < f → f < n → -1 ≤ p → p < v 0 → RT μ.1 v → (∀ k, p < k → k ≤ v 0 → μ.1 67 k.toNat = ii (B k)) → CB B p (v 0) → ∃ m', lX4_leastFromEnd_28 oS n μ 66 (ii w) (ii p) = some (ii (cGo (fun p => lng v p w) (v 4) (v 5) (v 2) f p B 0), (m', μ.2)) ∧ (∀ a, a ≠ 67 → m' a = μ.1 a) ∧ ∀ k, 0 ≤ k → k ≤ v 0 → m' 67 k.toNat = ii (cGo (fun p => lng v p w) (v 4) (v 5) (v 2) f p B k) := by
  have g0 := wf_0 hW
  have g2 := wf_2 hW
  have g3 := wf_3 hW
  have g4 := wf_4 hW
  have g5 := wf_5 hW
  intro f
  induction f with
  | zero =>
    intro n p B μ h1 h2 h3 h4 hR hB hC
    obtain ⟨n, rfl⟩ : ∃ k, n = k + 1 := ⟨n - 1, by omega⟩
    have : p = -1 := by push_cast at h1; omega
    subst this
    refine ⟨μ.1, ?_, fun _ _ => rfl, fun k hk0 hk => hB k (by omega) hk⟩
    have c1 := hB 0 (by omega) (by omega)
    simp (disch := omega) only [Option.bind_some, km1, k0, k1, k2, k3, k4, k5, k6, k7, k8, k9, k10, k11, k15, k16, k20, k32, k33, k39, k40, k43, k44, k45, k48, k49, k50, k51, k52, k57, k59, k60, k63, k64, k80, k97, k100, k101, k108, k112, k114, k117, k126, k130, k650, k100000, k1000000, ii_add, ii_sub, ii_neg, ii_mul, ii_lt, ii_le, ii_eq, if_true, if_false, if_pos, if_neg, gI_0, gI_1, gI_2, gI_4, gI_7, gI_15, gI_59, gI_61, gI_62, gI_66, gI_68, gI_71, gI_72, gR_0_0, gR_0_1, gR_0_3, gR_0_4, gR_0_5, gR_0_6, gR_0_7, gR_0_8, gR_1_0, gR_1_1, gR_1_2, gR_2_0, gR_4_0, gR_4_1, gR_15_0, gR_59_0, gR_61_0, gR_61_1, gR_61_2, gR_62_0, gR_62_1, gR_62_2, gR_66_0, gR_66_1, gR_68_0, gR_68_1, gR_71_0, gR_72_0, ld_3, ld_5, ld_6, ld_60, ld_63, ld_64, ld_65, ld_67, ld_69, ld_70, ld_73, st_3, st_5, st_6, st_60, st_63, st_64, st_65, st_67, st_69, st_70, st_73, aL_3, aL_5, aL_6, aL_60, aL_63, aL_64, aL_65, aL_67, aL_69, aL_70, aL_73, pI_0, pI_1, pI_2, pI_4, pI_7, pI_15, pI_59, pI_61, pI_62, pI_66, pI_68, pI_71, pI_72, ld_16, aL_16, lX4_leastFromEnd_28, costAt_at, c1, cGo]
  | succ f ih =>
    intro n p B μ h1 h2 h3 h4 hR hB hC
    obtain ⟨n, rfl⟩ : ∃ k, n = k + 1 := ⟨n - 1, by omega⟩
    unfold cGo
    by_cases hp : p < 0
    · have : p = -1 := by omega
      subst this
      rw [if_pos hp]
      refine ⟨μ.1, ?_, fun _ _ => rfl, fun k hk0 hk => hB k (by omega) hk⟩
      have c1 := hB 0 (by omega) (by omega)
      simp (disch := omega) only [Option.bind_some, km1, k0, k1, k2, k3, k4, k5, k6, k7, k8, k9, k10, k11, k15, k16, k20, k32, k33, k39, k40, k43, k44, k45, k48, k49, k50, k51, k52, k57, k59, k60, k63, k64, k80, k97, k100, k101, k108, k112, k114, k117, k126, k130, k650, k100000, k1000000, ii_add, ii_sub, ii_neg, ii_mul, ii_lt, ii_le, ii_eq, if_true, if_false, if_pos, if_neg, gI_0, gI_1, gI_2, gI_4, gI_7, gI_15, gI_59, gI_61, gI_62, gI_66, gI_68, gI_71, gI_72, gR_0_0, gR_0_1, gR_0_3, gR_0_4, gR_0_5, gR_0_6, gR_0_7, gR_0_8, gR_1_0, gR_1_1, gR_1_2, gR_2_0, gR_4_0, gR_4_1, gR_15_0, gR_59_0, gR_61_0, gR_61_1, gR_61_2, gR_62_0, gR_62_1, gR_62_2, gR_66_0, gR_66_1, gR_68_0, gR_68_1, gR_71_0, gR_72_0, ld_3, ld_5, ld_6, ld_60, ld_63, ld_64, ld_65, ld_67, ld_69, ld_70, ld_73, st_3, st_5, st_6, st_60, st_63, st_64, st_65, st_67, st_69, st_70, st_73, aL_3, aL_5, aL_6, aL_60, aL_63, aL_64, aL_65, aL_67, aL_69, aL_70, aL_73, pI_0, pI_1, pI_2, pI_4, pI_7, pI_15, pI_59, pI_61, pI_62, pI_66, pI_68, pI_71, pI_72, ld_16, aL_16, lX4_leastFromEnd_28, costAt_at, c1]
    · rw [if_neg hp]
      have e4 := rs_lp hR
      have e2 := rs_s hR
      have hlng := lng_b hW (p := p) (w := w) (by omega)
      have hlE := lng_e hW (p := p) (w := w) (by omega) (by omega)
      have c1 := hB (p + 1) (by omega) (by omega)
      have c2 := hC (p + 1) (by omega) (by omega)
      have hlo := longest_at hR hW (p := p) (w := w) (by omega) (by omega) hw0 hw
      have hin := fromEnd_in (k28 := lX4_leastFromEnd_28 oS n) (w := w) hW hR (by omega) h4 hlE (by omega) hlng.1 hB hC 10 FU (v 2) (v 4 + B (p + 1)) (by omega) (by decide) (by omega) (by omega) (by omega) (by omega)
      obtain ⟨m', j1, j2, j3⟩ := ih n (p - 1) (upI B p (iGo B (v 5) p (lng v p w) 10 (v 2) (v 4 + B (p + 1)))) (u2 μ.1 67 p.toNat (ii (iGo B (v 5) p (lng v p w) 10 (v 2) (v 4 + B (p + 1)))), μ.2) (by push_cast at h1; omega) (by omega) (by omega) (by omega) (RT_fr (fun j hj => by simp (disch := omega) only [u2_offr]) hR) (fun k hk1 hk2 => by
        by_cases hk : k = p
        · subst hk
          rw [upI_s]
          simp (disch := omega) only [u2_at]
        · rw [upI_n hk]
          simp (disch := omega) only [u2_off]
          exact hB k (by omega) hk2) (CB_st hC h4 (by omega) (by omega) (by omega) (by omega) hlE)
      refine ⟨m', ?_, fun a ha => (j2 a ha).trans (by simp (disch := omega) only [u2_offr]), j3⟩
      rw [← j1]
      simp (disch := omega) only [Option.bind_some, km1, k0, k1, k2, k3, k4, k5, k6, k7, k8, k9, k10, k11, k15, k16, k20, k32, k33, k39, k40, k43, k44, k45, k48, k49, k50, k51, k52, k57, k59, k60, k63, k64, k80, k97, k100, k101, k108, k112, k114, k117, k126, k130, k650, k100000, k1000000, ii_add, ii_sub, ii_neg, ii_mul, ii_lt, ii_le, ii_eq, if_true, if_false, if_pos, if_neg, gI_0, gI_1, gI_2, gI_4, gI_7, gI_15, gI_59, gI_61, gI_62, gI_66, gI_68, gI_71, gI_72, gR_0_0, gR_0_1, gR_0_3, gR_0_4, gR_0_5, gR_0_6, gR_0_7, gR_0_8, gR_1_0, gR_1_1, gR_1_2, gR_2_0, gR_4_0, gR_4_1, gR_15_0, gR_59_0, gR_61_0, gR_61_1, gR_61_2, gR_62_0, gR_62_1, gR_62_2, gR_66_0, gR_66_1, gR_68_0, gR_68_1, gR_71_0, gR_72_0, ld_3, ld_5, ld_6, ld_60, ld_63, ld_64, ld_65, ld_67, ld_69, ld_70, ld_73, st_3, st_5, st_6, st_60, st_63, st_64, st_65, st_67, st_69, st_70, st_73, aL_3, aL_5, aL_6, aL_60, aL_63, aL_64, aL_65, aL_67, aL_69, aL_70, aL_73, pI_0, pI_1, pI_2, pI_4, pI_7, pI_15, pI_59, pI_61, pI_62, pI_66, pI_68, pI_71, pI_72, ld_16, aL_16, lX4_leastFromEnd_28, costAt_at, e4, e2, c1, hlo, hin]
      rfl
theorem fromEnd_at {μ : mMm} {v : Int → Int} (hR : RT μ.1 v) (hW : WF v) {w : Int} (hw0 : 1 ≤ w) (hw : w ≤ 32) : ∃ m', fX4_leastFromEnd oS μ 66 (ii w) = some (ii (cst v w 0), (m', μ.2)) ∧ (∀ a, a ≠ 67 → m' a = μ.1 a) ∧ ∀ k, 0 ≤ k → k ≤ v 0 → m' 67 k.toNat = ii (cst v w k) := by
  have g0 := wf_0 hW
  have e0 := rs_c hR
  have hR1 : RT (u2 μ.1 67 (v 0).toNat (ii 0)) v := RT_fr (fun j hj => by simp (disch := omega) only [u2_offr]) hR
  have e1 := rs_c hR1
  obtain ⟨m', j1, j2, j3⟩ := fromEnd_loop hW hw0 hw 41 FU (v 0 - 1) (fun _ => 0) (u2 μ.1 67 (v 0).toNat (ii 0), μ.2) (by omega) (by decide) (by omega) (by omega) hR1 (fun k h1 h2 => by
    have : k = v 0 := by omega
    subst this
    simp (disch := omega) only [u2_at]) CB_0
  refine ⟨m', ?_, fun a ha => (j2 a ha).trans (by simp (disch := omega) only [u2_offr]), j3⟩
  unfold fX4_leastFromEnd bX4_leastFromEnd
  simp (disch := omega) only [Option.bind_some, km1, k0, k1, k2, k3, k4, k5, k6, k7, k8, k9, k10, k11, k15, k16, k20, k32, k33, k39, k40, k43, k44, k45, k48, k49, k50, k51, k52, k57, k59, k60, k63, k64, k80, k97, k100, k101, k108, k112, k114, k117, k126, k130, k650, k100000, k1000000, ii_add, ii_sub, ii_neg, ii_mul, ii_lt, ii_le, ii_eq, if_true, if_false, if_pos, if_neg, gI_0, gI_1, gI_2, gI_4, gI_7, gI_15, gI_59, gI_61, gI_62, gI_66, gI_68, gI_71, gI_72, gR_0_0, gR_0_1, gR_0_3, gR_0_4, gR_0_5, gR_0_6, gR_0_7, gR_0_8, gR_1_0, gR_1_1, gR_1_2, gR_2_0, gR_4_0, gR_4_1, gR_15_0, gR_59_0, gR_61_0, gR_61_1, gR_61_2, gR_62_0, gR_62_1, gR_62_2, gR_66_0, gR_66_1, gR_68_0, gR_68_1, gR_71_0, gR_72_0, ld_3, ld_5, ld_6, ld_60, ld_63, ld_64, ld_65, ld_67, ld_69, ld_70, ld_73, st_3, st_5, st_6, st_60, st_63, st_64, st_65, st_67, st_69, st_70, st_73, aL_3, aL_5, aL_6, aL_60, aL_63, aL_64, aL_65, aL_67, aL_69, aL_70, aL_73, pI_0, pI_1, pI_2, pI_4, pI_7, pI_15, pI_59, pI_61, pI_62, pI_66, pI_68, pI_71, pI_72, ld_16, aL_16, if_pos o66, e0, setCost_at, e1]
  exact j1
