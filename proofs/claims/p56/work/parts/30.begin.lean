/-! the least costs from the beginning -/
def jGo (rp p m : Int) : Nat → Int → (Int → Int) → (Int → Int)
  | 0, _, B => B
  | f + 1, n, B => if m < n then B else jGo rp p m f (n + 1) (upI B (p + n) (min (B (p + n)) (B p + rp)))
def gGo (Lg : Int → Int) (lp rp s c : Int) : Nat → Int → (Int → Int) → (Int → Int)
  | 0, _, B => B
  | f + 1, p, B => if c ≤ p then B else gGo Lg lp rp s c f (p + 1) (jGo rp p (Lg p) 10 s (upI B (p + 1) (min (B (p + 1)) (B p + lp))))
def bG0 (X : Int) : Int → Int := fun k => if k = 0 then 0 else X
def fbA (v : Int → Int) (X : Int) : Int → Int := gGo (fun p => lng v p (v 1)) (v 4) (v 5) (v 2) (v 0) 41 0 (bG0 X)
def fbg (v : Int → Int) : Int := fbA v 100000 (v 0)
def BB (B : Int → Int) (c : Int) : Prop := ∀ k, 0 ≤ k → k ≤ c → 0 ≤ B k ∧ B k ≤ 1000000
def FI (B1 B2 : Int → Int) (p c X Y : Int) : Prop := ∀ k, 0 ≤ k → k ≤ c → (B1 k = B2 k ∧ 0 ≤ B1 k ∧ B1 k ≤ 20 * k) ∨ (p < k ∧ B1 k = X ∧ B2 k = Y)
theorem BB_up {B : Int → Int} {c k x : Int} (h : BB B c) (h0 : 0 ≤ k) (h1 : k ≤ c) (hx : 0 ≤ x) : BB (upI B k (min (B k) x)) c := by
  intro j h2 h3
  have h4 := h k h0 h1
  by_cases hj : j = k
  · subst hj
    rw [upI_s]
    omega
  · rw [upI_n hj]
    exact h j h2 h3
theorem FI_up {B1 B2 : Int → Int} {p c X Y k x : Int} (h : FI B1 B2 p c X Y) (h0 : 0 ≤ k) (h1 : k ≤ c) (hx : 0 ≤ x) (hx1 : x ≤ 20 * k) (hX : x ≤ X) (hY : x ≤ Y) : FI (upI B1 k (min (B1 k) x)) (upI B2 k (min (B2 k) x)) p c X Y ∧ ((upI B1 k (min (B1 k) x)) k = (upI B2 k (min (B2 k) x)) k ∧ 0 ≤ (upI B1 k (min (B1 k) x)) k ∧ (upI B1 k (min (B1 k) x)) k ≤ 20 * k) := by
  have key : (upI B1 k (min (B1 k) x)) k = (upI B2 k (min (B2 k) x)) k ∧ 0 ≤ (upI B1 k (min (B1 k) x)) k ∧ (upI B1 k (min (B1 k) x)) k ≤ 20 * k := by
    rw [upI_s, upI_s]
    rcases h k h0 h1 with g | g <;> omega
  refine ⟨fun j h2 h3 => ?_, key⟩
  by_cases hj : j = k
  · subst hj
    exact Or.inl key
  · rw [upI_n hj, upI_n hj]
    exact h j h2 h3
theorem jGo_FI {rp p m c X Y : Int} (hp : 0 ≤ p) (hm : p + m ≤ c) (hc : c ≤ 40) (hrp : 0 ≤ rp) (hrp2 : rp ≤ 20) (hX : 1000 ≤ X) (hY : 1000 ≤ Y) : ∀ (f : Nat) (n : Int) (B1 B2 : Int → Int), 1 ≤ n → FI B1 B2 (p + 1) c X Y → FI (jGo rp p m f n B1) (jGo rp p m f n B2) (p + 1) c X Y
  | 0, n, B1, B2, _, h => h
  | f + 1, n, B1, B2, hn, h => by
    unfold jGo
    by_cases hmn : m < n
    · rw [if_pos hmn, if_pos hmn]
      exact h
    · rw [if_neg hmn, if_neg hmn]
      rcases h p hp (by omega) with g | g
      · rw [← g.1]
        exact jGo_FI hp hm hc hrp hrp2 hX hY f (n + 1) _ _ (by omega) (FI_up h (by omega) (by omega) (by omega) (by omega) (by omega) (by omega)).1
      · omega
theorem gGo_FI {Lg : Int → Int} {lp rp s c X Y : Int} (hL : ∀ p, 0 ≤ p → p ≤ c → p + Lg p ≤ c) (hc : c ≤ 40) (hrp : 0 ≤ rp) (hrp2 : rp ≤ 20) (hlp : 0 ≤ lp) (hlp2 : lp ≤ 20) (hs : 1 ≤ s) (hX : 1000 ≤ X) (hY : 1000 ≤ Y) : ∀ (f : Nat) (p : Int) (B1 B2 : Int → Int), 0 ≤ p → p ≤ c → c - p ≤ f → FI B1 B2 p c X Y → FI (gGo Lg lp rp s c f p B1) (gGo Lg lp rp s c f p B2) c c X Y
  | 0, p, B1, B2, h0, h1, hf, h => by
    have : p = c := by push_cast at hf; omega
    subst this
    exact h
  | f + 1, p, B1, B2, h0, h1, hf, h => by
    unfold gGo
    by_cases hcp : c ≤ p
    · rw [if_pos hcp, if_pos hcp]
      have : p = c := by omega
      subst this
      exact h
    · rw [if_neg hcp, if_neg hcp]
      have g : B1 p = B2 p ∧ 0 ≤ B1 p ∧ B1 p ≤ 20 * p := by rcases h p h0 h1 with g | g <;> omega
      rw [← g.1]
      obtain ⟨k1, k2⟩ := FI_up (x := B1 p + lp) h (k := p + 1) (by omega) (by omega) (by omega) (by omega) (by omega) (by omega)
      refine gGo_FI hL hc hrp hrp2 hlp hlp2 hs hX hY f (p + 1) _ _ (by omega) (by omega) (by push_cast at hf; omega) (jGo_FI h0 (hL p h0 h1) hc hrp hrp2 hX hY 10 s _ _ hs (fun j hj0 hj1 => ?_))
      by_cases hj : j = p + 1
      · subst hj
        exact Or.inl k2
      · rcases k1 j hj0 hj1 with g3 | g3
        · exact Or.inl g3
        · exact Or.inr ⟨by omega, g3.2⟩
theorem fbA_eq {v : Int → Int} (hW : WF v) : fbA v 1000000 (v 0) = fbg v ∧ 0 ≤ fbg v ∧ fbg v ≤ 800 := by
  have g0 := wf_0 hW
  have g2 := wf_2 hW
  have g4 := wf_4 hW
  have g5 := wf_5 hW
  have h := gGo_FI (Lg := fun p => lng v p (v 1)) (lp := v 4) (rp := v 5) (s := v 2) (c := v 0) (X := 1000000) (Y := 100000) (fun p h0 h1 => lng_e hW h0 h1) (by omega) (by omega) (by omega) (by omega) (by omega) (by omega) (by omega) (by omega) 41 0 (bG0 1000000) (bG0 100000) (by omega) (by omega) (by omega) (fun k h0 h1 => by
    unfold bG0
    by_cases hk : k = 0
    · rw [if_pos hk, if_pos hk]; exact Or.inl ⟨rfl, by omega, by omega⟩
    · rw [if_neg hk, if_neg hk]; exact Or.inr ⟨by omega, rfl, rfl⟩) (v 0) (by omega) (Int.le_refl _)
  rcases h with ⟨h1, h2, h3⟩ | h
  · have h1 : fbA v 1000000 (v 0) = fbg v := h1
    have h2 : 0 ≤ fbA v 1000000 (v 0) := h2
    have h3 : fbA v 1000000 (v 0) ≤ 20 * v 0 := h3
    rw [h1] at h2 h3
    exact ⟨h1, h2, by omega⟩
  · omega
/-! the class -/
theorem lower_at {μ : mMm} {k c x : Int} (h0 : 0 ≤ k) (h1 : k < 41) (hc : μ.1 67 k.toNat = ii c) (h2 : 0 ≤ c) (h3 : c ≤ 1000000) (h4 : 0 ≤ x) (h5 : x ≤ 2000000) : fX4_lower oS μ 66 (ii k) (ii x) = some (u2 μ.1 67 k.toNat (ii (min c x)), μ.2) := by
  unfold fX4_lower bX4_lower
  simp (disch := omega) only [Option.bind_some, km1, k0, k1, k2, k3, k4, k5, k6, k7, k8, k9, k10, k11, k15, k16, k20, k32, k33, k39, k40, k43, k44, k45, k48, k49, k50, k51, k52, k57, k59, k60, k63, k64, k80, k97, k100, k101, k108, k112, k114, k117, k126, k130, k650, k100000, k1000000, ii_add, ii_sub, ii_neg, ii_mul, ii_lt, ii_le, ii_eq, if_true, if_false, if_pos, if_neg, gI_0, gI_1, gI_2, gI_4, gI_7, gI_15, gI_59, gI_61, gI_62, gI_66, gI_68, gI_71, gI_72, gR_0_0, gR_0_1, gR_0_3, gR_0_4, gR_0_5, gR_0_6, gR_0_7, gR_0_8, gR_1_0, gR_1_1, gR_1_2, gR_2_0, gR_4_0, gR_4_1, gR_15_0, gR_59_0, gR_61_0, gR_61_1, gR_61_2, gR_62_0, gR_62_1, gR_62_2, gR_66_0, gR_66_1, gR_68_0, gR_68_1, gR_71_0, gR_72_0, ld_3, ld_5, ld_6, ld_60, ld_63, ld_64, ld_65, ld_67, ld_69, ld_70, ld_73, st_3, st_5, st_6, st_60, st_63, st_64, st_65, st_67, st_69, st_70, st_73, aL_3, aL_5, aL_6, aL_60, aL_63, aL_64, aL_65, aL_67, aL_69, aL_70, aL_73, pI_0, pI_1, pI_2, pI_4, pI_7, pI_15, pI_59, pI_61, pI_62, pI_66, pI_68, pI_71, pI_72, ld_16, aL_16, if_pos o66, costAt_at, setCost_at, hc, ii_min]
def RowB (m : Nat → Nat → Int32) (q : Nat) (B : Int → Int) (c : Int) : Prop := ∀ k, 0 ≤ k → k ≤ c → m q k.toNat = ii (B k)
theorem RowB_up {m : Nat → Nat → Int32} {q : Nat} {B : Int → Int} {c k x : Int} (h : RowB m q B c) (h0 : 0 ≤ k) : RowB (u2 m q k.toNat (ii x)) q (upI B k x) c := by
  intro j h2 h3
  by_cases hj : j = k
  · subst hj
    rw [upI_s]
    simp (disch := omega) only [u2_at]
  · rw [upI_n hj]
    simp (disch := omega) only [u2_off]
    exact h j h2 h3
theorem begin_in {v : Int → Int} (hW : WF v) {p m : Int} {k35 : mMm → Nat → Int32 → Option (Int32 × mMm)} (hp0 : 0 ≤ p) (hp : p < v 0) (hm : p + m ≤ v 0) (hm9 : m ≤ 9) (hm0 : 0 ≤ m) : ∀ (f n : Nat) (l : Int) (B : Int → Int) (μ : mMm), RT μ.1 v → RowB μ.1 67 B (v 0) → BB B (v 0) → m + 1 - l ≤ f → f < n → 1 ≤ l → l ≤ 10 → ∃ m', lX4_leastFromBeginning_102 k35 oS n μ 66 (ii p) (ii m) (ii l) = k35 (m', μ.2) 66 (ii (p + 1)) ∧ (∀ a, a ≠ 67 → m' a = μ.1 a) ∧ RowB m' 67 (jGo (v 5) p m f l B) (v 0) ∧ BB (jGo (v 5) p m f l B) (v 0) := by
  have g0 := wf_0 hW
  have g5 := wf_5 hW
  intro f
  induction f with
  | zero =>
    intro n l B μ hR hB hC h1 h2 h3 h4
    obtain ⟨n, rfl⟩ : ∃ k, n = k + 1 := ⟨n - 1, by omega⟩
    refine ⟨μ.1, ?_, fun _ _ => rfl, hB, hC⟩
    simp (disch := omega) only [Option.bind_some, km1, k0, k1, k2, k3, k4, k5, k6, k7, k8, k9, k10, k11, k15, k16, k20, k32, k33, k39, k40, k43, k44, k45, k48, k49, k50, k51, k52, k57, k59, k60, k63, k64, k80, k97, k100, k101, k108, k112, k114, k117, k126, k130, k650, k100000, k1000000, ii_add, ii_sub, ii_neg, ii_mul, ii_lt, ii_le, ii_eq, if_true, if_false, if_pos, if_neg, gI_0, gI_1, gI_2, gI_4, gI_7, gI_15, gI_59, gI_61, gI_62, gI_66, gI_68, gI_71, gI_72, gR_0_0, gR_0_1, gR_0_3, gR_0_4, gR_0_5, gR_0_6, gR_0_7, gR_0_8, gR_1_0, gR_1_1, gR_1_2, gR_2_0, gR_4_0, gR_4_1, gR_15_0, gR_59_0, gR_61_0, gR_61_1, gR_61_2, gR_62_0, gR_62_1, gR_62_2, gR_66_0, gR_66_1, gR_68_0, gR_68_1, gR_71_0, gR_72_0, ld_3, ld_5, ld_6, ld_60, ld_63, ld_64, ld_65, ld_67, ld_69, ld_70, ld_73, st_3, st_5, st_6, st_60, st_63, st_64, st_65, st_67, st_69, st_70, st_73, aL_3, aL_5, aL_6, aL_60, aL_63, aL_64, aL_65, aL_67, aL_69, aL_70, aL_73, pI_0, pI_1, pI_2, pI_4, pI_7, pI_15, pI_59, pI_61, pI_62, pI_66, pI_68, pI_71, pI_72, ld_16, aL_16, lX4_leastFromBeginning_102]
  | succ f ih =>
    intro n l B μ hR hB hC h1 h2 h3 h4
    obtain ⟨n, rfl⟩ : ∃ k, n = k + 1 := ⟨n - 1, by omega⟩
    have e5 := rs_rp hR
    unfold jGo
    by_cases hl : m < l
    · rw [if_pos hl]
      refine ⟨μ.1, ?_, fun _ _ => rfl, hB, hC⟩
      simp (disch := omega) only [Option.bind_some, km1, k0, k1, k2, k3, k4, k5, k6, k7, k8, k9, k10, k11, k15, k16, k20, k32, k33, k39, k40, k43, k44, k45, k48, k49, k50, k51, k52, k57, k59, k60, k63, k64, k80, k97, k100, k101, k108, k112, k114, k117, k126, k130, k650, k100000, k1000000, ii_add, ii_sub, ii_neg, ii_mul, ii_lt, ii_le, ii_eq, if_true, if_false, if_pos, if_neg, gI_0, gI_1, gI_2, gI_4, gI_7, gI_15, gI_59, gI_61, gI_62, gI_66, gI_68, gI_71, gI_72, gR_0_0, gR_0_1, gR_0_3, gR_0_4, gR_0_5, gR_0_6, gR_0_7, gR_0_8, gR_1_0, gR_1_1, gR_1_2, gR_2_0, gR_4_0, gR_4_1, gR_15_0, gR_59_0, gR_61_0, gR_61_1, gR_61_2, gR_62_0, gR_62_1, gR_62_2, gR_66_0, gR_66_1, gR_68_0, gR_68_1, gR_71_0, gR_72_0, ld_3, ld_5, ld_6, ld_60, ld_63, ld_64, ld_65, ld_67, ld_69, ld_70, ld_73, st_3, st_5, st_6, st_60, st_63, st_64, st_65, st_67, st_69, st_70, st_73, aL_3, aL_5, aL_6, aL_60, aL_63, aL_64, aL_65, aL_67, aL_69, aL_70, aL_73, pI_0, pI_1, pI_2, pI_4, pI_7, pI_15, pI_59, pI_61, pI_62, pI_66, pI_68, pI_71, pI_72, ld_16, aL_16, lX4_leastFromBeginning_102]
    · rw [if_neg hl]
      have c1 := hB (p + l) (by omega) (by omega)
      have c2 := hC (p + l) (by omega) (by omega)
      have c3 := hB p (by omega) (by omega)
      have c4 := hC p (by omega) (by omega)
      have hlw := lower_at (μ := μ) (k := p + l) (x := B p + v 5) (by omega) (by omega) c1 (by omega) (by omega) (by omega) (by omega)
      obtain ⟨m', j1, j2, j3⟩ := ih n (l + 1) (upI B (p + l) (min (B (p + l)) (B p + v 5))) (u2 μ.1 67 (p + l).toNat (ii (min (B (p + l)) (B p + v 5))), μ.2) (RT_fr (fun j hj => by simp (disch := omega) only [u2_offr]) hR) (RowB_up hB (by omega)) (BB_up hC (by omega) (by omega) (by omega)) (by push_cast at h1; omega) (by omega) (by omega) (by omega)
      refine ⟨m', ?_, fun a ha => (j2 a ha).trans (by simp (disch := omega) only [u2_offr]), j3⟩
      rw [← j1]
      simp (disch := omega) only [Option.bind_some, km1, k0, k1, k2, k3, k4, k5, k6, k7, k8, k9, k10, k11, k15, k16, k20, k32, k33, k39, k40, k43, k44, k45, k48, k49, k50, k51, k52, k57, k59, k60, k63, k64, k80, k97, k100, k101, k108, k112, k114, k117, k126, k130, k650, k100000, k1000000, ii_add, ii_sub, ii_neg, ii_mul, ii_lt, ii_le, ii_eq, if_true, if_false, if_pos, if_neg, gI_0, gI_1, gI_2, gI_4, gI_7, gI_15, gI_59, gI_61, gI_62, gI_66, gI_68, gI_71, gI_72, gR_0_0, gR_0_1, gR_0_3, gR_0_4, gR_0_5, gR_0_6, gR_0_7, gR_0_8, gR_1_0, gR_1_1, gR_1_2, gR_2_0, gR_4_0, gR_4_1, gR_15_0, gR_59_0, gR_61_0, gR_61_1, gR_61_2, gR_62_0, gR_62_1, gR_62_2, gR_66_0, gR_66_1, gR_68_0, gR_68_1, gR_71_0, gR_72_0, ld_3, ld_5, ld_6, ld_60, ld_63, ld_64, ld_65, ld_67, ld_69, ld_70, ld_73, st_3, st_5, st_6, st_60, st_63, st_64, st_65, st_67, st_69, st_70, st_73, aL_3, aL_5, aL_6, aL_60, aL_63, aL_64, aL_65, aL_67, aL_69, aL_70, aL_73, pI_0, pI_1, pI_2, pI_4, pI_7, pI_15, pI_59, pI_61, pI_62, pI_66, pI_68, pI_71, pI_72, ld_16, aL_16, lX4_leastFromBeginning_102, costAt_at, e5, c3, hlw]
theorem begin_loop {v : Int → Int} (hW : WF v) : ∀ (f n : Nat) (p : Int) (B : Int → Int) (μ : mMm), v 0 - p ≤ f → f < n → 0 ≤ p → p ≤ v 0 → RT μ.1 v → RowB μ.1 67 B (v 0) → BB B (v 0) → ∃ m', lX4_leastFromBeginning_35 oS n μ 66 (ii p) = some (ii (gGo (fun p => lng v p (v 1)) (v 4) (v 5) (v 2) (v 0) f p B (v 0)), (m', μ.2)) ∧ (∀ a, a ≠ 67 → m' a = μ.1 a) := by
  have g0 := wf_0 hW
  have g1 := wf_1 hW
  have g2 := wf_2 hW
  have g3 := wf_3 hW
  have g4 := wf_4 hW
  have g5 := wf_5 hW
  intro f
  induction f with
  | zero =>
    intro n p B μ h1 h2 h3 h4 hR hB hC
    obtain ⟨n, rfl⟩ : ∃ k, n = k + 1 := ⟨n - 1, by omega⟩
    have e0 := rs_c hR
    have c1 := hB (v 0) (by omega) (by omega)
    refine ⟨μ.1, ?_, fun _ _ => rfl⟩
    simp (disch := omega) only [Option.bind_some, km1, k0, k1, k2, k3, k4, k5, k6, k7, k8, k9, k10, k11, k15, k16, k20, k32, k33, k39, k40, k43, k44, k45, k48, k49, k50, k51, k52, k57, k59, k60, k63, k64, k80, k97, k100, k101, k108, k112, k114, k117, k126, k130, k650, k100000, k1000000, ii_add, ii_sub, ii_neg, ii_mul, ii_lt, ii_le, ii_eq, if_true, if_false, if_pos, if_neg, gI_0, gI_1, gI_2, gI_4, gI_7, gI_15, gI_59, gI_61, gI_62, gI_66, gI_68, gI_71, gI_72, gR_0_0, gR_0_1, gR_0_3, gR_0_4, gR_0_5, gR_0_6, gR_0_7, gR_0_8, gR_1_0, gR_1_1, gR_1_2, gR_2_0, gR_4_0, gR_4_1, gR_15_0, gR_59_0, gR_61_0, gR_61_1, gR_61_2, gR_62_0, gR_62_1, gR_62_2, gR_66_0, gR_66_1, gR_68_0, gR_68_1, gR_71_0, gR_72_0, ld_3, ld_5, ld_6, ld_60, ld_63, ld_64, ld_65, ld_67, ld_69, ld_70, ld_73, st_3, st_5, st_6, st_60, st_63, st_64, st_65, st_67, st_69, st_70, st_73, aL_3, aL_5, aL_6, aL_60, aL_63, aL_64, aL_65, aL_67, aL_69, aL_70, aL_73, pI_0, pI_1, pI_2, pI_4, pI_7, pI_15, pI_59, pI_61, pI_62, pI_66, pI_68, pI_71, pI_72, ld_16, aL_16, lX4_leastFromBeginning_35, e0, costAt_at, c1, gGo]
  | succ f ih =>
    intro n p B μ h1 h2 h3 h4 hR hB hC
    obtain ⟨n, rfl⟩ : ∃ k, n = k + 1 := ⟨n - 1, by omega⟩
    have e0 := rs_c hR
    unfold gGo
    by_cases hp : v 0 ≤ p
    · rw [if_pos hp]
      have c1 := hB (v 0) (by omega) (by omega)
      refine ⟨μ.1, ?_, fun _ _ => rfl⟩
      simp (disch := omega) only [Option.bind_some, km1, k0, k1, k2, k3, k4, k5, k6, k7, k8, k9, k10, k11, k15, k16, k20, k32, k33, k39, k40, k43, k44, k45, k48, k49, k50, k51, k52, k57, k59, k60, k63, k64, k80, k97, k100, k101, k108, k112, k114, k117, k126, k130, k650, k100000, k1000000, ii_add, ii_sub, ii_neg, ii_mul, ii_lt, ii_le, ii_eq, if_true, if_false, if_pos, if_neg, gI_0, gI_1, gI_2, gI_4, gI_7, gI_15, gI_59, gI_61, gI_62, gI_66, gI_68, gI_71, gI_72, gR_0_0, gR_0_1, gR_0_3, gR_0_4, gR_0_5, gR_0_6, gR_0_7, gR_0_8, gR_1_0, gR_1_1, gR_1_2, gR_2_0, gR_4_0, gR_4_1, gR_15_0, gR_59_0, gR_61_0, gR_61_1, gR_61_2, gR_62_0, gR_62_1, gR_62_2, gR_66_0, gR_66_1, gR_68_0, gR_68_1, gR_71_0, gR_72_0, ld_3, ld_5, ld_6, ld_60, ld_63, ld_64, ld_65, ld_67, ld_69, ld_70, ld_73, st_3, st_5, st_6, st_60, st_63, st_64, st_65, st_67, st_69, st_70, st_73, aL_3, aL_5, aL_6, aL_60, aL_63, aL_64, aL_65, aL_67, aL_69, aL_70, aL_73, pI_0, pI_1, pI_2, pI_4, pI_7, pI_15, pI_59, pI_61, pI_62, pI_66, pI_68, pI_71, pI_72, ld_16, aL_16, lX4_leastFromBeginning_35, e0, costAt_at, c1]
    · rw [if_neg hp]
      have hlng := lng_b hW (p := p) (w := v 1) (by omega)
      have hlE := lng_e hW (p := p) (w := v 1) (by omega) (by omega)
      have e4 := rs_lp hR
      have c1 := hB (p + 1) (by omega) (by omega)
      have c2 := hC (p + 1) (by omega) (by omega)
      have c3 := hB p (by omega) (by omega)
      have c4 := hC p (by omega) (by omega)
      have hlw := lower_at (μ := μ) (k := p + 1) (x := B p + v 4) (by omega) (by omega) c1 (by omega) (by omega) (by omega) (by omega)
      have hR1 : RT (u2 μ.1 67 (p + 1).toNat (ii (min (B (p + 1)) (B p + v 4)))) v := RT_fr (fun j hj => by simp (disch := omega) only [u2_offr]) hR
      have e1 := rs_w hR1
      have e2 := rs_s hR1
      have hlo := longest_at (μ := (u2 μ.1 67 (p + 1).toNat (ii (min (B (p + 1)) (B p + v 4))), μ.2)) hR1 hW (p := p) (w := v 1) (by omega) (by omega) (by omega) (by omega)
      obtain ⟨m1, i1, i2, i3, i4⟩ := begin_in (k35 := lX4_leastFromBeginning_35 oS n) hW h3 (by omega) hlE (by omega) hlng.1 10 FU (v 2) (upI B (p + 1) (min (B (p + 1)) (B p + v 4))) (u2 μ.1 67 (p + 1).toNat (ii (min (B (p + 1)) (B p + v 4))), μ.2) hR1 (RowB_up hB (by omega)) (BB_up hC (by omega) (by omega) (by omega)) (by omega) (by decide) (by omega) (by omega)
      obtain ⟨m', j1, j2⟩ := ih n (p + 1) _ (m1, μ.2) (by push_cast at h1; omega) (by omega) (by omega) (by omega) (RT_fr (fun j hj => i2 _ (by omega)) hR1) i3 i4
      refine ⟨m', ?_, fun a ha => (j2 a ha).trans ((i2 a ha).trans (by simp (disch := omega) only [u2_offr]))⟩
      rw [← j1]
      simp (disch := omega) only [Option.bind_some, km1, k0, k1, k2, k3, k4, k5, k6, k7, k8, k9, k10, k11, k15, k16, k20, k32, k33, k39, k40, k43, k44, k45, k48, k49, k50, k51, k52, k57, k59, k60, k63, k64, k80, k97, k100, k101, k108, k112, k114, k117, k126, k130, k650, k100000, k1000000, ii_add, ii_sub, ii_neg, ii_mul, ii_lt, ii_le, ii_eq, if_true, if_false, if_pos, if_neg, gI_0, gI_1, gI_2, gI_4, gI_7, gI_15, gI_59, gI_61, gI_62, gI_66, gI_68, gI_71, gI_72, gR_0_0, gR_0_1, gR_0_3, gR_0_4, gR_0_5, gR_0_6, gR_0_7, gR_0_8, gR_1_0, gR_1_1, gR_1_2, gR_2_0, gR_4_0, gR_4_1, gR_15_0, gR_59_0, gR_61_0, gR_61_1, gR_61_2, gR_62_0, gR_62_1, gR_62_2, gR_66_0, gR_66_1, gR_68_0, gR_68_1, gR_71_0, gR_72_0, ld_3, ld_5, ld_6, ld_60, ld_63, ld_64, ld_65, ld_67, ld_69, ld_70, ld_73, st_3, st_5, st_6, st_60, st_63, st_64, st_65, st_67, st_69, st_70, st_73, aL_3, aL_5, aL_6, aL_60, aL_63, aL_64, aL_65, aL_67, aL_69, aL_70, aL_73, pI_0, pI_1, pI_2, pI_4, pI_7, pI_15, pI_59, pI_61, pI_62, pI_66, pI_68, pI_71, pI_72, ld_16, aL_16, lX4_leastFromBeginning_35, e0, costAt_at, e4, c3, hlw, e1, e2, hlo, i1]
theorem begin_init {v : Int → Int} (hW : WF v) : ∀ (f n : Nat) (p : Int) (μ : mMm), 41 - p ≤ f → f < n → 0 ≤ p → p ≤ 41 → (∀ k, 0 ≤ k → k < p → μ.1 67 k.toNat = ii (bG0 1000000 k)) → ∃ m', lX4_leastFromBeginning_2 oS n μ 66 (ii p) = lX4_leastFromBeginning_35 oS FU (m', μ.2) 66 (ii 0) ∧ (∀ a, a ≠ 67 → m' a = μ.1 a) ∧ ∀ k, 0 ≤ k → k < 41 → m' 67 k.toNat = ii (bG0 1000000 k) := by
  intro f
  induction f with
  | zero =>
    intro n p μ h1 h2 h3 h4 hB
    obtain ⟨n, rfl⟩ : ∃ k, n = k + 1 := ⟨n - 1, by omega⟩
    refine ⟨μ.1, ?_, fun _ _ => rfl, fun k h0 h1 => hB k h0 (by omega)⟩
    simp (disch := omega) only [Option.bind_some, km1, k0, k1, k2, k3, k4, k5, k6, k7, k8, k9, k10, k11, k15, k16, k20, k32, k33, k39, k40, k43, k44, k45, k48, k49, k50, k51, k52, k57, k59, k60, k63, k64, k80, k97, k100, k101, k108, k112, k114, k117, k126, k130, k650, k100000, k1000000, ii_add, ii_sub, ii_neg, ii_mul, ii_lt, ii_le, ii_eq, if_true, if_false, if_pos, if_neg, gI_0, gI_1, gI_2, gI_4, gI_7, gI_15, gI_59, gI_61, gI_62, gI_66, gI_68, gI_71, gI_72, gR_0_0, gR_0_1, gR_0_3, gR_0_4, gR_0_5, gR_0_6, gR_0_7, gR_0_8, gR_1_0, gR_1_1, gR_1_2, gR_2_0, gR_4_0, gR_4_1, gR_15_0, gR_59_0, gR_61_0, gR_61_1, gR_61_2, gR_62_0, gR_62_1, gR_62_2, gR_66_0, gR_66_1, gR_68_0, gR_68_1, gR_71_0, gR_72_0, ld_3, ld_5, ld_6, ld_60, ld_63, ld_64, ld_65, ld_67, ld_69, ld_70, ld_73, st_3, st_5, st_6, st_60, st_63, st_64, st_65, st_67, st_69, st_70, st_73, aL_3, aL_5, aL_6, aL_60, aL_63, aL_64, aL_65, aL_67, aL_69, aL_70, aL_73, pI_0, pI_1, pI_2, pI_4, pI_7, pI_15, pI_59, pI_61, pI_62, pI_66, pI_68, pI_71, pI_72, ld_16, aL_16, lX4_leastFromBeginning_2]
  | succ f ih =>
    intro n p μ h1 h2 h3 h4 hB
    obtain ⟨n, rfl⟩ : ∃ k, n = k + 1 := ⟨n - 1, by omega⟩
    by_cases hp : 41 ≤ p
    · refine ⟨μ.1, ?_, fun _ _ => rfl, fun k h0 h1 => hB k h0 (by omega)⟩
      simp (disch := omega) only [Option.bind_some, km1, k0, k1, k2, k3, k4, k5, k6, k7, k8, k9, k10, k11, k15, k16, k20, k32, k33, k39, k40, k43, k44, k45, k48, k49, k50, k51, k52, k57, k59, k60, k63, k64, k80, k97, k100, k101, k108, k112, k114, k117, k126, k130, k650, k100000, k1000000, ii_add, ii_sub, ii_neg, ii_mul, ii_lt, ii_le, ii_eq, if_true, if_false, if_pos, if_neg, gI_0, gI_1, gI_2, gI_4, gI_7, gI_15, gI_59, gI_61, gI_62, gI_66, gI_68, gI_71, gI_72, gR_0_0, gR_0_1, gR_0_3, gR_0_4, gR_0_5, gR_0_6, gR_0_7, gR_0_8, gR_1_0, gR_1_1, gR_1_2, gR_2_0, gR_4_0, gR_4_1, gR_15_0, gR_59_0, gR_61_0, gR_61_1, gR_61_2, gR_62_0, gR_62_1, gR_62_2, gR_66_0, gR_66_1, gR_68_0, gR_68_1, gR_71_0, gR_72_0, ld_3, ld_5, ld_6, ld_60, ld_63, ld_64, ld_65, ld_67, ld_69, ld_70, ld_73, st_3, st_5, st_6, st_60, st_63, st_64, st_65, st_67, st_69, st_70, st_73, aL_3, aL_5, aL_6, aL_60, aL_63, aL_64, aL_65, aL_67, aL_69, aL_70, aL_73, pI_0, pI_1, pI_2, pI_4, pI_7, pI_15, pI_59, pI_61, pI_62, pI_66, pI_68, pI_71, pI_72, ld_16, aL_16, lX4_leastFromBeginning_2]
    · obtain ⟨m', j1, j2, j3⟩ := ih n (p + 1) (u2 μ.1 67 p.toNat (ii (bG0 1000000 p)), μ.2) (by push_cast at h1; omega) (by omega) (by omega) (by omega) (fun k hk0 hk1 => by
        by_cases hk : k = p
        · subst hk; simp (disch := omega) only [u2_at]
        · simp (disch := omega) only [u2_off]; exact hB k hk0 (by omega))
      refine ⟨m', ?_, fun a ha => (j2 a ha).trans (by simp (disch := omega) only [u2_offr]), j3⟩
      rw [← j1]
      unfold bG0
      by_cases hz : p = 0
      · subst hz
        simp (disch := omega) only [Option.bind_some, km1, k0, k1, k2, k3, k4, k5, k6, k7, k8, k9, k10, k11, k15, k16, k20, k32, k33, k39, k40, k43, k44, k45, k48, k49, k50, k51, k52, k57, k59, k60, k63, k64, k80, k97, k100, k101, k108, k112, k114, k117, k126, k130, k650, k100000, k1000000, ii_add, ii_sub, ii_neg, ii_mul, ii_lt, ii_le, ii_eq, if_true, if_false, if_pos, if_neg, gI_0, gI_1, gI_2, gI_4, gI_7, gI_15, gI_59, gI_61, gI_62, gI_66, gI_68, gI_71, gI_72, gR_0_0, gR_0_1, gR_0_3, gR_0_4, gR_0_5, gR_0_6, gR_0_7, gR_0_8, gR_1_0, gR_1_1, gR_1_2, gR_2_0, gR_4_0, gR_4_1, gR_15_0, gR_59_0, gR_61_0, gR_61_1, gR_61_2, gR_62_0, gR_62_1, gR_62_2, gR_66_0, gR_66_1, gR_68_0, gR_68_1, gR_71_0, gR_72_0, ld_3, ld_5, ld_6, ld_60, ld_63, ld_64, ld_65, ld_67, ld_69, ld_70, ld_73, st_3, st_5, st_6, st_60, st_63, st_64, st_65, st_67, st_69, st_70, st_73, aL_3, aL_5, aL_6, aL_60, aL_63, aL_64, aL_65, aL_67, aL_69, aL_70, aL_73, pI_0, pI_1, pI_2, pI_4, pI_7, pI_15, pI_59, pI_61, pI_62, pI_66, pI_68, pI_71, pI_72, ld_16, aL_16, lX4_leastFromBeginning_2, lX4_leastFromBeginning_26]
      · simp (disch := omega) only [Option.bind_some, km1, k0, k1, k2, k3, k4, k5, k6, k7, k8, k9, k10, k11, k15, k16, k20, k32, k33, k39, k40, k43, k44, k45, k48, k49, k50, k51, k52, k57, k59, k60, k63, k64, k80, k97, k100, k101, k108, k112, k114, k117, k126, k130, k650, k100000, k1000000, ii_add, ii_sub, ii_neg, ii_mul, ii_lt, ii_le, ii_eq, if_true, if_false, if_pos, if_neg, gI_0, gI_1, gI_2, gI_4, gI_7, gI_15, gI_59, gI_61, gI_62, gI_66, gI_68, gI_71, gI_72, gR_0_0, gR_0_1, gR_0_3, gR_0_4, gR_0_5, gR_0_6, gR_0_7, gR_0_8, gR_1_0, gR_1_1, gR_1_2, gR_2_0, gR_4_0, gR_4_1, gR_15_0, gR_59_0, gR_61_0, gR_61_1, gR_61_2, gR_62_0, gR_62_1, gR_62_2, gR_66_0, gR_66_1, gR_68_0, gR_68_1, gR_71_0, gR_72_0, ld_3, ld_5, ld_6, ld_60, ld_63, ld_64, ld_65, ld_67, ld_69, ld_70, ld_73, st_3, st_5, st_6, st_60, st_63, st_64, st_65, st_67, st_69, st_70, st_73, aL_3, aL_5, aL_6, aL_60, aL_63, aL_64, aL_65, aL_67, aL_69, aL_70, aL_73, pI_0, pI_1, pI_2, pI_4, pI_7, pI_15, pI_59, pI_61, pI_62, pI_66, pI_68, pI_71, pI_72, ld_16, aL_16, lX4_leastFromBeginning_2, lX4_leastFromBeginning_26]
theorem begin_at {μ : mMm} {v : Int → Int} (hR : RT μ.1 v) (hW : WF v) : ∃ m', fX4_leastFromBeginning oS μ 66 = some (ii (fbg v), (m', μ.2)) ∧ (∀ a, a ≠ 67 → m' a = μ.1 a) := by
  have g0 := wf_0 hW
  obtain ⟨m1, i1, i2, i3⟩ := begin_init hW 41 FU 0 μ (by omega) (by decide) (by omega) (by omega) (fun k h0 h1 => by omega)
  obtain ⟨m', j1, j2⟩ := begin_loop hW 41 FU 0 (bG0 1000000) (m1, μ.2) (by omega) (by decide) (by omega) (by omega) (RT_fr (fun j hj => i2 _ (by omega)) hR) (fun k h0 h1 => i3 k h0 (by omega)) (fun k h0 h1 => by unfold bG0; split <;> omega)
  refine ⟨m', ?_, fun a ha => (j2 a ha).trans (i2 a ha)⟩
  unfold fX4_leastFromBeginning bX4_leastFromBeginning
  rw [if_pos o66, show (0 : Int32) = ii 0 from rfl, i1, j1, ← (fbA_eq hW).1]
  rfl
