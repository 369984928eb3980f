/-! pairs -/
def pr (v : Int → Int) (p : Int) : Int := 4 * tx v p + tx v (p + 1)
def cP (v : Int → Int) (x : Int) : Nat → Int
  | 0 => 0
  | n + 1 => cP v x n + (if pr v n = x then 1 else 0)
def lP (v : Int → Int) (x : Int) : Nat → Int
  | 0 => -1
  | n + 1 => if pr v n = x then n else lP v x n
def mfGo (C : Int → Int) : Nat → Int → Int → Int
  | 0, _, b => b
  | f + 1, x, b => if 16 ≤ x then b else mfGo C f (x + 1) (if C b < C x then x else b)
def nP (v : Int → Int) : Nat := (v 0 - 1).toNat
def ofn (v : Int → Int) (x : Int) : Int := cP v x (nP v)
def lst (v : Int → Int) (x : Int) : Int := lP v x (nP v)
def mfr (v : Int → Int) : Int := mfGo (ofn v) 20 1 0
def bN (v : Int → Int) (p o : Int) : Int := if pr v o = pr v p ∧ p - o ≤ v 1 then alk v p (p - o) else 0
def bSt (v : Int → Int) (p o b : Int) : Int := if v 2 ≤ bN v p o ∧ b < bN v p o then bN v p o else b
def bGo (v : Int → Int) (p : Int) : Nat → Int → Int → Int
  | 0, _, b => b
  | f + 1, o, b => if o < 0 then b else bGo v p f (o - 1) (bSt v p o b)
def bpl (v : Int → Int) (p : Int) : Int := if p + 1 < v 0 then bGo v p 40 (p - 1) 0 else 0
theorem pr_b {v : Int → Int} (hW : WF v) {p : Int} (h0 : 0 ≤ p) (h1 : p + 1 < v 0) : 0 ≤ pr v p ∧ pr v p ≤ 15 := by
  have t1 := wf_t hW (k := p) (by omega) (by omega)
  have t2 := wf_t hW (k := p + 1) (by omega) (by omega)
  unfold pr
  omega
theorem cP_b (v : Int → Int) (x : Int) : ∀ n : Nat, 0 ≤ cP v x n ∧ cP v x n ≤ n
  | 0 => ⟨Int.le_refl _, Int.le_refl _⟩
  | n + 1 => by
    have := cP_b v x n
    unfold cP
    split <;> (push_cast; omega)
theorem lP_b (v : Int → Int) (x : Int) : ∀ n : Nat, -1 ≤ lP v x n ∧ lP v x n < n
  | 0 => ⟨Int.le_refl _, by show (-1 : Int) < 0; omega⟩
  | n + 1 => by
    have := lP_b v x n
    unfold lP
    split <;> (push_cast; omega)
theorem bN_b {v : Int → Int} (hW : WF v) {p o : Int} (h0 : 0 ≤ p) : 0 ≤ bN v p o ∧ bN v p o ≤ 9 := by
  have h3 := wf_3 hW
  unfold bN
  split
  · have := alk_b hW (d := p - o) h0
    omega
  · omega
theorem bSt_b {v : Int → Int} (hW : WF v) {p o b : Int} (h0 : 0 ≤ p) (h1 : 0 ≤ b) (h2 : b ≤ 9) : 0 ≤ bSt v p o b ∧ bSt v p o b ≤ 9 := by
  have := bN_b hW (o := o) h0
  unfold bSt
  split <;> omega
theorem bGo_b {v : Int → Int} (hW : WF v) {p : Int} (h0 : 0 ≤ p) : ∀ (f : Nat) (o b : Int), 0 ≤ b → b ≤ 9 → 0 ≤ bGo v p f o b ∧ bGo v p f o b ≤ 9
  | 0, o, b, h1, h2 => ⟨h1, h2⟩
  | f + 1, o, b, h1, h2 => by
    unfold bGo
    split
    · exact ⟨h1, h2⟩
    · have := bSt_b hW (o := o) h0 h1 h2
      exact bGo_b hW h0 f _ _ this.1 this.2
theorem mfGo_b (C : Int → Int) : ∀ (f : Nat) (x b : Int), 0 ≤ x → 0 ≤ b → b < 16 → 0 ≤ mfGo C f x b ∧ mfGo C f x b < 16
  | 0, x, b, _, h1, h2 => ⟨h1, h2⟩
  | f + 1, x, b, h0, h1, h2 => by
    unfold mfGo
    split
    · exact ⟨h1, h2⟩
    · split
      · exact mfGo_b C f _ _ (by omega) (by omega) (by omega)
      · exact mfGo_b C f _ _ (by omega) h1 h2
theorem RS_fr {m m' : Nat → Nat → Int32} {a : Nat} {v : Int → Int} (h : ∀ j, j ≤ 6 → m' (a + j) = m (a + j)) (hR : RS m a v) : RS m' a v := by
  have g0 := h 0 (by omega); have g1 := h 1 (by omega); have g2 := h 2 (by omega); have g3 := h 3 (by omega); have g4 := h 4 (by omega); have g5 := h 5 (by omega); have g6 := h 6 (by omega)
  simp only [Nat.add_zero] at g0
  unfold RS at hR ⊢
  rw [g0, g1, g2, g3, g4, g5, g6]
  exact hR
/-! the class's dictionary -/
def DR (m : Nat → Nat → Int32) (v : Int → Int) (n : Nat) : Prop := (∀ x : Int, 0 ≤ x → x < 16 → m 63 x.toNat = ii (cP v x n) ∧ m 64 x.toNat = ii (lP v x n)) ∧ ∀ p : Int, 0 ≤ p → p < n → m 65 p.toNat = ii (lP v (pr v p) p.toNat)
theorem note_at {μ : mMm} {x p c : Int} (h0 : 0 ≤ x) (h1 : x < 16) (h2 : 0 ≤ p) (h3 : p < 40) (hc : μ.1 63 x.toNat = ii c) : fX0_note oS μ 62 (ii x) (ii p) = some (u2 (u2 (u2 μ.1 65 p.toNat (μ.1 64 x.toNat)) 64 x.toNat (ii p)) 63 x.toNat (ii (c + 1)), μ.2) := by
  unfold fX0_note bX0_note
  simp (disch := omega) only [Option.bind_some, km1, k0, k1, k2, k3, k4, k5, k6, k7, k8, k9, k10, k11, k15, k16, k20, k32, k33, k39, k40, k43, k44, k45, k48, k49, k50, k51, k52, k57, k59, k60, k63, k64, k80, k97, k100, k101, k108, k112, k114, k117, k126, k130, k650, k100000, k1000000, ii_add, ii_sub, ii_neg, ii_mul, ii_lt, ii_le, ii_eq, if_true, if_false, if_pos, if_neg, gI_0, gI_1, gI_2, gI_4, gI_7, gI_15, gI_59, gI_61, gI_62, gI_66, gI_68, gI_71, gI_72, gR_0_0, gR_0_1, gR_0_3, gR_0_4, gR_0_5, gR_0_6, gR_0_7, gR_0_8, gR_1_0, gR_1_1, gR_1_2, gR_2_0, gR_4_0, gR_4_1, gR_15_0, gR_59_0, gR_61_0, gR_61_1, gR_61_2, gR_62_0, gR_62_1, gR_62_2, gR_66_0, gR_66_1, gR_68_0, gR_68_1, gR_71_0, gR_72_0, ld_3, ld_5, ld_6, ld_60, ld_63, ld_64, ld_65, ld_67, ld_69, ld_70, ld_73, st_3, st_5, st_6, st_60, st_63, st_64, st_65, st_67, st_69, st_70, st_73, aL_3, aL_5, aL_6, aL_60, aL_63, aL_64, aL_65, aL_67, aL_69, aL_70, aL_73, pI_0, pI_1, pI_2, pI_4, pI_7, pI_15, pI_59, pI_61, pI_62, pI_66, pI_68, pI_71, pI_72, ld_16, aL_16, if_pos o62, u2_off, hc]
theorem read_l1 : ∀ (f n : Nat) (x : Int) (μ : mMm), 16 - x ≤ f → f < n → 0 ≤ x → x ≤ 16 → (∀ y : Int, 0 ≤ y → y < x → μ.1 63 y.toNat = ii 0 ∧ μ.1 64 y.toNat = ii (-1)) → ∃ m', lX0_read_2 oS n μ 62 2 (ii x) = lX0_read_30 oS FU (m', μ.2) 62 2 (ii 0) ∧ (∀ a, a ≠ 63 → a ≠ 64 → m' a = μ.1 a) ∧ ∀ y : Int, 0 ≤ y → y < 16 → m' 63 y.toNat = ii 0 ∧ m' 64 y.toNat = ii (-1) := by
  intro f
  induction f with
  | zero =>
    intro n x μ h1 h2 h3 h4 h5
    obtain ⟨n, rfl⟩ : ∃ k, n = k + 1 := ⟨n - 1, by omega⟩
    refine ⟨μ.1, ?_, fun _ _ _ => rfl, fun y h6 h7 => h5 y h6 (by omega)⟩
    simp (disch := omega) only [Option.bind_some, km1, k0, k1, k2, k3, k4, k5, k6, k7, k8, k9, k10, k11, k15, k16, k20, k32, k33, k39, k40, k43, k44, k45, k48, k49, k50, k51, k52, k57, k59, k60, k63, k64, k80, k97, k100, k101, k108, k112, k114, k117, k126, k130, k650, k100000, k1000000, ii_add, ii_sub, ii_neg, ii_mul, ii_lt, ii_le, ii_eq, if_true, if_false, if_pos, if_neg, gI_0, gI_1, gI_2, gI_4, gI_7, gI_15, gI_59, gI_61, gI_62, gI_66, gI_68, gI_71, gI_72, gR_0_0, gR_0_1, gR_0_3, gR_0_4, gR_0_5, gR_0_6, gR_0_7, gR_0_8, gR_1_0, gR_1_1, gR_1_2, gR_2_0, gR_4_0, gR_4_1, gR_15_0, gR_59_0, gR_61_0, gR_61_1, gR_61_2, gR_62_0, gR_62_1, gR_62_2, gR_66_0, gR_66_1, gR_68_0, gR_68_1, gR_71_0, gR_72_0, ld_3, ld_5, ld_6, ld_60, ld_63, ld_64, ld_65, ld_67, ld_69, ld_70, ld_73, st_3, st_5, st_6, st_60, st_63, st_64, st_65, st_67, st_69, st_70, st_73, aL_3, aL_5, aL_6, aL_60, aL_63, aL_64, aL_65, aL_67, aL_69, aL_70, aL_73, pI_0, pI_1, pI_2, pI_4, pI_7, pI_15, pI_59, pI_61, pI_62, pI_66, pI_68, pI_71, pI_72, ld_16, aL_16, lX0_read_2]
  | succ f ih =>
    intro n x μ h1 h2 h3 h4 h5
    obtain ⟨n, rfl⟩ : ∃ k, n = k + 1 := ⟨n - 1, by omega⟩
    by_cases hx : 16 ≤ x
    · refine ⟨μ.1, ?_, fun _ _ _ => rfl, fun y h6 h7 => h5 y h6 (by omega)⟩
      simp (disch := omega) only [Option.bind_some, km1, k0, k1, k2, k3, k4, k5, k6, k7, k8, k9, k10, k11, k15, k16, k20, k32, k33, k39, k40, k43, k44, k45, k48, k49, k50, k51, k52, k57, k59, k60, k63, k64, k80, k97, k100, k101, k108, k112, k114, k117, k126, k130, k650, k100000, k1000000, ii_add, ii_sub, ii_neg, ii_mul, ii_lt, ii_le, ii_eq, if_true, if_false, if_pos, if_neg, gI_0, gI_1, gI_2, gI_4, gI_7, gI_15, gI_59, gI_61, gI_62, gI_66, gI_68, gI_71, gI_72, gR_0_0, gR_0_1, gR_0_3, gR_0_4, gR_0_5, gR_0_6, gR_0_7, gR_0_8, gR_1_0, gR_1_1, gR_1_2, gR_2_0, gR_4_0, gR_4_1, gR_15_0, gR_59_0, gR_61_0, gR_61_1, gR_61_2, gR_62_0, gR_62_1, gR_62_2, gR_66_0, gR_66_1, gR_68_0, gR_68_1, gR_71_0, gR_72_0, ld_3, ld_5, ld_6, ld_60, ld_63, ld_64, ld_65, ld_67, ld_69, ld_70, ld_73, st_3, st_5, st_6, st_60, st_63, st_64, st_65, st_67, st_69, st_70, st_73, aL_3, aL_5, aL_6, aL_60, aL_63, aL_64, aL_65, aL_67, aL_69, aL_70, aL_73, pI_0, pI_1, pI_2, pI_4, pI_7, pI_15, pI_59, pI_61, pI_62, pI_66, pI_68, pI_71, pI_72, ld_16, aL_16, lX0_read_2]
    · obtain ⟨m', g1, g2, g3⟩ := ih n (x + 1) (u2 (u2 μ.1 63 x.toNat (ii 0)) 64 x.toNat (ii (-1)), μ.2) (by push_cast at h1; omega) (by omega) (by omega) (by omega) (fun y h6 h7 => by
        by_cases hy : y = x
        · subst hy
          simp (disch := omega) only [u2_at, u2_off, and_self]
        · have := h5 y h6 (by omega)
          simp (disch := omega) only [u2_off, this, and_self])
      refine ⟨m', ?_, fun a ha hb => ?_, g3⟩
      · rw [← g1]
        simp (disch := omega) only [Option.bind_some, km1, k0, k1, k2, k3, k4, k5, k6, k7, k8, k9, k10, k11, k15, k16, k20, k32, k33, k39, k40, k43, k44, k45, k48, k49, k50, k51, k52, k57, k59, k60, k63, k64, k80, k97, k100, k101, k108, k112, k114, k117, k126, k130, k650, k100000, k1000000, ii_add, ii_sub, ii_neg, ii_mul, ii_lt, ii_le, ii_eq, if_true, if_false, if_pos, if_neg, gI_0, gI_1, gI_2, gI_4, gI_7, gI_15, gI_59, gI_61, gI_62, gI_66, gI_68, gI_71, gI_72, gR_0_0, gR_0_1, gR_0_3, gR_0_4, gR_0_5, gR_0_6, gR_0_7, gR_0_8, gR_1_0, gR_1_1, gR_1_2, gR_2_0, gR_4_0, gR_4_1, gR_15_0, gR_59_0, gR_61_0, gR_61_1, gR_61_2, gR_62_0, gR_62_1, gR_62_2, gR_66_0, gR_66_1, gR_68_0, gR_68_1, gR_71_0, gR_72_0, ld_3, ld_5, ld_6, ld_60, ld_63, ld_64, ld_65, ld_67, ld_69, ld_70, ld_73, st_3, st_5, st_6, st_60, st_63, st_64, st_65, st_67, st_69, st_70, st_73, aL_3, aL_5, aL_6, aL_60, aL_63, aL_64, aL_65, aL_67, aL_69, aL_70, aL_73, pI_0, pI_1, pI_2, pI_4, pI_7, pI_15, pI_59, pI_61, pI_62, pI_66, pI_68, pI_71, pI_72, ld_16, aL_16, lX0_read_2]
      · rw [g2 a ha hb]
        simp (disch := omega) only [u2_offr]
theorem read_l2 {v : Int → Int} (hW : WF v) : ∀ (f n : Nat) (p : Nat) (μ : mMm), RT μ.1 v → nP v - p ≤ f → f < n → p ≤ nP v → DR μ.1 v p → ∃ m', lX0_read_30 oS n μ 62 2 (ii p) = some (m', μ.2) ∧ (∀ a, a ≠ 63 → a ≠ 64 → a ≠ 65 → m' a = μ.1 a) ∧ DR m' v (nP v) := by
  have h0 := wf_0 hW
  have hnp : (nP v : Int) = (if v 0 = 0 then 0 else v 0 - 1) := by unfold nP; split <;> omega
  intro f
  induction f with
  | zero =>
    intro n p μ hR h1 h2 h3 h4
    obtain ⟨n, rfl⟩ : ∃ k, n = k + 1 := ⟨n - 1, by omega⟩
    have hp : p = nP v := by omega
    subst hp
    refine ⟨μ.1, ?_, fun _ _ _ _ => rfl, h4⟩
    have e1 := rs_c hR
    have e2 : v 0 ≤ (nP v : Int) + 1 := by split at hnp <;> omega
    have e3 : (nP v : Int) ≤ 40 := by split at hnp <;> omega
    simp (disch := omega) only [Option.bind_some, km1, k0, k1, k2, k3, k4, k5, k6, k7, k8, k9, k10, k11, k15, k16, k20, k32, k33, k39, k40, k43, k44, k45, k48, k49, k50, k51, k52, k57, k59, k60, k63, k64, k80, k97, k100, k101, k108, k112, k114, k117, k126, k130, k650, k100000, k1000000, ii_add, ii_sub, ii_neg, ii_mul, ii_lt, ii_le, ii_eq, if_true, if_false, if_pos, if_neg, gI_0, gI_1, gI_2, gI_4, gI_7, gI_15, gI_59, gI_61, gI_62, gI_66, gI_68, gI_71, gI_72, gR_0_0, gR_0_1, gR_0_3, gR_0_4, gR_0_5, gR_0_6, gR_0_7, gR_0_8, gR_1_0, gR_1_1, gR_1_2, gR_2_0, gR_4_0, gR_4_1, gR_15_0, gR_59_0, gR_61_0, gR_61_1, gR_61_2, gR_62_0, gR_62_1, gR_62_2, gR_66_0, gR_66_1, gR_68_0, gR_68_1, gR_71_0, gR_72_0, ld_3, ld_5, ld_6, ld_60, ld_63, ld_64, ld_65, ld_67, ld_69, ld_70, ld_73, st_3, st_5, st_6, st_60, st_63, st_64, st_65, st_67, st_69, st_70, st_73, aL_3, aL_5, aL_6, aL_60, aL_63, aL_64, aL_65, aL_67, aL_69, aL_70, aL_73, pI_0, pI_1, pI_2, pI_4, pI_7, pI_15, pI_59, pI_61, pI_62, pI_66, pI_68, pI_71, pI_72, ld_16, aL_16, lX0_read_30, e1]
  | succ f ih =>
    intro n p μ hR h1 h2 h3 h4
    obtain ⟨n, rfl⟩ : ∃ k, n = k + 1 := ⟨n - 1, by omega⟩
    have e1 := rs_c hR
    by_cases hp : p = nP v
    · subst hp
      refine ⟨μ.1, ?_, fun _ _ _ _ => rfl, h4⟩
      have e2 : v 0 ≤ (nP v : Int) + 1 := by split at hnp <;> omega
      have e3 : (nP v : Int) ≤ 40 := by split at hnp <;> omega
      simp (disch := omega) only [Option.bind_some, km1, k0, k1, k2, k3, k4, k5, k6, k7, k8, k9, k10, k11, k15, k16, k20, k32, k33, k39, k40, k43, k44, k45, k48, k49, k50, k51, k52, k57, k59, k60, k63, k64, k80, k97, k100, k101, k108, k112, k114, k117, k126, k130, k650, k100000, k1000000, ii_add, ii_sub, ii_neg, ii_mul, ii_lt, ii_le, ii_eq, if_true, if_false, if_pos, if_neg, gI_0, gI_1, gI_2, gI_4, gI_7, gI_15, gI_59, gI_61, gI_62, gI_66, gI_68, gI_71, gI_72, gR_0_0, gR_0_1, gR_0_3, gR_0_4, gR_0_5, gR_0_6, gR_0_7, gR_0_8, gR_1_0, gR_1_1, gR_1_2, gR_2_0, gR_4_0, gR_4_1, gR_15_0, gR_59_0, gR_61_0, gR_61_1, gR_61_2, gR_62_0, gR_62_1, gR_62_2, gR_66_0, gR_66_1, gR_68_0, gR_68_1, gR_71_0, gR_72_0, ld_3, ld_5, ld_6, ld_60, ld_63, ld_64, ld_65, ld_67, ld_69, ld_70, ld_73, st_3, st_5, st_6, st_60, st_63, st_64, st_65, st_67, st_69, st_70, st_73, aL_3, aL_5, aL_6, aL_60, aL_63, aL_64, aL_65, aL_67, aL_69, aL_70, aL_73, pI_0, pI_1, pI_2, pI_4, pI_7, pI_15, pI_59, pI_61, pI_62, pI_66, pI_68, pI_71, pI_72, ld_16, aL_16, lX0_read_30, e1]
    · have e2 : (p : Int) + 1 < v 0 := by split at hnp <;> omega
      have t1 := wf_t hW (k := p) (by omega) (by omega)
      have t2 := wf_t hW (k := (p : Int) + 1) (by omega) (by omega)
      have r1 : μ.1 3 ((p : Int)).toNat = ii (tx v p) := rs_t hR p (by omega) (by omega)
      have r2 : μ.1 3 ((p : Int) + 1).toNat = ii (tx v (p + 1)) := rs_t hR _ (by omega) (by omega)
      have gp := pr_b hW (p := p) (by omega) e2
      have epr : 4 * tx v p + tx v (p + 1) = pr v p := rfl
      have g1 : fX2_get oS μ 2 (ii p) = some (ii (tx v p)) := by rw [get_at oLt_2 e1 (by omega) (by omega) h0.2]; exact congrArg some r1
      have g2 : fX2_get oS μ 2 (ii ((p : Int) + 1)) = some (ii (tx v (p + 1))) := by rw [get_at oLt_2 e1 (by omega) (by omega) h0.2]; exact congrArg some r2
      obtain ⟨hc, hl⟩ := h4.1 _ gp.1 (by omega)
      have g3 := note_at (μ := μ) gp.1 (show pr v p < 16 by omega) (show (0 : Int) ≤ p by omega) (show (p : Int) < 40 by omega) hc
      obtain ⟨m', w1, w2, w3⟩ := ih n (p + 1) (u2 (u2 (u2 μ.1 65 (p : Int).toNat (μ.1 64 (pr v p).toNat)) 64 (pr v p).toNat (ii p)) 63 (pr v p).toNat (ii (cP v (pr v p) p + 1)), μ.2) (RT_fr (fun j hj => by simp (disch := omega) only [u2_offr]) hR) (by omega) (by omega) (by omega) ⟨fun x hx0 hx1 => by
          by_cases hx : x = pr v p
          · subst hx
            refine ⟨?_, ?_⟩
            · simp (disch := omega) only [u2_at]
              rw [cP, if_pos rfl]
            · simp (disch := omega) only [u2_off, u2_at]
              rw [lP, if_pos rfl]
          · obtain ⟨hc2, hl2⟩ := h4.1 x hx0 hx1
            refine ⟨?_, ?_⟩
            · simp (disch := omega) only [u2_off]
              rw [hc2, cP, if_neg (fun e => hx e.symm), Int.add_zero]
            · simp (disch := omega) only [u2_off]
              rw [hl2, lP, if_neg (fun e => hx e.symm)], fun q hq0 hq1 => by
          by_cases hq : q = p
          · subst hq
            simp (disch := omega) only [u2_off, u2_at]
            rw [hl]
            rfl
          · have := h4.2 q hq0 (by push_cast at hq1; omega)
            simp (disch := omega) only [u2_off]
            exact this⟩
      refine ⟨m', ?_, fun a ha hb hc => ?_, w3⟩
      · rw [← w1]
        simp (disch := omega) only [Option.bind_some, km1, k0, k1, k2, k3, k4, k5, k6, k7, k8, k9, k10, k11, k15, k16, k20, k32, k33, k39, k40, k43, k44, k45, k48, k49, k50, k51, k52, k57, k59, k60, k63, k64, k80, k97, k100, k101, k108, k112, k114, k117, k126, k130, k650, k100000, k1000000, ii_add, ii_sub, ii_neg, ii_mul, ii_lt, ii_le, ii_eq, if_true, if_false, if_pos, if_neg, gI_0, gI_1, gI_2, gI_4, gI_7, gI_15, gI_59, gI_61, gI_62, gI_66, gI_68, gI_71, gI_72, gR_0_0, gR_0_1, gR_0_3, gR_0_4, gR_0_5, gR_0_6, gR_0_7, gR_0_8, gR_1_0, gR_1_1, gR_1_2, gR_2_0, gR_4_0, gR_4_1, gR_15_0, gR_59_0, gR_61_0, gR_61_1, gR_61_2, gR_62_0, gR_62_1, gR_62_2, gR_66_0, gR_66_1, gR_68_0, gR_68_1, gR_71_0, gR_72_0, ld_3, ld_5, ld_6, ld_60, ld_63, ld_64, ld_65, ld_67, ld_69, ld_70, ld_73, st_3, st_5, st_6, st_60, st_63, st_64, st_65, st_67, st_69, st_70, st_73, aL_3, aL_5, aL_6, aL_60, aL_63, aL_64, aL_65, aL_67, aL_69, aL_70, aL_73, pI_0, pI_1, pI_2, pI_4, pI_7, pI_15, pI_59, pI_61, pI_62, pI_66, pI_68, pI_71, pI_72, ld_16, aL_16, lX0_read_30, e1, g1, g2, epr, g3]
        rfl
      · rw [w2 a ha hb hc]
        simp (disch := omega) only [u2_offr]
theorem read_at {μ : mMm} {v : Int → Int} (hR : RT μ.1 v) (hW : WF v) : ∃ m', fX0_read oS μ 62 2 = some (m', μ.2) ∧ (∀ a, a ≠ 63 → a ≠ 64 → a ≠ 65 → m' a = μ.1 a) ∧ DR m' v (nP v) := by
  obtain ⟨m1, g1, g2, g3⟩ := read_l1 16 FU 0 μ (by omega) (by decide) (by omega) (by omega) (fun y h1 h2 => by omega)
  have h0 := wf_0 hW
  obtain ⟨m2, w1, w2, w3⟩ := read_l2 hW 40 FU 0 (m1, μ.2) (RT_fr (fun j hj => g2 _ (by omega) (by omega)) hR) (by unfold nP; omega) (by decide) (by omega) ⟨g3, fun p h1 h2 => by push_cast at h2; omega⟩
  refine ⟨m2, ?_, fun a ha hb hc => by rw [w2 a ha hb hc]; exact g2 a ha hb, w3⟩
  unfold fX0_read bX0_read
  rw [if_pos o62, show (0 : Int32) = ii 0 from rfl, g1]
  exact w1
theorem times_at {μ : mMm} {x : Int} (h0 : 0 ≤ x) (h1 : x < 16) : fX0_times oS μ 62 (ii x) = some (μ.1 63 x.toNat) := by
  unfold fX0_times bX0_times
  simp (disch := omega) only [Option.bind_some, km1, k0, k1, k2, k3, k4, k5, k6, k7, k8, k9, k10, k11, k15, k16, k20, k32, k33, k39, k40, k43, k44, k45, k48, k49, k50, k51, k52, k57, k59, k60, k63, k64, k80, k97, k100, k101, k108, k112, k114, k117, k126, k130, k650, k100000, k1000000, ii_add, ii_sub, ii_neg, ii_mul, ii_lt, ii_le, ii_eq, if_true, if_false, if_pos, if_neg, gI_0, gI_1, gI_2, gI_4, gI_7, gI_15, gI_59, gI_61, gI_62, gI_66, gI_68, gI_71, gI_72, gR_0_0, gR_0_1, gR_0_3, gR_0_4, gR_0_5, gR_0_6, gR_0_7, gR_0_8, gR_1_0, gR_1_1, gR_1_2, gR_2_0, gR_4_0, gR_4_1, gR_15_0, gR_59_0, gR_61_0, gR_61_1, gR_61_2, gR_62_0, gR_62_1, gR_62_2, gR_66_0, gR_66_1, gR_68_0, gR_68_1, gR_71_0, gR_72_0, ld_3, ld_5, ld_6, ld_60, ld_63, ld_64, ld_65, ld_67, ld_69, ld_70, ld_73, st_3, st_5, st_6, st_60, st_63, st_64, st_65, st_67, st_69, st_70, st_73, aL_3, aL_5, aL_6, aL_60, aL_63, aL_64, aL_65, aL_67, aL_69, aL_70, aL_73, pI_0, pI_1, pI_2, pI_4, pI_7, pI_15, pI_59, pI_61, pI_62, pI_66, pI_68, pI_71, pI_72, ld_16, aL_16, if_pos o62]
theorem lastPlace_at {μ : mMm} {x : Int} (h0 : 0 ≤ x) (h1 : x < 16) : fX0_lastPlace oS μ 62 (ii x) = some (μ.1 64 x.toNat) := by
  unfold fX0_lastPlace bX0_lastPlace
  simp (disch := omega) only [Option.bind_some, km1, k0, k1, k2, k3, k4, k5, k6, k7, k8, k9, k10, k11, k15, k16, k20, k32, k33, k39, k40, k43, k44, k45, k48, k49, k50, k51, k52, k57, k59, k60, k63, k64, k80, k97, k100, k101, k108, k112, k114, k117, k126, k130, k650, k100000, k1000000, ii_add, ii_sub, ii_neg, ii_mul, ii_lt, ii_le, ii_eq, if_true, if_false, if_pos, if_neg, gI_0, gI_1, gI_2, gI_4, gI_7, gI_15, gI_59, gI_61, gI_62, gI_66, gI_68, gI_71, gI_72, gR_0_0, gR_0_1, gR_0_3, gR_0_4, gR_0_5, gR_0_6, gR_0_7, gR_0_8, gR_1_0, gR_1_1, gR_1_2, gR_2_0, gR_4_0, gR_4_1, gR_15_0, gR_59_0, gR_61_0, gR_61_1, gR_61_2, gR_62_0, gR_62_1, gR_62_2, gR_66_0, gR_66_1, gR_68_0, gR_68_1, gR_71_0, gR_72_0, ld_3, ld_5, ld_6, ld_60, ld_63, ld_64, ld_65, ld_67, ld_69, ld_70, ld_73, st_3, st_5, st_6, st_60, st_63, st_64, st_65, st_67, st_69, st_70, st_73, aL_3, aL_5, aL_6, aL_60, aL_63, aL_64, aL_65, aL_67, aL_69, aL_70, aL_73, pI_0, pI_1, pI_2, pI_4, pI_7, pI_15, pI_59, pI_61, pI_62, pI_66, pI_68, pI_71, pI_72, ld_16, aL_16, if_pos o62]
theorem earlier_at {μ : mMm} {p : Int} (h0 : 0 ≤ p) (h1 : p < 40) : fX0_earlierPlace oS μ 62 (ii p) = some (μ.1 65 p.toNat) := by
  unfold fX0_earlierPlace bX0_earlierPlace
  simp (disch := omega) only [Option.bind_some, km1, k0, k1, k2, k3, k4, k5, k6, k7, k8, k9, k10, k11, k15, k16, k20, k32, k33, k39, k40, k43, k44, k45, k48, k49, k50, k51, k52, k57, k59, k60, k63, k64, k80, k97, k100, k101, k108, k112, k114, k117, k126, k130, k650, k100000, k1000000, ii_add, ii_sub, ii_neg, ii_mul, ii_lt, ii_le, ii_eq, if_true, if_false, if_pos, if_neg, gI_0, gI_1, gI_2, gI_4, gI_7, gI_15, gI_59, gI_61, gI_62, gI_66, gI_68, gI_71, gI_72, gR_0_0, gR_0_1, gR_0_3, gR_0_4, gR_0_5, gR_0_6, gR_0_7, gR_0_8, gR_1_0, gR_1_1, gR_1_2, gR_2_0, gR_4_0, gR_4_1, gR_15_0, gR_59_0, gR_61_0, gR_61_1, gR_61_2, gR_62_0, gR_62_1, gR_62_2, gR_66_0, gR_66_1, gR_68_0, gR_68_1, gR_71_0, gR_72_0, ld_3, ld_5, ld_6, ld_60, ld_63, ld_64, ld_65, ld_67, ld_69, ld_70, ld_73, st_3, st_5, st_6, st_60, st_63, st_64, st_65, st_67, st_69, st_70, st_73, aL_3, aL_5, aL_6, aL_60, aL_63, aL_64, aL_65, aL_67, aL_69, aL_70, aL_73, pI_0, pI_1, pI_2, pI_4, pI_7, pI_15, pI_59, pI_61, pI_62, pI_66, pI_68, pI_71, pI_72, ld_16, aL_16, if_pos o62]
theorem common_loop {μ : mMm} {v : Int → Int} (hW : WF v) (hD : DR μ.1 v (nP v)) : ∀ (f n : Nat) (x b : Int), 16 - x < f → f ≤ n → 1 ≤ x → x ≤ 16 → 0 ≤ b → b < 16 → lX0_commonest_4 oS μ n 62 (ii b) (ii x) = some (ii (mfGo (ofn v) f x b)) := by
  have h0 := wf_0 hW
  have hn : (nP v : Int) ≤ 40 := by unfold nP; omega
  intro f
  induction f with
  | zero => intro n x b h1 h2 h3 h4 h5 h6; push_cast at h1; omega
  | succ f ih =>
    intro n x b h1 h2 h3 h4 h5 h6
    obtain ⟨n, rfl⟩ : ∃ k, n = k + 1 := ⟨n - 1, by omega⟩
    unfold mfGo
    by_cases hx : 16 ≤ x
    · rw [if_pos hx]
      simp (disch := omega) only [Option.bind_some, km1, k0, k1, k2, k3, k4, k5, k6, k7, k8, k9, k10, k11, k15, k16, k20, k32, k33, k39, k40, k43, k44, k45, k48, k49, k50, k51, k52, k57, k59, k60, k63, k64, k80, k97, k100, k101, k108, k112, k114, k117, k126, k130, k650, k100000, k1000000, ii_add, ii_sub, ii_neg, ii_mul, ii_lt, ii_le, ii_eq, if_true, if_false, if_pos, if_neg, gI_0, gI_1, gI_2, gI_4, gI_7, gI_15, gI_59, gI_61, gI_62, gI_66, gI_68, gI_71, gI_72, gR_0_0, gR_0_1, gR_0_3, gR_0_4, gR_0_5, gR_0_6, gR_0_7, gR_0_8, gR_1_0, gR_1_1, gR_1_2, gR_2_0, gR_4_0, gR_4_1, gR_15_0, gR_59_0, gR_61_0, gR_61_1, gR_61_2, gR_62_0, gR_62_1, gR_62_2, gR_66_0, gR_66_1, gR_68_0, gR_68_1, gR_71_0, gR_72_0, ld_3, ld_5, ld_6, ld_60, ld_63, ld_64, ld_65, ld_67, ld_69, ld_70, ld_73, st_3, st_5, st_6, st_60, st_63, st_64, st_65, st_67, st_69, st_70, st_73, aL_3, aL_5, aL_6, aL_60, aL_63, aL_64, aL_65, aL_67, aL_69, aL_70, aL_73, pI_0, pI_1, pI_2, pI_4, pI_7, pI_15, pI_59, pI_61, pI_62, pI_66, pI_68, pI_71, pI_72, ld_16, aL_16, lX0_commonest_4]
    · rw [if_neg hx]
      have c1 := (hD.1 x (by omega) (by omega)).1
      have c2 := (hD.1 b (by omega) (by omega)).1
      have b1 := cP_b v x (nP v)
      have b2 := cP_b v b (nP v)
      by_cases hc : cP v b (nP v) < cP v x (nP v)
      · rw [if_pos (show ofn v b < ofn v x from hc)]
        simp (disch := omega) only [Option.bind_some, km1, k0, k1, k2, k3, k4, k5, k6, k7, k8, k9, k10, k11, k15, k16, k20, k32, k33, k39, k40, k43, k44, k45, k48, k49, k50, k51, k52, k57, k59, k60, k63, k64, k80, k97, k100, k101, k108, k112, k114, k117, k126, k130, k650, k100000, k1000000, ii_add, ii_sub, ii_neg, ii_mul, ii_lt, ii_le, ii_eq, if_true, if_false, if_pos, if_neg, gI_0, gI_1, gI_2, gI_4, gI_7, gI_15, gI_59, gI_61, gI_62, gI_66, gI_68, gI_71, gI_72, gR_0_0, gR_0_1, gR_0_3, gR_0_4, gR_0_5, gR_0_6, gR_0_7, gR_0_8, gR_1_0, gR_1_1, gR_1_2, gR_2_0, gR_4_0, gR_4_1, gR_15_0, gR_59_0, gR_61_0, gR_61_1, gR_61_2, gR_62_0, gR_62_1, gR_62_2, gR_66_0, gR_66_1, gR_68_0, gR_68_1, gR_71_0, gR_72_0, ld_3, ld_5, ld_6, ld_60, ld_63, ld_64, ld_65, ld_67, ld_69, ld_70, ld_73, st_3, st_5, st_6, st_60, st_63, st_64, st_65, st_67, st_69, st_70, st_73, aL_3, aL_5, aL_6, aL_60, aL_63, aL_64, aL_65, aL_67, aL_69, aL_70, aL_73, pI_0, pI_1, pI_2, pI_4, pI_7, pI_15, pI_59, pI_61, pI_62, pI_66, pI_68, pI_71, pI_72, ld_16, aL_16, lX0_commonest_4, c1, c2, lX0_commonest_27]
        exact ih n (x + 1) x (by push_cast at h1; omega) (by omega) (by omega) (by omega) (by omega) (by omega)
      · rw [if_neg (show ¬ ofn v b < ofn v x from hc)]
        simp (disch := omega) only [Option.bind_some, km1, k0, k1, k2, k3, k4, k5, k6, k7, k8, k9, k10, k11, k15, k16, k20, k32, k33, k39, k40, k43, k44, k45, k48, k49, k50, k51, k52, k57, k59, k60, k63, k64, k80, k97, k100, k101, k108, k112, k114, k117, k126, k130, k650, k100000, k1000000, ii_add, ii_sub, ii_neg, ii_mul, ii_lt, ii_le, ii_eq, if_true, if_false, if_pos, if_neg, gI_0, gI_1, gI_2, gI_4, gI_7, gI_15, gI_59, gI_61, gI_62, gI_66, gI_68, gI_71, gI_72, gR_0_0, gR_0_1, gR_0_3, gR_0_4, gR_0_5, gR_0_6, gR_0_7, gR_0_8, gR_1_0, gR_1_1, gR_1_2, gR_2_0, gR_4_0, gR_4_1, gR_15_0, gR_59_0, gR_61_0, gR_61_1, gR_61_2, gR_62_0, gR_62_1, gR_62_2, gR_66_0, gR_66_1, gR_68_0, gR_68_1, gR_71_0, gR_72_0, ld_3, ld_5, ld_6, ld_60, ld_63, ld_64, ld_65, ld_67, ld_69, ld_70, ld_73, st_3, st_5, st_6, st_60, st_63, st_64, st_65, st_67, st_69, st_70, st_73, aL_3, aL_5, aL_6, aL_60, aL_63, aL_64, aL_65, aL_67, aL_69, aL_70, aL_73, pI_0, pI_1, pI_2, pI_4, pI_7, pI_15, pI_59, pI_61, pI_62, pI_66, pI_68, pI_71, pI_72, ld_16, aL_16, lX0_commonest_4, c1, c2, lX0_commonest_27]
        exact ih n (x + 1) b (by push_cast at h1; omega) (by omega) (by omega) (by omega) (by omega) (by omega)
theorem common_at {μ : mMm} {v : Int → Int} (hW : WF v) (hD : DR μ.1 v (nP v)) : fX0_commonest oS μ 62 = some (ii (mfr v)) := by
  unfold fX0_commonest bX0_commonest mfr
  rw [if_pos o62]
  exact common_loop hW hD 20 FU 1 0 (by omega) (by decide) (by omega) (by omega) (by omega) (by omega)
theorem bSt_ne {v : Int → Int} (hW : WF v) {p o b : Int} (h : pr v o ≠ pr v p) : bSt v p o b = b := by
  have h2 := wf_2 hW
  have : bN v p o = 0 := if_neg (fun z => h z.1)
  unfold bSt
  rw [this, if_neg (by omega)]
theorem pairs_loop {μ : mMm} {v : Int → Int} (hR : RT μ.1 v) (hW : WF v) (hD : DR μ.1 v (nP v)) {p : Int} (hp0 : 0 ≤ p) (hp : p + 1 < v 0) : ∀ (f n : Nat) (o b s : Int), o < f → f < n → -1 ≤ o → 0 ≤ b → b ≤ 9 → 0 ≤ s → o + s < p → lX3_longestByPairs_29 oS μ n 61 (ii p) (ii b) (ii (lP v (pr v p) (o + 1).toNat)) (ii s) = some (ii (bGo v p f o b)) := by
  have h0 := wf_0 hW
  have h1 := wf_1 hW
  have h2 := wf_2 hW
  have h3 := wf_3 hW
  have e1 := rs_w hR
  have e2 := rs_s hR
  intro f
  induction f with
  | zero =>
    intro n o b s g1 g2 g3 g4 g5 g6 g7
    obtain ⟨n, rfl⟩ : ∃ k, n = k + 1 := ⟨n - 1, by omega⟩
    have : o = -1 := by push_cast at g1; omega
    subst this
    simp (disch := omega) only [Option.bind_some, km1, k0, k1, k2, k3, k4, k5, k6, k7, k8, k9, k10, k11, k15, k16, k20, k32, k33, k39, k40, k43, k44, k45, k48, k49, k50, k51, k52, k57, k59, k60, k63, k64, k80, k97, k100, k101, k108, k112, k114, k117, k126, k130, k650, k100000, k1000000, ii_add, ii_sub, ii_neg, ii_mul, ii_lt, ii_le, ii_eq, if_true, if_false, if_pos, if_neg, gI_0, gI_1, gI_2, gI_4, gI_7, gI_15, gI_59, gI_61, gI_62, gI_66, gI_68, gI_71, gI_72, gR_0_0, gR_0_1, gR_0_3, gR_0_4, gR_0_5, gR_0_6, gR_0_7, gR_0_8, gR_1_0, gR_1_1, gR_1_2, gR_2_0, gR_4_0, gR_4_1, gR_15_0, gR_59_0, gR_61_0, gR_61_1, gR_61_2, gR_62_0, gR_62_1, gR_62_2, gR_66_0, gR_66_1, gR_68_0, gR_68_1, gR_71_0, gR_72_0, ld_3, ld_5, ld_6, ld_60, ld_63, ld_64, ld_65, ld_67, ld_69, ld_70, ld_73, st_3, st_5, st_6, st_60, st_63, st_64, st_65, st_67, st_69, st_70, st_73, aL_3, aL_5, aL_6, aL_60, aL_63, aL_64, aL_65, aL_67, aL_69, aL_70, aL_73, pI_0, pI_1, pI_2, pI_4, pI_7, pI_15, pI_59, pI_61, pI_62, pI_66, pI_68, pI_71, pI_72, ld_16, aL_16, lX3_longestByPairs_29, lP, bGo, show ((-1 : Int) + 1).toNat = 0 from rfl]
  | succ f ih =>
    intro n o b s g1 g2 g3 g4 g5 g6 g7
    unfold bGo
    by_cases ho : o < 0
    · have : o = -1 := by omega
      subst this
      obtain ⟨n, rfl⟩ : ∃ k, n = k + 1 := ⟨n - 1, by omega⟩
      rw [if_pos ho]
      simp (disch := omega) only [Option.bind_some, km1, k0, k1, k2, k3, k4, k5, k6, k7, k8, k9, k10, k11, k15, k16, k20, k32, k33, k39, k40, k43, k44, k45, k48, k49, k50, k51, k52, k57, k59, k60, k63, k64, k80, k97, k100, k101, k108, k112, k114, k117, k126, k130, k650, k100000, k1000000, ii_add, ii_sub, ii_neg, ii_mul, ii_lt, ii_le, ii_eq, if_true, if_false, if_pos, if_neg, gI_0, gI_1, gI_2, gI_4, gI_7, gI_15, gI_59, gI_61, gI_62, gI_66, gI_68, gI_71, gI_72, gR_0_0, gR_0_1, gR_0_3, gR_0_4, gR_0_5, gR_0_6, gR_0_7, gR_0_8, gR_1_0, gR_1_1, gR_1_2, gR_2_0, gR_4_0, gR_4_1, gR_15_0, gR_59_0, gR_61_0, gR_61_1, gR_61_2, gR_62_0, gR_62_1, gR_62_2, gR_66_0, gR_66_1, gR_68_0, gR_68_1, gR_71_0, gR_72_0, ld_3, ld_5, ld_6, ld_60, ld_63, ld_64, ld_65, ld_67, ld_69, ld_70, ld_73, st_3, st_5, st_6, st_60, st_63, st_64, st_65, st_67, st_69, st_70, st_73, aL_3, aL_5, aL_6, aL_60, aL_63, aL_64, aL_65, aL_67, aL_69, aL_70, aL_73, pI_0, pI_1, pI_2, pI_4, pI_7, pI_15, pI_59, pI_61, pI_62, pI_66, pI_68, pI_71, pI_72, ld_16, aL_16, lX3_longestByPairs_29, lP, show ((-1 : Int) + 1).toNat = 0 from rfl]
    · rw [if_neg ho]
      have e3 : (o + 1).toNat = o.toNat + 1 := by omega
      have e4 : ((o.toNat : Nat) : Int) = o := by omega
      have e5 : (o - 1 + 1).toNat = o.toNat := by omega
      by_cases hq : pr v o = pr v p
      · have el : lP v (pr v p) (o + 1).toNat = o := by rw [e3, lP, e4, if_pos hq]
        rw [el]
        obtain ⟨n, rfl⟩ : ∃ k, n = k + 1 := ⟨n - 1, by omega⟩
        have en := hD.2 o (by omega) (by unfold nP; omega)
        rw [hq] at en
        have ea := earlier_at (μ := μ) (p := o) (by omega) (by omega)
        rw [en] at ea
        have hI := ih n (o - 1) (bSt v p o b) (s + 1) (by push_cast at g1; omega) (by omega) (by omega) (bSt_b hW hp0 g4 g5).1 (bSt_b hW hp0 g4 g5).2 (by omega) (by omega)
        rw [e5] at hI
        rw [← hI]
        by_cases hw : p - o ≤ v 1
        · have ha := alk_b hW (p := p) (d := p - o) hp0
          have hal := alike_at hR hW (p := p) (d := p - o) (by omega) (by omega) (by omega)
          have hbn : bN v p o = alk v p (p - o) := if_pos ⟨hq, hw⟩
          by_cases c1 : alk v p (p - o) < v 2
          · rw [show bSt v p o b = b by unfold bSt; rw [hbn, if_neg (by omega)]]
            simp (disch := omega) only [Option.bind_some, km1, k0, k1, k2, k3, k4, k5, k6, k7, k8, k9, k10, k11, k15, k16, k20, k32, k33, k39, k40, k43, k44, k45, k48, k49, k50, k51, k52, k57, k59, k60, k63, k64, k80, k97, k100, k101, k108, k112, k114, k117, k126, k130, k650, k100000, k1000000, ii_add, ii_sub, ii_neg, ii_mul, ii_lt, ii_le, ii_eq, if_true, if_false, if_pos, if_neg, gI_0, gI_1, gI_2, gI_4, gI_7, gI_15, gI_59, gI_61, gI_62, gI_66, gI_68, gI_71, gI_72, gR_0_0, gR_0_1, gR_0_3, gR_0_4, gR_0_5, gR_0_6, gR_0_7, gR_0_8, gR_1_0, gR_1_1, gR_1_2, gR_2_0, gR_4_0, gR_4_1, gR_15_0, gR_59_0, gR_61_0, gR_61_1, gR_61_2, gR_62_0, gR_62_1, gR_62_2, gR_66_0, gR_66_1, gR_68_0, gR_68_1, gR_71_0, gR_72_0, ld_3, ld_5, ld_6, ld_60, ld_63, ld_64, ld_65, ld_67, ld_69, ld_70, ld_73, st_3, st_5, st_6, st_60, st_63, st_64, st_65, st_67, st_69, st_70, st_73, aL_3, aL_5, aL_6, aL_60, aL_63, aL_64, aL_65, aL_67, aL_69, aL_70, aL_73, pI_0, pI_1, pI_2, pI_4, pI_7, pI_15, pI_59, pI_61, pI_62, pI_66, pI_68, pI_71, pI_72, ld_16, aL_16, lX3_longestByPairs_29, lX3_longestByPairs_66, lX3_longestByPairs_89, e1, e2, hal, ea]
          · by_cases c2 : alk v p (p - o) ≤ b
            · rw [show bSt v p o b = b by unfold bSt; rw [hbn, if_neg (by omega)]]
              simp (disch := omega) only [Option.bind_some, km1, k0, k1, k2, k3, k4, k5, k6, k7, k8, k9, k10, k11, k15, k16, k20, k32, k33, k39, k40, k43, k44, k45, k48, k49, k50, k51, k52, k57, k59, k60, k63, k64, k80, k97, k100, k101, k108, k112, k114, k117, k126, k130, k650, k100000, k1000000, ii_add, ii_sub, ii_neg, ii_mul, ii_lt, ii_le, ii_eq, if_true, if_false, if_pos, if_neg, gI_0, gI_1, gI_2, gI_4, gI_7, gI_15, gI_59, gI_61, gI_62, gI_66, gI_68, gI_71, gI_72, gR_0_0, gR_0_1, gR_0_3, gR_0_4, gR_0_5, gR_0_6, gR_0_7, gR_0_8, gR_1_0, gR_1_1, gR_1_2, gR_2_0, gR_4_0, gR_4_1, gR_15_0, gR_59_0, gR_61_0, gR_61_1, gR_61_2, gR_62_0, gR_62_1, gR_62_2, gR_66_0, gR_66_1, gR_68_0, gR_68_1, gR_71_0, gR_72_0, ld_3, ld_5, ld_6, ld_60, ld_63, ld_64, ld_65, ld_67, ld_69, ld_70, ld_73, st_3, st_5, st_6, st_60, st_63, st_64, st_65, st_67, st_69, st_70, st_73, aL_3, aL_5, aL_6, aL_60, aL_63, aL_64, aL_65, aL_67, aL_69, aL_70, aL_73, pI_0, pI_1, pI_2, pI_4, pI_7, pI_15, pI_59, pI_61, pI_62, pI_66, pI_68, pI_71, pI_72, ld_16, aL_16, lX3_longestByPairs_29, lX3_longestByPairs_66, lX3_longestByPairs_89, e1, e2, hal, ea]
            · rw [show bSt v p o b = alk v p (p - o) by unfold bSt; rw [hbn, if_pos (by omega)]]
              simp (disch := omega) only [Option.bind_some, km1, k0, k1, k2, k3, k4, k5, k6, k7, k8, k9, k10, k11, k15, k16, k20, k32, k33, k39, k40, k43, k44, k45, k48, k49, k50, k51, k52, k57, k59, k60, k63, k64, k80, k97, k100, k101, k108, k112, k114, k117, k126, k130, k650, k100000, k1000000, ii_add, ii_sub, ii_neg, ii_mul, ii_lt, ii_le, ii_eq, if_true, if_false, if_pos, if_neg, gI_0, gI_1, gI_2, gI_4, gI_7, gI_15, gI_59, gI_61, gI_62, gI_66, gI_68, gI_71, gI_72, gR_0_0, gR_0_1, gR_0_3, gR_0_4, gR_0_5, gR_0_6, gR_0_7, gR_0_8, gR_1_0, gR_1_1, gR_1_2, gR_2_0, gR_4_0, gR_4_1, gR_15_0, gR_59_0, gR_61_0, gR_61_1, gR_61_2, gR_62_0, gR_62_1, gR_62_2, gR_66_0, gR_66_1, gR_68_0, gR_68_1, gR_71_0, gR_72_0, ld_3, ld_5, ld_6, ld_60, ld_63, ld_64, ld_65, ld_67, ld_69, ld_70, ld_73, st_3, st_5, st_6, st_60, st_63, st_64, st_65, st_67, st_69, st_70, st_73, aL_3, aL_5, aL_6, aL_60, aL_63, aL_64, aL_65, aL_67, aL_69, aL_70, aL_73, pI_0, pI_1, pI_2, pI_4, pI_7, pI_15, pI_59, pI_61, pI_62, pI_66, pI_68, pI_71, pI_72, ld_16, aL_16, lX3_longestByPairs_29, lX3_longestByPairs_66, lX3_longestByPairs_89, e1, e2, hal, ea]
        · have hbn : bN v p o = 0 := if_neg (fun z => hw z.2)
          rw [show bSt v p o b = b by unfold bSt; rw [hbn, if_neg (by omega)]]
          simp (disch := omega) only [Option.bind_some, km1, k0, k1, k2, k3, k4, k5, k6, k7, k8, k9, k10, k11, k15, k16, k20, k32, k33, k39, k40, k43, k44, k45, k48, k49, k50, k51, k52, k57, k59, k60, k63, k64, k80, k97, k100, k101, k108, k112, k114, k117, k126, k130, k650, k100000, k1000000, ii_add, ii_sub, ii_neg, ii_mul, ii_lt, ii_le, ii_eq, if_true, if_false, if_pos, if_neg, gI_0, gI_1, gI_2, gI_4, gI_7, gI_15, gI_59, gI_61, gI_62, gI_66, gI_68, gI_71, gI_72, gR_0_0, gR_0_1, gR_0_3, gR_0_4, gR_0_5, gR_0_6, gR_0_7, gR_0_8, gR_1_0, gR_1_1, gR_1_2, gR_2_0, gR_4_0, gR_4_1, gR_15_0, gR_59_0, gR_61_0, gR_61_1, gR_61_2, gR_62_0, gR_62_1, gR_62_2, gR_66_0, gR_66_1, gR_68_0, gR_68_1, gR_71_0, gR_72_0, ld_3, ld_5, ld_6, ld_60, ld_63, ld_64, ld_65, ld_67, ld_69, ld_70, ld_73, st_3, st_5, st_6, st_60, st_63, st_64, st_65, st_67, st_69, st_70, st_73, aL_3, aL_5, aL_6, aL_60, aL_63, aL_64, aL_65, aL_67, aL_69, aL_70, aL_73, pI_0, pI_1, pI_2, pI_4, pI_7, pI_15, pI_59, pI_61, pI_62, pI_66, pI_68, pI_71, pI_72, ld_16, aL_16, lX3_longestByPairs_29, lX3_longestByPairs_66, lX3_longestByPairs_89, e1, e2, ea]
      · have el : lP v (pr v p) (o + 1).toNat = lP v (pr v p) (o - 1 + 1).toNat := by rw [e3, e5, lP, e4, if_neg hq]
        rw [el, bSt_ne hW hq]
        exact ih n (o - 1) b s (by push_cast at g1; omega) (by omega) (by omega) g4 g5 g6 (by omega)
theorem byPairs_at {μ : mMm} {v : Int → Int} (hR : RT μ.1 v) (hW : WF v) (hD : DR μ.1 v (nP v)) {p : Int} (hp0 : 0 ≤ p) (hp : p < 40) : fX3_longestByPairs oS μ 61 (ii p) = some (ii (bpl v p)) := by
  have h0 := wf_0 hW
  have e0 := rs_c hR
  unfold fX3_longestByPairs bX3_longestByPairs bpl
  by_cases h : p + 1 < v 0
  · have en := hD.2 p hp0 (by unfold nP; omega)
    have ea := earlier_at (μ := μ) (p := p) hp0 hp
    rw [en] at ea
    rw [if_pos h]
    simp (disch := omega) only [Option.bind_some, km1, k0, k1, k2, k3, k4, k5, k6, k7, k8, k9, k10, k11, k15, k16, k20, k32, k33, k39, k40, k43, k44, k45, k48, k49, k50, k51, k52, k57, k59, k60, k63, k64, k80, k97, k100, k101, k108, k112, k114, k117, k126, k130, k650, k100000, k1000000, ii_add, ii_sub, ii_neg, ii_mul, ii_lt, ii_le, ii_eq, if_true, if_false, if_pos, if_neg, gI_0, gI_1, gI_2, gI_4, gI_7, gI_15, gI_59, gI_61, gI_62, gI_66, gI_68, gI_71, gI_72, gR_0_0, gR_0_1, gR_0_3, gR_0_4, gR_0_5, gR_0_6, gR_0_7, gR_0_8, gR_1_0, gR_1_1, gR_1_2, gR_2_0, gR_4_0, gR_4_1, gR_15_0, gR_59_0, gR_61_0, gR_61_1, gR_61_2, gR_62_0, gR_62_1, gR_62_2, gR_66_0, gR_66_1, gR_68_0, gR_68_1, gR_71_0, gR_72_0, ld_3, ld_5, ld_6, ld_60, ld_63, ld_64, ld_65, ld_67, ld_69, ld_70, ld_73, st_3, st_5, st_6, st_60, st_63, st_64, st_65, st_67, st_69, st_70, st_73, aL_3, aL_5, aL_6, aL_60, aL_63, aL_64, aL_65, aL_67, aL_69, aL_70, aL_73, pI_0, pI_1, pI_2, pI_4, pI_7, pI_15, pI_59, pI_61, pI_62, pI_66, pI_68, pI_71, pI_72, ld_16, aL_16, if_pos o61, e0, ea]
    have := pairs_loop hR hW hD hp0 h 40 FU (p - 1) 0 0 (by omega) (by decide) (by omega) (by omega) (by omega) (by omega) (by omega)
    rw [show (p - 1 + 1).toNat = p.toNat by omega] at this
    exact this
  · rw [if_neg h]
    simp (disch := omega) only [Option.bind_some, km1, k0, k1, k2, k3, k4, k5, k6, k7, k8, k9, k10, k11, k15, k16, k20, k32, k33, k39, k40, k43, k44, k45, k48, k49, k50, k51, k52, k57, k59, k60, k63, k64, k80, k97, k100, k101, k108, k112, k114, k117, k126, k130, k650, k100000, k1000000, ii_add, ii_sub, ii_neg, ii_mul, ii_lt, ii_le, ii_eq, if_true, if_false, if_pos, if_neg, gI_0, gI_1, gI_2, gI_4, gI_7, gI_15, gI_59, gI_61, gI_62, gI_66, gI_68, gI_71, gI_72, gR_0_0, gR_0_1, gR_0_3, gR_0_4, gR_0_5, gR_0_6, gR_0_7, gR_0_8, gR_1_0, gR_1_1, gR_1_2, gR_2_0, gR_4_0, gR_4_1, gR_15_0, gR_59_0, gR_61_0, gR_61_1, gR_61_2, gR_62_0, gR_62_1, gR_62_2, gR_66_0, gR_66_1, gR_68_0, gR_68_1, gR_71_0, gR_72_0, ld_3, ld_5, ld_6, ld_60, ld_63, ld_64, ld_65, ld_67, ld_69, ld_70, ld_73, st_3, st_5, st_6, st_60, st_63, st_64, st_65, st_67, st_69, st_70, st_73, aL_3, aL_5, aL_6, aL_60, aL_63, aL_64, aL_65, aL_67, aL_69, aL_70, aL_73, pI_0, pI_1, pI_2, pI_4, pI_7, pI_15, pI_59, pI_61, pI_62, pI_66, pI_68, pI_71, pI_72, ld_16, aL_16, if_pos o61, e0]
