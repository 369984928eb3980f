/-! packing -/
def eLen (v B : Int → Int) (p : Int) : Nat → Int → Int
  | 0, _ => 0
  | f + 1, n => if n < v 2 then 0 else if v 5 + B (p + n) = B p then n else eLen v B p f (n - 1)
def plen (v : Int → Int) (way p : Int) : Int := if way = 2 then eLen v (cst v (v 1)) p 12 (lng v p (v 1)) else if way = 1 ∧ lng v p (v 1) < lng v (p + 1) (v 1) then 0 else lng v p (v 1)
def pkGo (v : Int → Int) (way : Int) : Nat → Int → Int → (Int → Int) → (Int → Int) → Int × (Int → Int) × (Int → Int)
  | 0, _, k, D, V => (k, D, V)
  | f + 1, p, k, D, V => if v 0 ≤ p then (k, D, V) else pkGo v way f (p + (if plen v way p = 0 then 1 else plen v way p)) (k + 1) (upI D k (if plen v way p = 0 then 0 else dst v p (plen v way p))) (upI V k (if plen v way p = 0 then tx v p else plen v way p))
def pkR (v : Int → Int) (way : Int) : Int × (Int → Int) × (Int → Int) := pkGo v way 40 0 0 (fun _ => 0) (fun _ => 0)
def pkN (v : Int → Int) (way : Int) : Int := (pkR v way).1
def pkD (v : Int → Int) (way : Int) : Int → Int := (pkR v way).2.1
def pkV (v : Int → Int) (way : Int) : Int → Int := (pkR v way).2.2
theorem eLen_b {v B : Int → Int} {p : Int} : ∀ (f : Nat) (n : Int), eLen v B p f n = 0 ∨ (v 2 ≤ eLen v B p f n ∧ eLen v B p f n ≤ n)
  | 0, n => Or.inl rfl
  | f + 1, n => by
    unfold eLen
    split
    · exact Or.inl rfl
    · split
      · exact Or.inr ⟨by omega, Int.le_refl _⟩
      · rcases eLen_b (v := v) (B := B) (p := p) f (n - 1) with h | h
        · exact Or.inl h
        · exact Or.inr ⟨h.1, by omega⟩
theorem plen_b {v : Int → Int} (hW : WF v) {way p : Int} (h0 : 0 ≤ p) : plen v way p = 0 ∨ (v 2 ≤ plen v way p ∧ plen v way p ≤ lng v p (v 1)) := by
  unfold plen
  split
  · exact eLen_b 12 _
  · split
    · exact Or.inl rfl
    · rcases (lng_b hW (p := p) (w := v 1) h0).2.2 with h | h
      · exact Or.inl h
      · exact Or.inr ⟨h.1, Int.le_refl _⟩
/-- of a length that a way takes: a distance is there, it ends in the text -/
theorem plen_e {v : Int → Int} (hW : WF v) {way p : Int} (h0 : 0 ≤ p) (h1 : p ≤ v 0) (hn : plen v way p ≠ 0) : 2 ≤ plen v way p ∧ plen v way p ≤ 9 ∧ p + plen v way p ≤ v 0 ∧ ∃ d0, 1 ≤ d0 ∧ d0 ≤ v 1 ∧ d0 ≤ p ∧ plen v way p ≤ alk v p d0 := by
  have g2 := wf_2 hW
  have g3 := wf_3 hW
  rcases plen_b hW (way := way) h0 with h | ⟨h, h2⟩
  · exact absurd h hn
  · have hl := lng_b hW (p := p) (w := v 1) h0
    have he := lng_e hW (p := p) (w := v 1) h0 h1
    rcases hl.2.2 with h3 | ⟨h3, d0, h4, h5, h6, h7⟩
    · omega
    · exact ⟨by omega, by omega, by omega, d0, h4, h5, h6, by omega⟩
theorem dst_b {v : Int → Int} {p l d0 : Int} (g0 : 1 ≤ d0) (g1 : d0 ≤ 32) (g3 : l ≤ alk v p d0) : 1 ≤ dst v p l ∧ dst v p l ≤ d0 := by
  have := dGo_b (A := alk v p) (n := l) 40 1 d0 (by omega) g0 g3 (by omega)
  exact ⟨this.1, this.2.1⟩
def PKok (k : Int) (D V : Int → Int) : Prop := ∀ j, 0 ≤ j → j < k → 0 ≤ D j ∧ D j ≤ 39 ∧ (D j = 0 → 0 ≤ V j ∧ V j ≤ 3) ∧ (D j ≠ 0 → 1 ≤ V j ∧ V j ≤ 40)
theorem PK_st {v : Int → Int} (hW : WF v) {way p k : Int} {D V : Int → Int} (h0 : 0 ≤ p) (h1 : p < v 0) (h : PKok k D V) : PKok (k + 1) (upI D k (if plen v way p = 0 then 0 else dst v p (plen v way p))) (upI V k (if plen v way p = 0 then tx v p else plen v way p)) := by
  have g1 := wf_1 hW
  intro j h2 h3
  by_cases hj : j = k
  · subst hj
    rw [upI_s, upI_s]
    by_cases hl : plen v way p = 0
    · rw [if_pos hl, if_pos hl]
      have := wf_t hW h0 h1
      exact ⟨by omega, by omega, fun _ => this, fun z => absurd rfl z⟩
    · rw [if_neg hl, if_neg hl]
      obtain ⟨e1, e2, e3, d0, e4, e5, e6, e7⟩ := plen_e hW h0 (by omega) hl
      have := dst_b (v := v) (p := p) e4 (by omega) e7
      exact ⟨by omega, by omega, fun z => by omega, fun _ => by omega⟩
  · rw [upI_n hj, upI_n hj]
    exact h j h2 (by omega)
theorem pkGo_b {v : Int → Int} (hW : WF v) {way : Int} : ∀ (f : Nat) (p k : Int) (D V : Int → Int), 0 ≤ p → p ≤ v 0 → 0 ≤ k → k ≤ p → PKok k D V → 0 ≤ (pkGo v way f p k D V).1 ∧ (pkGo v way f p k D V).1 ≤ v 0 ∧ PKok (pkGo v way f p k D V).1 (pkGo v way f p k D V).2.1 (pkGo v way f p k D V).2.2
  | 0, p, k, D, V, h0, h1, h2, h3, h => ⟨h2, by show k ≤ v 0; omega, h⟩
  | f + 1, p, k, D, V, h0, h1, h2, h3, h => by
    unfold pkGo
    by_cases hp : v 0 ≤ p
    · rw [if_pos hp]
      exact ⟨h2, by show k ≤ v 0; omega, h⟩
    · rw [if_neg hp]
      by_cases hl : plen v way p = 0
      · have hst := PK_st hW (way := way) h0 (by omega) h
        rw [if_pos hl, if_pos hl] at hst
        rw [if_pos hl, if_pos hl, if_pos hl]
        exact pkGo_b hW f (p + 1) (k + 1) _ _ (by omega) (by omega) (by omega) (by omega) hst
      · have hst := PK_st hW (way := way) h0 (by omega) h
        obtain ⟨e1, e2, e3, -⟩ := plen_e hW h0 (by omega) hl
        rw [if_neg hl, if_neg hl] at hst
        rw [if_neg hl, if_neg hl, if_neg hl]
        exact pkGo_b hW f (p + plen v way p) (k + 1) _ _ (by omega) (by omega) (by omega) (by omega) hst
theorem pkR_b {v : Int → Int} (hW : WF v) (way : Int) : 0 ≤ pkN v way ∧ pkN v way ≤ v 0 ∧ PKok (pkN v way) (pkD v way) (pkV v way) := by
  have g0 := wf_0 hW
  exact pkGo_b hW 40 0 0 _ _ (by omega) (by omega) (by omega) (by omega) (fun j h0 h1 => by omega)
/-! the class's packer -/
theorem putL_at {μ : mMm} {v : Int → Int} {o : Nat} {p k : Int} (hK : oSk o) (hR : RT μ.1 v) (hW : WF v) (hp0 : 0 ≤ p) (hp : p < v 0) (hk : μ.1 o 2 = ii k) (hk0 : 0 ≤ k) (hk1 : k < 40) : fX4_putTokenAt oS μ 66 (ii p) (ii 0) o = some (ii 1, (u2 (u2 (u2 μ.1 (o + 1) k.toNat (ii 0)) (o + 2) k.toNat (ii (tx v p))) o 2 (ii (k + 1)), μ.2)) := by
  have g0 := wf_0 hW
  have e0 := rs_c hR
  have r1 := rs_t hR p hp0 hp
  have g1 : fX2_get oS μ 2 (ii p) = some (ii (tx v p)) := by rw [get_at oLt_2 e0 hp0 hp g0.2]; exact congrArg some r1
  have g2 := sput_at (μ := μ) (d := ii 0) (v := ii (tx v p)) hK hk hk0 hk1
  unfold fX4_putTokenAt bX4_putTokenAt
  simp (disch := omega) only [Option.bind_some, km1, k0, k1, k2, k3, k4, k5, k6, k7, k8, k9, k10, k11, k15, k16, k20, k32, k33, k39, k40, k43, k44, k45, k48, k49, k50, k51, k52, k57, k59, k60, k63, k64, k80, k97, k100, k101, k108, k112, k114, k117, k126, k130, k650, k100000, k1000000, ii_add, ii_sub, ii_neg, ii_mul, ii_lt, ii_le, ii_eq, if_true, if_false, if_pos, if_neg, gI_0, gI_1, gI_2, gI_4, gI_7, gI_15, gI_59, gI_61, gI_62, gI_66, gI_68, gI_71, gI_72, gR_0_0, gR_0_1, gR_0_3, gR_0_4, gR_0_5, gR_0_6, gR_0_7, gR_0_8, gR_1_0, gR_1_1, gR_1_2, gR_2_0, gR_4_0, gR_4_1, gR_15_0, gR_59_0, gR_61_0, gR_61_1, gR_61_2, gR_62_0, gR_62_1, gR_62_2, gR_66_0, gR_66_1, gR_68_0, gR_68_1, gR_71_0, gR_72_0, ld_3, ld_5, ld_6, ld_60, ld_63, ld_64, ld_65, ld_67, ld_69, ld_70, ld_73, st_3, st_5, st_6, st_60, st_63, st_64, st_65, st_67, st_69, st_70, st_73, aL_3, aL_5, aL_6, aL_60, aL_63, aL_64, aL_65, aL_67, aL_69, aL_70, aL_73, pI_0, pI_1, pI_2, pI_4, pI_7, pI_15, pI_59, pI_61, pI_62, pI_66, pI_68, pI_71, pI_72, ld_16, aL_16, if_pos o66, g1, g2]
theorem putR_at {μ : mMm} {v : Int → Int} {o : Nat} {p k l d0 : Int} (hK : oSk o) (hR : RT μ.1 v) (hW : WF v) (hp0 : 0 ≤ p) (hp : p ≤ 40) (hl : 1 ≤ l) (hl9 : l ≤ 40) (g0 : 1 ≤ d0) (g1 : d0 ≤ v 1) (g2 : d0 ≤ p) (g3 : l ≤ alk v p d0) (hk : μ.1 o 2 = ii k) (hk0 : 0 ≤ k) (hk1 : k < 40) : fX4_putTokenAt oS μ 66 (ii p) (ii l) o = some (ii l, (u2 (u2 (u2 μ.1 (o + 1) k.toNat (ii (dst v p l))) (o + 2) k.toNat (ii l)) o 2 (ii (k + 1)), μ.2)) := by
  have e1 := distance_at hR hW hp0 hp hl hl9 g0 g1 g2 g3
  have e2 := sput_at (μ := μ) (d := ii (dst v p l)) (v := ii l) hK hk hk0 hk1
  unfold fX4_putTokenAt bX4_putTokenAt
  simp (disch := omega) only [Option.bind_some, km1, k0, k1, k2, k3, k4, k5, k6, k7, k8, k9, k10, k11, k15, k16, k20, k32, k33, k39, k40, k43, k44, k45, k48, k49, k50, k51, k52, k57, k59, k60, k63, k64, k80, k97, k100, k101, k108, k112, k114, k117, k126, k130, k650, k100000, k1000000, ii_add, ii_sub, ii_neg, ii_mul, ii_lt, ii_le, ii_eq, if_true, if_false, if_pos, if_neg, gI_0, gI_1, gI_2, gI_4, gI_7, gI_15, gI_59, gI_61, gI_62, gI_66, gI_68, gI_71, gI_72, gR_0_0, gR_0_1, gR_0_3, gR_0_4, gR_0_5, gR_0_6, gR_0_7, gR_0_8, gR_1_0, gR_1_1, gR_1_2, gR_2_0, gR_4_0, gR_4_1, gR_15_0, gR_59_0, gR_61_0, gR_61_1, gR_61_2, gR_62_0, gR_62_1, gR_62_2, gR_66_0, gR_66_1, gR_68_0, gR_68_1, gR_71_0, gR_72_0, ld_3, ld_5, ld_6, ld_60, ld_63, ld_64, ld_65, ld_67, ld_69, ld_70, ld_73, st_3, st_5, st_6, st_60, st_63, st_64, st_65, st_67, st_69, st_70, st_73, aL_3, aL_5, aL_6, aL_60, aL_63, aL_64, aL_65, aL_67, aL_69, aL_70, aL_73, pI_0, pI_1, pI_2, pI_4, pI_7, pI_15, pI_59, pI_61, pI_62, pI_66, pI_68, pI_71, pI_72, ld_16, aL_16, if_pos o66, e1, e2]
/-- a sack's object holds k tokens -/
def SK (m : Nat → Nat → Int32) (o : Nat) (k : Int) (D V : Int → Int) : Prop := m o 2 = ii k ∧ ∀ j, 0 ≤ j → j < k → m (o + 1) j.toNat = ii (D j) ∧ m (o + 2) j.toNat = ii (V j)
theorem SK_put {m : Nat → Nat → Int32} {o : Nat} {k d x : Int} {D V : Int → Int} (h : SK m o k D V) (h0 : 0 ≤ k) : SK (u2 (u2 (u2 m (o + 1) k.toNat (ii d)) (o + 2) k.toNat (ii x)) o 2 (ii (k + 1))) o (k + 1) (upI D k d) (upI V k x) := by
  refine ⟨by simp (disch := omega) only [u2_at], fun j h1 h2 => ?_⟩
  by_cases hj : j = k
  · subst hj
    rw [upI_s, upI_s]
    refine ⟨by simp (disch := omega) only [u2_off, u2_at], by simp (disch := omega) only [u2_off, u2_at]⟩
  · rw [upI_n hj, upI_n hj]
    have := h.2 j h1 (by omega)
    refine ⟨by simp (disch := omega) only [u2_off]; exact this.1, by simp (disch := omega) only [u2_off]; exact this.2⟩
theorem RT_put {m : Nat → Nat → Int32} {v : Int → Int} {o a b c : Nat} {x y z : Int32} (ho : o = 4 ∨ o = 68) (hR : RT m v) : RT (u2 (u2 (u2 m (o + 1) a x) (o + 2) b y) o c z) v := RT_fr (fun j hj => by simp (disch := omega) only [u2_offr]) hR
theorem put_67 {m : Nat → Nat → Int32} {o a b c j : Nat} {x y z : Int32} (ho : o = 4 ∨ o = 68) : (u2 (u2 (u2 m (o + 1) a x) (o + 2) b y) o c z) 67 j = m 67 j := by simp (disch := omega) only [u2_off]
theorem packL_loop {v : Int → Int} (hW : WF v) {o : Nat} (hK : oSk o) (ho : o = 4 ∨ o = 68) {way : Int} (hw : way = 0 ∨ way = 1) : ∀ (f n : Nat) (p k : Int) (D V : Int → Int) (μ : mMm), v 0 - p ≤ f → f < n → 0 ≤ p → p ≤ v 0 → 0 ≤ k → k ≤ p → RT μ.1 v → SK μ.1 o k D V → ∃ m', lX4_packByLongest_17 oS n μ 66 o (ii way) (ii (v 1)) (ii p) (ii k) = some (m', μ.2) ∧ (∀ a, a ≠ o → a ≠ o + 1 → a ≠ o + 2 → m' a = μ.1 a) ∧ SK m' o (pkGo v way f p k D V).1 (pkGo v way f p k D V).2.1 (pkGo v way f p k D V).2.2 := by
  have g0 := wf_0 hW
  have g1 := wf_1 hW
  have g3 := wf_3 hW
  intro f
  induction f with
  | zero =>
    intro n p k D V μ h1 h2 h3 h4 h5 h6 hR hS
    obtain ⟨n, rfl⟩ : ∃ k, n = k + 1 := ⟨n - 1, by omega⟩
    have e0 := rs_c hR
    refine ⟨μ.1, ?_, fun _ _ _ _ => rfl, hS⟩
    by_cases hk : 40 ≤ k
    · simp (disch := omega) only [Option.bind_some, km1, k0, k1, k2, k3, k4, k5, k6, k7, k8, k9, k10, k11, k15, k16, k20, k32, k33, k39, k40, k43, k44, k45, k48, k49, k50, k51, k52, k57, k59, k60, k63, k64, k80, k97, k100, k101, k108, k112, k114, k117, k126, k130, k650, k100000, k1000000, ii_add, ii_sub, ii_neg, ii_mul, ii_lt, ii_le, ii_eq, if_true, if_false, if_pos, if_neg, gI_0, gI_1, gI_2, gI_4, gI_7, gI_15, gI_59, gI_61, gI_62, gI_66, gI_68, gI_71, gI_72, gR_0_0, gR_0_1, gR_0_3, gR_0_4, gR_0_5, gR_0_6, gR_0_7, gR_0_8, gR_1_0, gR_1_1, gR_1_2, gR_2_0, gR_4_0, gR_4_1, gR_15_0, gR_59_0, gR_61_0, gR_61_1, gR_61_2, gR_62_0, gR_62_1, gR_62_2, gR_66_0, gR_66_1, gR_68_0, gR_68_1, gR_71_0, gR_72_0, ld_3, ld_5, ld_6, ld_60, ld_63, ld_64, ld_65, ld_67, ld_69, ld_70, ld_73, st_3, st_5, st_6, st_60, st_63, st_64, st_65, st_67, st_69, st_70, st_73, aL_3, aL_5, aL_6, aL_60, aL_63, aL_64, aL_65, aL_67, aL_69, aL_70, aL_73, pI_0, pI_1, pI_2, pI_4, pI_7, pI_15, pI_59, pI_61, pI_62, pI_66, pI_68, pI_71, pI_72, ld_16, aL_16, lX4_packByLongest_17]
    · simp (disch := omega) only [Option.bind_some, km1, k0, k1, k2, k3, k4, k5, k6, k7, k8, k9, k10, k11, k15, k16, k20, k32, k33, k39, k40, k43, k44, k45, k48, k49, k50, k51, k52, k57, k59, k60, k63, k64, k80, k97, k100, k101, k108, k112, k114, k117, k126, k130, k650, k100000, k1000000, ii_add, ii_sub, ii_neg, ii_mul, ii_lt, ii_le, ii_eq, if_true, if_false, if_pos, if_neg, gI_0, gI_1, gI_2, gI_4, gI_7, gI_15, gI_59, gI_61, gI_62, gI_66, gI_68, gI_71, gI_72, gR_0_0, gR_0_1, gR_0_3, gR_0_4, gR_0_5, gR_0_6, gR_0_7, gR_0_8, gR_1_0, gR_1_1, gR_1_2, gR_2_0, gR_4_0, gR_4_1, gR_15_0, gR_59_0, gR_61_0, gR_61_1, gR_61_2, gR_62_0, gR_62_1, gR_62_2, gR_66_0, gR_66_1, gR_68_0, gR_68_1, gR_71_0, gR_72_0, ld_3, ld_5, ld_6, ld_60, ld_63, ld_64, ld_65, ld_67, ld_69, ld_70, ld_73, st_3, st_5, st_6, st_60, st_63, st_64, st_65, st_67, st_69, st_70, st_73, aL_3, aL_5, aL_6, aL_60, aL_63, aL_64, aL_65, aL_67, aL_69, aL_70, aL_73, pI_0, pI_1, pI_2, pI_4, pI_7, pI_15, pI_59, pI_61, pI_62, pI_66, pI_68, pI_71, pI_72, ld_16, aL_16, lX4_packByLongest_17, e0]
  | succ f ih =>
    intro n p k D V μ h1 h2 h3 h4 h5 h6 hR hS
    obtain ⟨n, rfl⟩ : ∃ k, n = k + 1 := ⟨n - 1, by omega⟩
    have e0 := rs_c hR
    unfold pkGo
    by_cases hp : v 0 ≤ p
    · rw [if_pos hp]
      refine ⟨μ.1, ?_, fun _ _ _ _ => rfl, hS⟩
      by_cases hk : 40 ≤ k
      · simp (disch := omega) only [Option.bind_some, km1, k0, k1, k2, k3, k4, k5, k6, k7, k8, k9, k10, k11, k15, k16, k20, k32, k33, k39, k40, k43, k44, k45, k48, k49, k50, k51, k52, k57, k59, k60, k63, k64, k80, k97, k100, k101, k108, k112, k114, k117, k126, k130, k650, k100000, k1000000, ii_add, ii_sub, ii_neg, ii_mul, ii_lt, ii_le, ii_eq, if_true, if_false, if_pos, if_neg, gI_0, gI_1, gI_2, gI_4, gI_7, gI_15, gI_59, gI_61, gI_62, gI_66, gI_68, gI_71, gI_72, gR_0_0, gR_0_1, gR_0_3, gR_0_4, gR_0_5, gR_0_6, gR_0_7, gR_0_8, gR_1_0, gR_1_1, gR_1_2, gR_2_0, gR_4_0, gR_4_1, gR_15_0, gR_59_0, gR_61_0, gR_61_1, gR_61_2, gR_62_0, gR_62_1, gR_62_2, gR_66_0, gR_66_1, gR_68_0, gR_68_1, gR_71_0, gR_72_0, ld_3, ld_5, ld_6, ld_60, ld_63, ld_64, ld_65, ld_67, ld_69, ld_70, ld_73, st_3, st_5, st_6, st_60, st_63, st_64, st_65, st_67, st_69, st_70, st_73, aL_3, aL_5, aL_6, aL_60, aL_63, aL_64, aL_65, aL_67, aL_69, aL_70, aL_73, pI_0, pI_1, pI_2, pI_4, pI_7, pI_15, pI_59, pI_61, pI_62, pI_66, pI_68, pI_71, pI_72, ld_16, aL_16, lX4_packByLongest_17]
      · simp (disch := omega) only [Option.bind_some, km1, k0, k1, k2, k3, k4, k5, k6, k7, k8, k9, k10, k11, k15, k16, k20, k32, k33, k39, k40, k43, k44, k45, k48, k49, k50, k51, k52, k57, k59, k60, k63, k64, k80, k97, k100, k101, k108, k112, k114, k117, k126, k130, k650, k100000, k1000000, ii_add, ii_sub, ii_neg, ii_mul, ii_lt, ii_le, ii_eq, if_true, if_false, if_pos, if_neg, gI_0, gI_1, gI_2, gI_4, gI_7, gI_15, gI_59, gI_61, gI_62, gI_66, gI_68, gI_71, gI_72, gR_0_0, gR_0_1, gR_0_3, gR_0_4, gR_0_5, gR_0_6, gR_0_7, gR_0_8, gR_1_0, gR_1_1, gR_1_2, gR_2_0, gR_4_0, gR_4_1, gR_15_0, gR_59_0, gR_61_0, gR_61_1, gR_61_2, gR_62_0, gR_62_1, gR_62_2, gR_66_0, gR_66_1, gR_68_0, gR_68_1, gR_71_0, gR_72_0, ld_3, ld_5, ld_6, ld_60, ld_63, ld_64, ld_65, ld_67, ld_69, ld_70, ld_73, st_3, st_5, st_6, st_60, st_63, st_64, st_65, st_67, st_69, st_70, st_73, aL_3, aL_5, aL_6, aL_60, aL_63, aL_64, aL_65, aL_67, aL_69, aL_70, aL_73, pI_0, pI_1, pI_2, pI_4, pI_7, pI_15, pI_59, pI_61, pI_62, pI_66, pI_68, pI_71, pI_72, ld_16, aL_16, lX4_packByLongest_17, e0]
    · rw [if_neg hp]
      have hlo := longest_at hR hW (p := p) (w := v 1) h3 (by omega) (by omega) (by omega)
      have hlo1 := longest_at hR hW (p := p + 1) (w := v 1) (by omega) (by omega) (by omega) (by omega)
      have hb := lng_b hW (p := p) (w := v 1) h3
      have hb1 := lng_b hW (p := p + 1) (w := v 1) (by omega)
      -- the length that the class takes
      have key : ∀ x, x = plen v way p → ∃ m', lX4_packByLongest_75 (lX4_packByLongest_17 oS n) oS μ 66 o (ii way) (ii (v 1)) (ii p) (ii k) (ii x) = some (m', μ.2) ∧ (∀ a, a ≠ o → a ≠ o + 1 → a ≠ o + 2 → m' a = μ.1 a) ∧ SK m' o (pkGo v way f (p + (if plen v way p = 0 then 1 else plen v way p)) (k + 1) (upI D k (if plen v way p = 0 then 0 else dst v p (plen v way p))) (upI V k (if plen v way p = 0 then tx v p else plen v way p))).1 (pkGo v way f (p + (if plen v way p = 0 then 1 else plen v way p)) (k + 1) (upI D k (if plen v way p = 0 then 0 else dst v p (plen v way p))) (upI V k (if plen v way p = 0 then tx v p else plen v way p))).2.1 (pkGo v way f (p + (if plen v way p = 0 then 1 else plen v way p)) (k + 1) (upI D k (if plen v way p = 0 then 0 else dst v p (plen v way p))) (upI V k (if plen v way p = 0 then tx v p else plen v way p))).2.2 := fun x hx => by
        subst hx
        by_cases hl : plen v way p = 0
        · rw [if_pos hl, if_pos hl, if_pos hl, hl]
          have hput := putL_at hK hR hW h3 (by omega) hS.1 h5 (by omega)
          obtain ⟨m', j1, j2, j3⟩ := ih n (p + 1) (k + 1) (upI D k 0) (upI V k (tx v p)) (u2 (u2 (u2 μ.1 (o + 1) k.toNat (ii 0)) (o + 2) k.toNat (ii (tx v p))) o 2 (ii (k + 1)), μ.2) (by push_cast at h1; omega) (by omega) (by omega) (by omega) (by omega) (by omega) (RT_put ho hR) (SK_put hS h5)
          refine ⟨m', ?_, fun a ha hb hc => (j2 a ha hb hc).trans (by simp (disch := omega) only [u2_offr]), j3⟩
          rw [← j1]
          simp (disch := omega) only [Option.bind_some, km1, k0, k1, k2, k3, k4, k5, k6, k7, k8, k9, k10, k11, k15, k16, k20, k32, k33, k39, k40, k43, k44, k45, k48, k49, k50, k51, k52, k57, k59, k60, k63, k64, k80, k97, k100, k101, k108, k112, k114, k117, k126, k130, k650, k100000, k1000000, ii_add, ii_sub, ii_neg, ii_mul, ii_lt, ii_le, ii_eq, if_true, if_false, if_pos, if_neg, gI_0, gI_1, gI_2, gI_4, gI_7, gI_15, gI_59, gI_61, gI_62, gI_66, gI_68, gI_71, gI_72, gR_0_0, gR_0_1, gR_0_3, gR_0_4, gR_0_5, gR_0_6, gR_0_7, gR_0_8, gR_1_0, gR_1_1, gR_1_2, gR_2_0, gR_4_0, gR_4_1, gR_15_0, gR_59_0, gR_61_0, gR_61_1, gR_61_2, gR_62_0, gR_62_1, gR_62_2, gR_66_0, gR_66_1, gR_68_0, gR_68_1, gR_71_0, gR_72_0, ld_3, ld_5, ld_6, ld_60, ld_63, ld_64, ld_65, ld_67, ld_69, ld_70, ld_73, st_3, st_5, st_6, st_60, st_63, st_64, st_65, st_67, st_69, st_70, st_73, aL_3, aL_5, aL_6, aL_60, aL_63, aL_64, aL_65, aL_67, aL_69, aL_70, aL_73, pI_0, pI_1, pI_2, pI_4, pI_7, pI_15, pI_59, pI_61, pI_62, pI_66, pI_68, pI_71, pI_72, ld_16, aL_16, lX4_packByLongest_75, hput]
        · rw [if_neg hl, if_neg hl, if_neg hl]
          obtain ⟨q1, q2, q3, d0, q4, q5, q6, q7⟩ := plen_e hW h3 (by omega) hl
          have hput := putR_at (k := k) hK hR hW h3 (by omega) (by omega) (by omega) q4 q5 q6 q7 hS.1 h5 (by omega)
          obtain ⟨m', j1, j2, j3⟩ := ih n (p + plen v way p) (k + 1) (upI D k (dst v p (plen v way p))) (upI V k (plen v way p)) (u2 (u2 (u2 μ.1 (o + 1) k.toNat (ii (dst v p (plen v way p)))) (o + 2) k.toNat (ii (plen v way p))) o 2 (ii (k + 1)), μ.2) (by push_cast at h1; omega) (by omega) (by omega) (by omega) (by omega) (by omega) (RT_put ho hR) (SK_put hS h5)
          refine ⟨m', ?_, fun a ha hb hc => (j2 a ha hb hc).trans (by simp (disch := omega) only [u2_offr]), j3⟩
          rw [← j1]
          simp (disch := omega) only [Option.bind_some, km1, k0, k1, k2, k3, k4, k5, k6, k7, k8, k9, k10, k11, k15, k16, k20, k32, k33, k39, k40, k43, k44, k45, k48, k49, k50, k51, k52, k57, k59, k60, k63, k64, k80, k97, k100, k101, k108, k112, k114, k117, k126, k130, k650, k100000, k1000000, ii_add, ii_sub, ii_neg, ii_mul, ii_lt, ii_le, ii_eq, if_true, if_false, if_pos, if_neg, gI_0, gI_1, gI_2, gI_4, gI_7, gI_15, gI_59, gI_61, gI_62, gI_66, gI_68, gI_71, gI_72, gR_0_0, gR_0_1, gR_0_3, gR_0_4, gR_0_5, gR_0_6, gR_0_7, gR_0_8, gR_1_0, gR_1_1, gR_1_2, gR_2_0, gR_4_0, gR_4_1, gR_15_0, gR_59_0, gR_61_0, gR_61_1, gR_61_2, gR_62_0, gR_62_1, gR_62_2, gR_66_0, gR_66_1, gR_68_0, gR_68_1, gR_71_0, gR_72_0, ld_3, ld_5, ld_6, ld_60, ld_63, ld_64, ld_65, ld_67, ld_69, ld_70, ld_73, st_3, st_5, st_6, st_60, st_63, st_64, st_65, st_67, st_69, st_70, st_73, aL_3, aL_5, aL_6, aL_60, aL_63, aL_64, aL_65, aL_67, aL_69, aL_70, aL_73, pI_0, pI_1, pI_2, pI_4, pI_7, pI_15, pI_59, pI_61, pI_62, pI_66, pI_68, pI_71, pI_72, ld_16, aL_16, lX4_packByLongest_75, hput]
      rcases hw with rfl | rfl
      · obtain ⟨m', j1, j2⟩ := key (lng v p (v 1)) (by unfold plen; rw [if_neg (by omega), if_neg (by omega)])
        refine ⟨m', ?_, j2⟩
        rw [← j1]
        simp (disch := omega) only [Option.bind_some, km1, k0, k1, k2, k3, k4, k5, k6, k7, k8, k9, k10, k11, k15, k16, k20, k32, k33, k39, k40, k43, k44, k45, k48, k49, k50, k51, k52, k57, k59, k60, k63, k64, k80, k97, k100, k101, k108, k112, k114, k117, k126, k130, k650, k100000, k1000000, ii_add, ii_sub, ii_neg, ii_mul, ii_lt, ii_le, ii_eq, if_true, if_false, if_pos, if_neg, gI_0, gI_1, gI_2, gI_4, gI_7, gI_15, gI_59, gI_61, gI_62, gI_66, gI_68, gI_71, gI_72, gR_0_0, gR_0_1, gR_0_3, gR_0_4, gR_0_5, gR_0_6, gR_0_7, gR_0_8, gR_1_0, gR_1_1, gR_1_2, gR_2_0, gR_4_0, gR_4_1, gR_15_0, gR_59_0, gR_61_0, gR_61_1, gR_61_2, gR_62_0, gR_62_1, gR_62_2, gR_66_0, gR_66_1, gR_68_0, gR_68_1, gR_71_0, gR_72_0, ld_3, ld_5, ld_6, ld_60, ld_63, ld_64, ld_65, ld_67, ld_69, ld_70, ld_73, st_3, st_5, st_6, st_60, st_63, st_64, st_65, st_67, st_69, st_70, st_73, aL_3, aL_5, aL_6, aL_60, aL_63, aL_64, aL_65, aL_67, aL_69, aL_70, aL_73, pI_0, pI_1, pI_2, pI_4, pI_7, pI_15, pI_59, pI_61, pI_62, pI_66, pI_68, pI_71, pI_72, ld_16, aL_16, lX4_packByLongest_17, e0, hlo]
      · by_cases hlz : lng v p (v 1) < lng v (p + 1) (v 1)
        · obtain ⟨m', j1, j2⟩ := key 0 (by unfold plen; rw [if_neg (by omega), if_pos ⟨rfl, hlz⟩])
          refine ⟨m', ?_, j2⟩
          rw [← j1]
          simp (disch := omega) only [Option.bind_some, km1, k0, k1, k2, k3, k4, k5, k6, k7, k8, k9, k10, k11, k15, k16, k20, k32, k33, k39, k40, k43, k44, k45, k48, k49, k50, k51, k52, k57, k59, k60, k63, k64, k80, k97, k100, k101, k108, k112, k114, k117, k126, k130, k650, k100000, k1000000, ii_add, ii_sub, ii_neg, ii_mul, ii_lt, ii_le, ii_eq, if_true, if_false, if_pos, if_neg, gI_0, gI_1, gI_2, gI_4, gI_7, gI_15, gI_59, gI_61, gI_62, gI_66, gI_68, gI_71, gI_72, gR_0_0, gR_0_1, gR_0_3, gR_0_4, gR_0_5, gR_0_6, gR_0_7, gR_0_8, gR_1_0, gR_1_1, gR_1_2, gR_2_0, gR_4_0, gR_4_1, gR_15_0, gR_59_0, gR_61_0, gR_61_1, gR_61_2, gR_62_0, gR_62_1, gR_62_2, gR_66_0, gR_66_1, gR_68_0, gR_68_1, gR_71_0, gR_72_0, ld_3, ld_5, ld_6, ld_60, ld_63, ld_64, ld_65, ld_67, ld_69, ld_70, ld_73, st_3, st_5, st_6, st_60, st_63, st_64, st_65, st_67, st_69, st_70, st_73, aL_3, aL_5, aL_6, aL_60, aL_63, aL_64, aL_65, aL_67, aL_69, aL_70, aL_73, pI_0, pI_1, pI_2, pI_4, pI_7, pI_15, pI_59, pI_61, pI_62, pI_66, pI_68, pI_71, pI_72, ld_16, aL_16, lX4_packByLongest_17, e0, hlo, hlo1]
        · obtain ⟨m', j1, j2⟩ := key (lng v p (v 1)) (by unfold plen; rw [if_neg (by omega), if_neg (by omega)])
          refine ⟨m', ?_, j2⟩
          rw [← j1]
          simp (disch := omega) only [Option.bind_some, km1, k0, k1, k2, k3, k4, k5, k6, k7, k8, k9, k10, k11, k15, k16, k20, k32, k33, k39, k40, k43, k44, k45, k48, k49, k50, k51, k52, k57, k59, k60, k63, k64, k80, k97, k100, k101, k108, k112, k114, k117, k126, k130, k650, k100000, k1000000, ii_add, ii_sub, ii_neg, ii_mul, ii_lt, ii_le, ii_eq, if_true, if_false, if_pos, if_neg, gI_0, gI_1, gI_2, gI_4, gI_7, gI_15, gI_59, gI_61, gI_62, gI_66, gI_68, gI_71, gI_72, gR_0_0, gR_0_1, gR_0_3, gR_0_4, gR_0_5, gR_0_6, gR_0_7, gR_0_8, gR_1_0, gR_1_1, gR_1_2, gR_2_0, gR_4_0, gR_4_1, gR_15_0, gR_59_0, gR_61_0, gR_61_1, gR_61_2, gR_62_0, gR_62_1, gR_62_2, gR_66_0, gR_66_1, gR_68_0, gR_68_1, gR_71_0, gR_72_0, ld_3, ld_5, ld_6, ld_60, ld_63, ld_64, ld_65, ld_67, ld_69, ld_70, ld_73, st_3, st_5, st_6, st_60, st_63, st_64, st_65, st_67, st_69, st_70, st_73, aL_3, aL_5, aL_6, aL_60, aL_63, aL_64, aL_65, aL_67, aL_69, aL_70, aL_73, pI_0, pI_1, pI_2, pI_4, pI_7, pI_15, pI_59, pI_61, pI_62, pI_66, pI_68, pI_71, pI_72, ld_16, aL_16, lX4_packByLongest_17, e0, hlo, hlo1]
theorem cheap_loop {μ : mMm} {v : Int → Int} (hW : WF v) (hR : RT μ.1 v) {p : Int} (hp0 : 0 ≤ p) (hp : p < v 0) (hB : ∀ k, 0 ≤ k → k ≤ v 0 → μ.1 67 k.toNat = ii (cst v (v 1) k)) : ∀ (f n : Nat) (l : Int), l < f → f < n → -1 ≤ l → l ≤ 9 → p + l ≤ v 0 → lX4_cheapestLength_21 oS μ n 66 (ii p) (ii l) = some (ii (eLen v (cst v (v 1)) p f l)) := by
  have g0 := wf_0 hW
  have g2 := wf_2 hW
  have g5 := wf_5 hW
  have e2 := rs_s hR
  have e5 := rs_rp hR
  intro f
  induction f with
  | zero =>
    intro n l h1 h2 h3 h4 h5
    obtain ⟨n, rfl⟩ : ∃ k, n = k + 1 := ⟨n - 1, by omega⟩
    simp (disch := omega) only [Option.bind_some, km1, k0, k1, k2, k3, k4, k5, k6, k7, k8, k9, k10, k11, k15, k16, k20, k32, k33, k39, k40, k43, k44, k45, k48, k49, k50, k51, k52, k57, k59, k60, k63, k64, k80, k97, k100, k101, k108, k112, k114, k117, k126, k130, k650, k100000, k1000000, ii_add, ii_sub, ii_neg, ii_mul, ii_lt, ii_le, ii_eq, if_true, if_false, if_pos, if_neg, gI_0, gI_1, gI_2, gI_4, gI_7, gI_15, gI_59, gI_61, gI_62, gI_66, gI_68, gI_71, gI_72, gR_0_0, gR_0_1, gR_0_3, gR_0_4, gR_0_5, gR_0_6, gR_0_7, gR_0_8, gR_1_0, gR_1_1, gR_1_2, gR_2_0, gR_4_0, gR_4_1, gR_15_0, gR_59_0, gR_61_0, gR_61_1, gR_61_2, gR_62_0, gR_62_1, gR_62_2, gR_66_0, gR_66_1, gR_68_0, gR_68_1, gR_71_0, gR_72_0, ld_3, ld_5, ld_6, ld_60, ld_63, ld_64, ld_65, ld_67, ld_69, ld_70, ld_73, st_3, st_5, st_6, st_60, st_63, st_64, st_65, st_67, st_69, st_70, st_73, aL_3, aL_5, aL_6, aL_60, aL_63, aL_64, aL_65, aL_67, aL_69, aL_70, aL_73, pI_0, pI_1, pI_2, pI_4, pI_7, pI_15, pI_59, pI_61, pI_62, pI_66, pI_68, pI_71, pI_72, ld_16, aL_16, lX4_cheapestLength_21, e2, eLen]
  | succ f ih =>
    intro n l h1 h2 h3 h4 h5
    obtain ⟨n, rfl⟩ : ∃ k, n = k + 1 := ⟨n - 1, by omega⟩
    unfold eLen
    by_cases hl : l < v 2
    · rw [if_pos hl]
      simp (disch := omega) only [Option.bind_some, km1, k0, k1, k2, k3, k4, k5, k6, k7, k8, k9, k10, k11, k15, k16, k20, k32, k33, k39, k40, k43, k44, k45, k48, k49, k50, k51, k52, k57, k59, k60, k63, k64, k80, k97, k100, k101, k108, k112, k114, k117, k126, k130, k650, k100000, k1000000, ii_add, ii_sub, ii_neg, ii_mul, ii_lt, ii_le, ii_eq, if_true, if_false, if_pos, if_neg, gI_0, gI_1, gI_2, gI_4, gI_7, gI_15, gI_59, gI_61, gI_62, gI_66, gI_68, gI_71, gI_72, gR_0_0, gR_0_1, gR_0_3, gR_0_4, gR_0_5, gR_0_6, gR_0_7, gR_0_8, gR_1_0, gR_1_1, gR_1_2, gR_2_0, gR_4_0, gR_4_1, gR_15_0, gR_59_0, gR_61_0, gR_61_1, gR_61_2, gR_62_0, gR_62_1, gR_62_2, gR_66_0, gR_66_1, gR_68_0, gR_68_1, gR_71_0, gR_72_0, ld_3, ld_5, ld_6, ld_60, ld_63, ld_64, ld_65, ld_67, ld_69, ld_70, ld_73, st_3, st_5, st_6, st_60, st_63, st_64, st_65, st_67, st_69, st_70, st_73, aL_3, aL_5, aL_6, aL_60, aL_63, aL_64, aL_65, aL_67, aL_69, aL_70, aL_73, pI_0, pI_1, pI_2, pI_4, pI_7, pI_15, pI_59, pI_61, pI_62, pI_66, pI_68, pI_71, pI_72, ld_16, aL_16, lX4_cheapestLength_21, e2]
    · rw [if_neg hl]
      have c1 := hB (p + l) (by omega) h5
      have c2 := hB p hp0 (by omega)
      have b1 := cst_b hW (v 1) (k := p + l) (by omega) h5
      have b2 := cst_b hW (v 1) (k := p) hp0 (by omega)
      by_cases hc : v 5 + cst v (v 1) (p + l) = cst v (v 1) p
      · rw [if_pos hc]
        simp (disch := omega) only [Option.bind_some, km1, k0, k1, k2, k3, k4, k5, k6, k7, k8, k9, k10, k11, k15, k16, k20, k32, k33, k39, k40, k43, k44, k45, k48, k49, k50, k51, k52, k57, k59, k60, k63, k64, k80, k97, k100, k101, k108, k112, k114, k117, k126, k130, k650, k100000, k1000000, ii_add, ii_sub, ii_neg, ii_mul, ii_lt, ii_le, ii_eq, if_true, if_false, if_pos, if_neg, gI_0, gI_1, gI_2, gI_4, gI_7, gI_15, gI_59, gI_61, gI_62, gI_66, gI_68, gI_71, gI_72, gR_0_0, gR_0_1, gR_0_3, gR_0_4, gR_0_5, gR_0_6, gR_0_7, gR_0_8, gR_1_0, gR_1_1, gR_1_2, gR_2_0, gR_4_0, gR_4_1, gR_15_0, gR_59_0, gR_61_0, gR_61_1, gR_61_2, gR_62_0, gR_62_1, gR_62_2, gR_66_0, gR_66_1, gR_68_0, gR_68_1, gR_71_0, gR_72_0, ld_3, ld_5, ld_6, ld_60, ld_63, ld_64, ld_65, ld_67, ld_69, ld_70, ld_73, st_3, st_5, st_6, st_60, st_63, st_64, st_65, st_67, st_69, st_70, st_73, aL_3, aL_5, aL_6, aL_60, aL_63, aL_64, aL_65, aL_67, aL_69, aL_70, aL_73, pI_0, pI_1, pI_2, pI_4, pI_7, pI_15, pI_59, pI_61, pI_62, pI_66, pI_68, pI_71, pI_72, ld_16, aL_16, lX4_cheapestLength_21, e2, e5, costAt_at, c1, c2]
      · rw [if_neg hc]
        have hI := ih n (l - 1) (by push_cast at h1; omega) (by omega) (by omega) (by omega) (by omega)
        rw [show l - 1 = l + -1 by omega] at hI ⊢
        simp (disch := omega) only [Option.bind_some, km1, k0, k1, k2, k3, k4, k5, k6, k7, k8, k9, k10, k11, k15, k16, k20, k32, k33, k39, k40, k43, k44, k45, k48, k49, k50, k51, k52, k57, k59, k60, k63, k64, k80, k97, k100, k101, k108, k112, k114, k117, k126, k130, k650, k100000, k1000000, ii_add, ii_sub, ii_neg, ii_mul, ii_lt, ii_le, ii_eq, if_true, if_false, if_pos, if_neg, gI_0, gI_1, gI_2, gI_4, gI_7, gI_15, gI_59, gI_61, gI_62, gI_66, gI_68, gI_71, gI_72, gR_0_0, gR_0_1, gR_0_3, gR_0_4, gR_0_5, gR_0_6, gR_0_7, gR_0_8, gR_1_0, gR_1_1, gR_1_2, gR_2_0, gR_4_0, gR_4_1, gR_15_0, gR_59_0, gR_61_0, gR_61_1, gR_61_2, gR_62_0, gR_62_1, gR_62_2, gR_66_0, gR_66_1, gR_68_0, gR_68_1, gR_71_0, gR_72_0, ld_3, ld_5, ld_6, ld_60, ld_63, ld_64, ld_65, ld_67, ld_69, ld_70, ld_73, st_3, st_5, st_6, st_60, st_63, st_64, st_65, st_67, st_69, st_70, st_73, aL_3, aL_5, aL_6, aL_60, aL_63, aL_64, aL_65, aL_67, aL_69, aL_70, aL_73, pI_0, pI_1, pI_2, pI_4, pI_7, pI_15, pI_59, pI_61, pI_62, pI_66, pI_68, pI_71, pI_72, ld_16, aL_16, lX4_cheapestLength_21, e2, e5, costAt_at, c1, c2]
        exact hI
theorem packC_loop {v : Int → Int} (hW : WF v) {o : Nat} (hK : oSk o) (ho : o = 4 ∨ o = 68) : ∀ (f n : Nat) (p k : Int) (D V : Int → Int) (μ : mMm), v 0 - p ≤ f → f < n → 0 ≤ p → p ≤ v 0 → 0 ≤ k → k ≤ p → RT μ.1 v → (∀ k, 0 ≤ k → k ≤ v 0 → μ.1 67 k.toNat = ii (cst v (v 1) k)) → SK μ.1 o k D V → ∃ m', lX4_packCheaply_19 oS n μ 66 o (ii p) (ii k) = some (m', μ.2) ∧ (∀ a, a ≠ o → a ≠ o + 1 → a ≠ o + 2 → m' a = μ.1 a) ∧ SK m' o (pkGo v 2 f p k D V).1 (pkGo v 2 f p k D V).2.1 (pkGo v 2 f p k D V).2.2 := by
  have g0 := wf_0 hW
  have g1 := wf_1 hW
  have g3 := wf_3 hW
  intro f
  induction f with
  | zero =>
    intro n p k D V μ h1 h2 h3 h4 h5 h6 hR hB hS
    obtain ⟨n, rfl⟩ : ∃ k, n = k + 1 := ⟨n - 1, by omega⟩
    have e0 := rs_c hR
    refine ⟨μ.1, ?_, fun _ _ _ _ => rfl, hS⟩
    by_cases hk : 40 ≤ k
    · simp (disch := omega) only [Option.bind_some, km1, k0, k1, k2, k3, k4, k5, k6, k7, k8, k9, k10, k11, k15, k16, k20, k32, k33, k39, k40, k43, k44, k45, k48, k49, k50, k51, k52, k57, k59, k60, k63, k64, k80, k97, k100, k101, k108, k112, k114, k117, k126, k130, k650, k100000, k1000000, ii_add, ii_sub, ii_neg, ii_mul, ii_lt, ii_le, ii_eq, if_true, if_false, if_pos, if_neg, gI_0, gI_1, gI_2, gI_4, gI_7, gI_15, gI_59, gI_61, gI_62, gI_66, gI_68, gI_71, gI_72, gR_0_0, gR_0_1, gR_0_3, gR_0_4, gR_0_5, gR_0_6, gR_0_7, gR_0_8, gR_1_0, gR_1_1, gR_1_2, gR_2_0, gR_4_0, gR_4_1, gR_15_0, gR_59_0, gR_61_0, gR_61_1, gR_61_2, gR_62_0, gR_62_1, gR_62_2, gR_66_0, gR_66_1, gR_68_0, gR_68_1, gR_71_0, gR_72_0, ld_3, ld_5, ld_6, ld_60, ld_63, ld_64, ld_65, ld_67, ld_69, ld_70, ld_73, st_3, st_5, st_6, st_60, st_63, st_64, st_65, st_67, st_69, st_70, st_73, aL_3, aL_5, aL_6, aL_60, aL_63, aL_64, aL_65, aL_67, aL_69, aL_70, aL_73, pI_0, pI_1, pI_2, pI_4, pI_7, pI_15, pI_59, pI_61, pI_62, pI_66, pI_68, pI_71, pI_72, ld_16, aL_16, lX4_packCheaply_19]
    · simp (disch := omega) only [Option.bind_some, km1, k0, k1, k2, k3, k4, k5, k6, k7, k8, k9, k10, k11, k15, k16, k20, k32, k33, k39, k40, k43, k44, k45, k48, k49, k50, k51, k52, k57, k59, k60, k63, k64, k80, k97, k100, k101, k108, k112, k114, k117, k126, k130, k650, k100000, k1000000, ii_add, ii_sub, ii_neg, ii_mul, ii_lt, ii_le, ii_eq, if_true, if_false, if_pos, if_neg, gI_0, gI_1, gI_2, gI_4, gI_7, gI_15, gI_59, gI_61, gI_62, gI_66, gI_68, gI_71, gI_72, gR_0_0, gR_0_1, gR_0_3, gR_0_4, gR_0_5, gR_0_6, gR_0_7, gR_0_8, gR_1_0, gR_1_1, gR_1_2, gR_2_0, gR_4_0, gR_4_1, gR_15_0, gR_59_0, gR_61_0, gR_61_1, gR_61_2, gR_62_0, gR_62_1, gR_62_2, gR_66_0, gR_66_1, gR_68_0, gR_68_1, gR_71_0, gR_72_0, ld_3, ld_5, ld_6, ld_60, ld_63, ld_64, ld_65, ld_67, ld_69, ld_70, ld_73, st_3, st_5, st_6, st_60, st_63, st_64, st_65, st_67, st_69, st_70, st_73, aL_3, aL_5, aL_6, aL_60, aL_63, aL_64, aL_65, aL_67, aL_69, aL_70, aL_73, pI_0, pI_1, pI_2, pI_4, pI_7, pI_15, pI_59, pI_61, pI_62, pI_66, pI_68, pI_71, pI_72, ld_16, aL_16, lX4_packCheaply_19, e0]
  | succ f ih =>
    intro n p k D V μ h1 h2 h3 h4 h5 h6 hR hB hS
    obtain ⟨n, rfl⟩ : ∃ k, n = k + 1 := ⟨n - 1, by omega⟩
    have e0 := rs_c hR
    unfold pkGo
    by_cases hp : v 0 ≤ p
    · rw [if_pos hp]
      refine ⟨μ.1, ?_, fun _ _ _ _ => rfl, hS⟩
      by_cases hk : 40 ≤ k
      · simp (disch := omega) only [Option.bind_some, km1, k0, k1, k2, k3, k4, k5, k6, k7, k8, k9, k10, k11, k15, k16, k20, k32, k33, k39, k40, k43, k44, k45, k48, k49, k50, k51, k52, k57, k59, k60, k63, k64, k80, k97, k100, k101, k108, k112, k114, k117, k126, k130, k650, k100000, k1000000, ii_add, ii_sub, ii_neg, ii_mul, ii_lt, ii_le, ii_eq, if_true, if_false, if_pos, if_neg, gI_0, gI_1, gI_2, gI_4, gI_7, gI_15, gI_59, gI_61, gI_62, gI_66, gI_68, gI_71, gI_72, gR_0_0, gR_0_1, gR_0_3, gR_0_4, gR_0_5, gR_0_6, gR_0_7, gR_0_8, gR_1_0, gR_1_1, gR_1_2, gR_2_0, gR_4_0, gR_4_1, gR_15_0, gR_59_0, gR_61_0, gR_61_1, gR_61_2, gR_62_0, gR_62_1, gR_62_2, gR_66_0, gR_66_1, gR_68_0, gR_68_1, gR_71_0, gR_72_0, ld_3, ld_5, ld_6, ld_60, ld_63, ld_64, ld_65, ld_67, ld_69, ld_70, ld_73, st_3, st_5, st_6, st_60, st_63, st_64, st_65, st_67, st_69, st_70, st_73, aL_3, aL_5, aL_6, aL_60, aL_63, aL_64, aL_65, aL_67, aL_69, aL_70, aL_73, pI_0, pI_1, pI_2, pI_4, pI_7, pI_15, pI_59, pI_61, pI_62, pI_66, pI_68, pI_71, pI_72, ld_16, aL_16, lX4_packCheaply_19]
      · simp (disch := omega) only [Option.bind_some, km1, k0, k1, k2, k3, k4, k5, k6, k7, k8, k9, k10, k11, k15, k16, k20, k32, k33, k39, k40, k43, k44, k45, k48, k49, k50, k51, k52, k57, k59, k60, k63, k64, k80, k97, k100, k101, k108, k112, k114, k117, k126, k130, k650, k100000, k1000000, ii_add, ii_sub, ii_neg, ii_mul, ii_lt, ii_le, ii_eq, if_true, if_false, if_pos, if_neg, gI_0, gI_1, gI_2, gI_4, gI_7, gI_15, gI_59, gI_61, gI_62, gI_66, gI_68, gI_71, gI_72, gR_0_0, gR_0_1, gR_0_3, gR_0_4, gR_0_5, gR_0_6, gR_0_7, gR_0_8, gR_1_0, gR_1_1, gR_1_2, gR_2_0, gR_4_0, gR_4_1, gR_15_0, gR_59_0, gR_61_0, gR_61_1, gR_61_2, gR_62_0, gR_62_1, gR_62_2, gR_66_0, gR_66_1, gR_68_0, gR_68_1, gR_71_0, gR_72_0, ld_3, ld_5, ld_6, ld_60, ld_63, ld_64, ld_65, ld_67, ld_69, ld_70, ld_73, st_3, st_5, st_6, st_60, st_63, st_64, st_65, st_67, st_69, st_70, st_73, aL_3, aL_5, aL_6, aL_60, aL_63, aL_64, aL_65, aL_67, aL_69, aL_70, aL_73, pI_0, pI_1, pI_2, pI_4, pI_7, pI_15, pI_59, pI_61, pI_62, pI_66, pI_68, pI_71, pI_72, ld_16, aL_16, lX4_packCheaply_19, e0]
    · rw [if_neg hp]
      have e1 := rs_w hR
      have hlo := longest_at hR hW (p := p) (w := v 1) h3 (by omega) (by omega) (by omega)
      have hb := lng_b hW (p := p) (w := v 1) h3
      have hbe := lng_e hW (p := p) (w := v 1) h3 (by omega)
      have hch : fX4_cheapestLength oS μ 66 (ii p) = some (ii (plen v 2 p)) := by
        have hl := cheap_loop hW hR h3 (by omega) hB 12 FU (lng v p (v 1)) (by omega) (by decide) (by omega) (by omega) hbe
        unfold fX4_cheapestLength bX4_cheapestLength plen
        simp (disch := omega) only [Option.bind_some, km1, k0, k1, k2, k3, k4, k5, k6, k7, k8, k9, k10, k11, k15, k16, k20, k32, k33, k39, k40, k43, k44, k45, k48, k49, k50, k51, k52, k57, k59, k60, k63, k64, k80, k97, k100, k101, k108, k112, k114, k117, k126, k130, k650, k100000, k1000000, ii_add, ii_sub, ii_neg, ii_mul, ii_lt, ii_le, ii_eq, if_true, if_false, if_pos, if_neg, gI_0, gI_1, gI_2, gI_4, gI_7, gI_15, gI_59, gI_61, gI_62, gI_66, gI_68, gI_71, gI_72, gR_0_0, gR_0_1, gR_0_3, gR_0_4, gR_0_5, gR_0_6, gR_0_7, gR_0_8, gR_1_0, gR_1_1, gR_1_2, gR_2_0, gR_4_0, gR_4_1, gR_15_0, gR_59_0, gR_61_0, gR_61_1, gR_61_2, gR_62_0, gR_62_1, gR_62_2, gR_66_0, gR_66_1, gR_68_0, gR_68_1, gR_71_0, gR_72_0, ld_3, ld_5, ld_6, ld_60, ld_63, ld_64, ld_65, ld_67, ld_69, ld_70, ld_73, st_3, st_5, st_6, st_60, st_63, st_64, st_65, st_67, st_69, st_70, st_73, aL_3, aL_5, aL_6, aL_60, aL_63, aL_64, aL_65, aL_67, aL_69, aL_70, aL_73, pI_0, pI_1, pI_2, pI_4, pI_7, pI_15, pI_59, pI_61, pI_62, pI_66, pI_68, pI_71, pI_72, ld_16, aL_16, if_pos o66, e1, hlo]
        exact hl
      by_cases hl : plen v 2 p = 0
      · rw [if_pos hl, if_pos hl, if_pos hl]
        rw [hl] at hch
        have hput := putL_at hK hR hW h3 (by omega) hS.1 h5 (by omega)
        obtain ⟨m', j1, j2, j3⟩ := ih n (p + 1) (k + 1) (upI D k 0) (upI V k (tx v p)) (u2 (u2 (u2 μ.1 (o + 1) k.toNat (ii 0)) (o + 2) k.toNat (ii (tx v p))) o 2 (ii (k + 1)), μ.2) (by push_cast at h1; omega) (by omega) (by omega) (by omega) (by omega) (by omega) (RT_put ho hR) (fun k hk0 hk1 => (put_67 ho).trans (hB k hk0 hk1)) (SK_put hS h5)
        refine ⟨m', ?_, fun a ha hb hc => (j2 a ha hb hc).trans (by simp (disch := omega) only [u2_offr]), j3⟩
        rw [← j1]
        simp (disch := omega) only [Option.bind_some, km1, k0, k1, k2, k3, k4, k5, k6, k7, k8, k9, k10, k11, k15, k16, k20, k32, k33, k39, k40, k43, k44, k45, k48, k49, k50, k51, k52, k57, k59, k60, k63, k64, k80, k97, k100, k101, k108, k112, k114, k117, k126, k130, k650, k100000, k1000000, ii_add, ii_sub, ii_neg, ii_mul, ii_lt, ii_le, ii_eq, if_true, if_false, if_pos, if_neg, gI_0, gI_1, gI_2, gI_4, gI_7, gI_15, gI_59, gI_61, gI_62, gI_66, gI_68, gI_71, gI_72, gR_0_0, gR_0_1, gR_0_3, gR_0_4, gR_0_5, gR_0_6, gR_0_7, gR_0_8, gR_1_0, gR_1_1, gR_1_2, gR_2_0, gR_4_0, gR_4_1, gR_15_0, gR_59_0, gR_61_0, gR_61_1, gR_61_2, gR_62_0, gR_62_1, gR_62_2, gR_66_0, gR_66_1, gR_68_0, gR_68_1, gR_71_0, gR_72_0, ld_3, ld_5, ld_6, ld_60, ld_63, ld_64, ld_65, ld_67, ld_69, ld_70, ld_73, st_3, st_5, st_6, st_60, st_63, st_64, st_65, st_67, st_69, st_70, st_73, aL_3, aL_5, aL_6, aL_60, aL_63, aL_64, aL_65, aL_67, aL_69, aL_70, aL_73, pI_0, pI_1, pI_2, pI_4, pI_7, pI_15, pI_59, pI_61, pI_62, pI_66, pI_68, pI_71, pI_72, ld_16, aL_16, lX4_packCheaply_19, e0, hch, hput]
      · rw [if_neg hl, if_neg hl, if_neg hl]
        obtain ⟨q1, q2, q3, d0, q4, q5, q6, q7⟩ := plen_e hW h3 (by omega) hl
        have hput := putR_at (k := k) hK hR hW h3 (by omega) (by omega) (by omega) q4 q5 q6 q7 hS.1 h5 (by omega)
        obtain ⟨m', j1, j2, j3⟩ := ih n (p + plen v 2 p) (k + 1) (upI D k (dst v p (plen v 2 p))) (upI V k (plen v 2 p)) (u2 (u2 (u2 μ.1 (o + 1) k.toNat (ii (dst v p (plen v 2 p)))) (o + 2) k.toNat (ii (plen v 2 p))) o 2 (ii (k + 1)), μ.2) (by push_cast at h1; omega) (by omega) (by omega) (by omega) (by omega) (by omega) (RT_put ho hR) (fun k hk0 hk1 => (put_67 ho).trans (hB k hk0 hk1)) (SK_put hS h5)
        refine ⟨m', ?_, fun a ha hb hc => (j2 a ha hb hc).trans (by simp (disch := omega) only [u2_offr]), j3⟩
        rw [← j1]
        simp (disch := omega) only [Option.bind_some, km1, k0, k1, k2, k3, k4, k5, k6, k7, k8, k9, k10, k11, k15, k16, k20, k32, k33, k39, k40, k43, k44, k45, k48, k49, k50, k51, k52, k57, k59, k60, k63, k64, k80, k97, k100, k101, k108, k112, k114, k117, k126, k130, k650, k100000, k1000000, ii_add, ii_sub, ii_neg, ii_mul, ii_lt, ii_le, ii_eq, if_true, if_false, if_pos, if_neg, gI_0, gI_1, gI_2, gI_4, gI_7, gI_15, gI_59, gI_61, gI_62, gI_66, gI_68, gI_71, gI_72, gR_0_0, gR_0_1, gR_0_3, gR_0_4, gR_0_5, gR_0_6, gR_0_7, gR_0_8, gR_1_0, gR_1_1, gR_1_2, gR_2_0, gR_4_0, gR_4_1, gR_15_0, gR_59_0, gR_61_0, gR_61_1, gR_61_2, gR_62_0, gR_62_1, gR_62_2, gR_66_0, gR_66_1, gR_68_0, gR_68_1, gR_71_0, gR_72_0, ld_3, ld_5, ld_6, ld_60, ld_63, ld_64, ld_65, ld_67, ld_69, ld_70, ld_73, st_3, st_5, st_6, st_60, st_63, st_64, st_65, st_67, st_69, st_70, st_73, aL_3, aL_5, aL_6, aL_60, aL_63, aL_64, aL_65, aL_67, aL_69, aL_70, aL_73, pI_0, pI_1, pI_2, pI_4, pI_7, pI_15, pI_59, pI_61, pI_62, pI_66, pI_68, pI_71, pI_72, ld_16, aL_16, lX4_packCheaply_19, e0, hch, hput]
theorem packBy_at {μ : mMm} {v : Int → Int} (hR : RT μ.1 v) (hW : WF v) {o : Nat} (hK : oSk o) (ho : o = 4 ∨ o = 68) {way : Int} (hw0 : 0 ≤ way) (hw : way ≤ 2) : ∃ m', fX4_packBy oS μ 66 (ii way) o = some (m', μ.2) ∧ (∀ a, a ≠ o → a ≠ o + 1 → a ≠ o + 2 → a ≠ 67 → m' a = μ.1 a) ∧ SK m' o (pkN v way) (pkD v way) (pkV v way) := by
  have g0 := wf_0 hW
  have g1 := wf_1 hW
  have hcl := sclear_at (μ := μ) hK
  have hR1 : RT (u2 μ.1 o 2 (ii 0)) v := RT_fr (fun j hj => by simp (disch := omega) only [u2_offr]) hR
  have hS1 : SK (u2 μ.1 o 2 (ii 0)) o 0 (fun _ => 0) (fun _ => 0) := ⟨by simp (disch := omega) only [u2_at], fun j h0 h1 => by omega⟩
  have e1 := rs_w hR1
  by_cases h2 : way = 2
  · subst h2
    obtain ⟨m1, i1, i2, i3⟩ := fromEnd_at (μ := (u2 μ.1 o 2 (ii 0), μ.2)) hR1 hW (w := v 1) (by omega) (by omega)
    have hS2 : SK m1 o 0 (fun _ => 0) (fun _ => 0) := ⟨by rw [i2 o (by omega)]; exact hS1.1, fun j h0 h1 => by omega⟩
    obtain ⟨m', j1, j2, j3⟩ := packC_loop hW hK ho 40 FU 0 0 (fun _ => 0) (fun _ => 0) (m1, μ.2) (by omega) (by decide) (by omega) (by omega) (by omega) (by omega) (RT_fr (fun j hj => i2 j (by omega)) hR1) i3 hS2
    refine ⟨m', ?_, fun a ha hb hc hd => (j2 a ha hb hc).trans ((i2 a hd).trans (by simp (disch := omega) only [u2_offr])), j3⟩
    unfold fX4_packBy bX4_packBy fX4_packCheaply bX4_packCheaply
    simp (disch := omega) only [Option.bind_some, km1, k0, k1, k2, k3, k4, k5, k6, k7, k8, k9, k10, k11, k15, k16, k20, k32, k33, k39, k40, k43, k44, k45, k48, k49, k50, k51, k52, k57, k59, k60, k63, k64, k80, k97, k100, k101, k108, k112, k114, k117, k126, k130, k650, k100000, k1000000, ii_add, ii_sub, ii_neg, ii_mul, ii_lt, ii_le, ii_eq, if_true, if_false, if_pos, if_neg, gI_0, gI_1, gI_2, gI_4, gI_7, gI_15, gI_59, gI_61, gI_62, gI_66, gI_68, gI_71, gI_72, gR_0_0, gR_0_1, gR_0_3, gR_0_4, gR_0_5, gR_0_6, gR_0_7, gR_0_8, gR_1_0, gR_1_1, gR_1_2, gR_2_0, gR_4_0, gR_4_1, gR_15_0, gR_59_0, gR_61_0, gR_61_1, gR_61_2, gR_62_0, gR_62_1, gR_62_2, gR_66_0, gR_66_1, gR_68_0, gR_68_1, gR_71_0, gR_72_0, ld_3, ld_5, ld_6, ld_60, ld_63, ld_64, ld_65, ld_67, ld_69, ld_70, ld_73, st_3, st_5, st_6, st_60, st_63, st_64, st_65, st_67, st_69, st_70, st_73, aL_3, aL_5, aL_6, aL_60, aL_63, aL_64, aL_65, aL_67, aL_69, aL_70, aL_73, pI_0, pI_1, pI_2, pI_4, pI_7, pI_15, pI_59, pI_61, pI_62, pI_66, pI_68, pI_71, pI_72, ld_16, aL_16, if_pos o66, hcl, e1, i1, j1]
  · obtain ⟨m', j1, j2, j3⟩ := packL_loop hW hK ho (way := way) (by omega) 40 FU 0 0 (fun _ => 0) (fun _ => 0) (u2 μ.1 o 2 (ii 0), μ.2) (by omega) (by decide) (by omega) (by omega) (by omega) (by omega) hR1 hS1
    refine ⟨m', ?_, fun a ha hb hc _ => (j2 a ha hb hc).trans (by simp (disch := omega) only [u2_offr]), j3⟩
    unfold fX4_packBy bX4_packBy
    by_cases h1 : way = 1
    · subst h1
      simp (disch := omega) only [Option.bind_some, km1, k0, k1, k2, k3, k4, k5, k6, k7, k8, k9, k10, k11, k15, k16, k20, k32, k33, k39, k40, k43, k44, k45, k48, k49, k50, k51, k52, k57, k59, k60, k63, k64, k80, k97, k100, k101, k108, k112, k114, k117, k126, k130, k650, k100000, k1000000, ii_add, ii_sub, ii_neg, ii_mul, ii_lt, ii_le, ii_eq, if_true, if_false, if_pos, if_neg, gI_0, gI_1, gI_2, gI_4, gI_7, gI_15, gI_59, gI_61, gI_62, gI_66, gI_68, gI_71, gI_72, gR_0_0, gR_0_1, gR_0_3, gR_0_4, gR_0_5, gR_0_6, gR_0_7, gR_0_8, gR_1_0, gR_1_1, gR_1_2, gR_2_0, gR_4_0, gR_4_1, gR_15_0, gR_59_0, gR_61_0, gR_61_1, gR_61_2, gR_62_0, gR_62_1, gR_62_2, gR_66_0, gR_66_1, gR_68_0, gR_68_1, gR_71_0, gR_72_0, ld_3, ld_5, ld_6, ld_60, ld_63, ld_64, ld_65, ld_67, ld_69, ld_70, ld_73, st_3, st_5, st_6, st_60, st_63, st_64, st_65, st_67, st_69, st_70, st_73, aL_3, aL_5, aL_6, aL_60, aL_63, aL_64, aL_65, aL_67, aL_69, aL_70, aL_73, pI_0, pI_1, pI_2, pI_4, pI_7, pI_15, pI_59, pI_61, pI_62, pI_66, pI_68, pI_71, pI_72, ld_16, aL_16, if_pos o66, hcl, lX4_packBy_29, fX4_packByLongest, bX4_packByLongest, e1, j1]
    · have h0 : way = 0 := by omega
      subst h0
      simp (disch := omega) only [Option.bind_some, km1, k0, k1, k2, k3, k4, k5, k6, k7, k8, k9, k10, k11, k15, k16, k20, k32, k33, k39, k40, k43, k44, k45, k48, k49, k50, k51, k52, k57, k59, k60, k63, k64, k80, k97, k100, k101, k108, k112, k114, k117, k126, k130, k650, k100000, k1000000, ii_add, ii_sub, ii_neg, ii_mul, ii_lt, ii_le, ii_eq, if_true, if_false, if_pos, if_neg, gI_0, gI_1, gI_2, gI_4, gI_7, gI_15, gI_59, gI_61, gI_62, gI_66, gI_68, gI_71, gI_72, gR_0_0, gR_0_1, gR_0_3, gR_0_4, gR_0_5, gR_0_6, gR_0_7, gR_0_8, gR_1_0, gR_1_1, gR_1_2, gR_2_0, gR_4_0, gR_4_1, gR_15_0, gR_59_0, gR_61_0, gR_61_1, gR_61_2, gR_62_0, gR_62_1, gR_62_2, gR_66_0, gR_66_1, gR_68_0, gR_68_1, gR_71_0, gR_72_0, ld_3, ld_5, ld_6, ld_60, ld_63, ld_64, ld_65, ld_67, ld_69, ld_70, ld_73, st_3, st_5, st_6, st_60, st_63, st_64, st_65, st_67, st_69, st_70, st_73, aL_3, aL_5, aL_6, aL_60, aL_63, aL_64, aL_65, aL_67, aL_69, aL_70, aL_73, pI_0, pI_1, pI_2, pI_4, pI_7, pI_15, pI_59, pI_61, pI_62, pI_66, pI_68, pI_71, pI_72, ld_16, aL_16, if_pos o66, hcl, lX4_packBy_29, fX4_packByLongest, bX4_packByLongest, e1, j1]
