/-! the law's rows: x (74), d (75), v (76), t (77); and what its helpers answer over them -/
def LSh (S : mSh) : Prop := mPf oS S ∧ 78 ≤ mN S ∧ (mok S 74 12 = true ∧ mLn S 74 = 40) ∧ (mok S 75 12 = true ∧ mLn S 75 = 40) ∧ (mok S 76 12 = true ∧ mLn S 76 = 40) ∧ mok S 77 12 = true ∧ mLn S 77 = 7
/-- a row of the law's own, behind those -/
def LRw (S : mSh) (C n : Nat) : Prop := mok S C 12 = true ∧ mLn S C = n ∧ 78 ≤ C
def RQ (m : Nat → Nat → Int32) (v : Int → Int) : Prop := ∀ j : Int, 0 ≤ j → j < 7 → m 77 j.toNat = ii (v j)
def RX (m : Nat → Nat → Int32) (v : Int → Int) : Prop := ∀ k : Int, 0 ≤ k → k < v 0 → m 74 k.toNat = ii (tx v k)
theorem RQ_fr {m m' : Nat → Nat → Int32} {v : Int → Int} (h : m' 77 = m 77) (hQ : RQ m v) : RQ m' v := fun j h0 h1 => by rw [h]; exact hQ j h0 h1
theorem RX_fr {m m' : Nat → Nat → Int32} {v : Int → Int} (h : m' 74 = m 74) (hX : RX m v) : RX m' v := fun j h0 h1 => by rw [h]; exact hX j h0 h1
theorem u2_u2 {f : Nat → Nat → Int32} {i k : Nat} {v w : Int32} : u2 (u2 f i k v) i k w = u2 f i k w := by
  funext a b
  unfold u2
  split <;> (try split) <;> rfl
theorem u2_id {f : Nat → Nat → Int32} {i k : Nat} {v : Int32} (h : f i k = v) : u2 f i k v = f := by
  funext a b
  unfold u2
  by_cases h1 : a = i
  · by_cases h2 : b = k
    · rw [if_pos h1, if_pos h2, ← h, h1, h2]
    · rw [if_pos h1, if_neg h2]
  · rw [if_neg h1]
theorem isRep_loop {S : mSh} {μ : mMm} {v : Int → Int} {p d : Int} (hS : LSh S) (hX : RX μ.1 v) (hW : WF v) (hp : 0 ≤ p) (hd : 1 ≤ d) (hdp : d ≤ p) : ∀ (f n : Nat) (k : Int), k + 1 - p ≤ f → f < n → p - 1 ≤ k → k < p + v 3 → k < v 0 → lL_isRepeat_41 S μ n 74 (ii p) (ii d) (ii k) = some (ii (if k + 1 - p ≤ alk v p d then 1 else 0)) := by
  obtain ⟨-, -, ⟨o74, n74⟩, -, -, -⟩ := hS
  have g0 := wf_0 hW
  have g3 := wf_3 hW
  have hb := alk_b hW (p := p) (d := d) hp
  intro f
  induction f with
  | zero =>
    intro n k h1 h2 h3 h4 h5
    obtain ⟨n, rfl⟩ : ∃ j, n = j + 1 := ⟨n - 1, by omega⟩
    rw [if_pos (by push_cast at h1; omega)]
    simp (disch := omega) only [Option.bind_some, km102, km101, km10, km1, k0, k1, k2, k3, k4, k5, k6, k7, k8, k9, k10, k11, k12, k13, k14, k15, k16, k17, k20, k22, k31, k32, k33, k39, k40, k43, k44, k45, k48, k49, k50, k51, k52, k57, k59, k60, k63, k64, k80, k90, k97, k100, k101, k108, k112, k114, k117, k126, k130, k650, k1000, k100000, k1000000, k15485863, k32452867, k2147483647, ii_add, ii_sub, ii_neg, ii_mul, ii_lt, ii_le, ii_eq, if_true, if_false, if_pos, if_neg, lL_isRepeat_41]
  | succ f ih =>
    intro n k h1 h2 h3 h4 h5
    obtain ⟨n, rfl⟩ : ∃ j, n = j + 1 := ⟨n - 1, by omega⟩
    by_cases hk : k < p
    · rw [if_pos (by omega)]
      simp (disch := omega) only [Option.bind_some, km102, km101, km10, km1, k0, k1, k2, k3, k4, k5, k6, k7, k8, k9, k10, k11, k12, k13, k14, k15, k16, k17, k20, k22, k31, k32, k33, k39, k40, k43, k44, k45, k48, k49, k50, k51, k52, k57, k59, k60, k63, k64, k80, k90, k97, k100, k101, k108, k112, k114, k117, k126, k130, k650, k1000, k100000, k1000000, k15485863, k32452867, k2147483647, ii_add, ii_sub, ii_neg, ii_mul, ii_lt, ii_le, ii_eq, if_true, if_false, if_pos, if_neg, lL_isRepeat_41]
    · have t1 := wf_t hW (k := k) (by omega) (by omega)
      have t2 := wf_t hW (k := k - d) (by omega) (by omega)
      have r1 := hX k (by omega) (by omega)
      have r2 := hX (k - d) (by omega) (by omega)
      have hst := alk_st hW (p := p) (d := d) (k := k) hp (by omega) h4 h5
      by_cases he : tx v k = tx v (k - d)
      · have hI := ih n (k - 1) (by push_cast at h1; omega) (by omega) (by omega) (by omega) (by omega)
        rw [show k - 1 = k + -1 by omega] at hI
        have e : (if k + -1 + 1 - p ≤ alk v p d then (1 : Int) else 0) = if k + 1 - p ≤ alk v p d then 1 else 0 := by
          by_cases hc : k + 1 - p ≤ alk v p d
          · rw [if_pos hc, if_pos (by omega)]
          · rw [if_neg hc, if_neg (fun hh => hc (hst.mpr ⟨he, by omega⟩))]
        rw [e] at hI
        simp (disch := omega) only [Option.bind_some, km102, km101, km10, km1, k0, k1, k2, k3, k4, k5, k6, k7, k8, k9, k10, k11, k12, k13, k14, k15, k16, k17, k20, k22, k31, k32, k33, k39, k40, k43, k44, k45, k48, k49, k50, k51, k52, k57, k59, k60, k63, k64, k80, k90, k97, k100, k101, k108, k112, k114, k117, k126, k130, k650, k1000, k100000, k1000000, k15485863, k32452867, k2147483647, ii_add, ii_sub, ii_neg, ii_mul, ii_lt, ii_le, ii_eq, if_true, if_false, if_pos, if_neg, lL_isRepeat_41, ldI_at o74 n74, r1, r2]
        exact hI
      · rw [if_neg (fun hc => he (hst.mp hc).1)]
        simp (disch := omega) only [Option.bind_some, km102, km101, km10, km1, k0, k1, k2, k3, k4, k5, k6, k7, k8, k9, k10, k11, k12, k13, k14, k15, k16, k17, k20, k22, k31, k32, k33, k39, k40, k43, k44, k45, k48, k49, k50, k51, k52, k57, k59, k60, k63, k64, k80, k90, k97, k100, k101, k108, k112, k114, k117, k126, k130, k650, k1000, k100000, k1000000, k15485863, k32452867, k2147483647, ii_add, ii_sub, ii_neg, ii_mul, ii_lt, ii_le, ii_eq, if_true, if_false, if_pos, if_neg, lL_isRepeat_41, ldI_at o74 n74, r1, r2]
theorem isRep_at {S : mSh} {μ : mMm} {v : Int → Int} {p d l : Int} (hS : LSh S) (hQ : RQ μ.1 v) (hX : RX μ.1 v) (hW : WF v) (hp : 0 ≤ p) (hp1 : p ≤ v 0) (hd : 1 ≤ d) (hd4 : d ≤ 40) (hl : v 2 ≤ l) (hl3 : l ≤ v 3) : fL_isRepeat S μ 74 77 (ii p) (ii d) (ii l) = some (ii (if d ≤ p ∧ l ≤ alk v p d then 1 else 0)) := by
  have hS1 := hS
  obtain ⟨-, -, -, -, -, o77, n77⟩ := hS
  have g0 := wf_0 hW
  have g2 := wf_2 hW
  have g3 := wf_3 hW
  have hQ1 := hQ
  unfold RQ at hQ1
  unfold fL_isRepeat
  by_cases h : d ≤ p
  · have hb := alk_b hW (p := p) (d := d) hp
    by_cases h2 : p + l ≤ v 0
    · have hL := isRep_loop hS1 hX hW hp hd h 9 FU (p + l - 1) (by omega) (by decide) (by omega) (by omega) (by omega)
      have e : (if p + l - 1 + 1 - p ≤ alk v p d then (1 : Int) else 0) = if d ≤ p ∧ l ≤ alk v p d then 1 else 0 := by
        by_cases hc : l ≤ alk v p d
        · rw [if_pos (show p + l - 1 + 1 - p ≤ alk v p d by omega), if_pos ⟨h, hc⟩]
        · rw [if_neg (show ¬ p + l - 1 + 1 - p ≤ alk v p d by omega), if_neg (fun hh : d ≤ p ∧ l ≤ alk v p d => hc hh.2)]
      rw [e] at hL
      simp (disch := omega) only [Option.bind_some, km102, km101, km10, km1, k0, k1, k2, k3, k4, k5, k6, k7, k8, k9, k10, k11, k12, k13, k14, k15, k16, k17, k20, k22, k31, k32, k33, k39, k40, k43, k44, k45, k48, k49, k50, k51, k52, k57, k59, k60, k63, k64, k80, k90, k97, k100, k101, k108, k112, k114, k117, k126, k130, k650, k1000, k100000, k1000000, k15485863, k32452867, k2147483647, ii_add, ii_sub, ii_neg, ii_mul, ii_lt, ii_le, ii_eq, if_true, if_false, if_pos, if_neg, ldI_at o77 n77, hQ1]
      exact hL
    · have := hb.2.2.1 hp1
      rw [if_neg (show ¬ (d ≤ p ∧ l ≤ alk v p d) by omega)]
      simp (disch := omega) only [Option.bind_some, km102, km101, km10, km1, k0, k1, k2, k3, k4, k5, k6, k7, k8, k9, k10, k11, k12, k13, k14, k15, k16, k17, k20, k22, k31, k32, k33, k39, k40, k43, k44, k45, k48, k49, k50, k51, k52, k57, k59, k60, k63, k64, k80, k90, k97, k100, k101, k108, k112, k114, k117, k126, k130, k650, k1000, k100000, k1000000, k15485863, k32452867, k2147483647, ii_add, ii_sub, ii_neg, ii_mul, ii_lt, ii_le, ii_eq, if_true, if_false, if_pos, if_neg, ldI_at o77 n77, hQ1]
  · rw [if_neg (show ¬ (d ≤ p ∧ l ≤ alk v p d) by omega)]
    simp (disch := omega) only [Option.bind_some, km102, km101, km10, km1, k0, k1, k2, k3, k4, k5, k6, k7, k8, k9, k10, k11, k12, k13, k14, k15, k16, k17, k20, k22, k31, k32, k33, k39, k40, k43, k44, k45, k48, k49, k50, k51, k52, k57, k59, k60, k63, k64, k80, k90, k97, k100, k101, k108, k112, k114, k117, k126, k130, k650, k1000, k100000, k1000000, k15485863, k32452867, k2147483647, ii_add, ii_sub, ii_neg, ii_mul, ii_lt, ii_le, ii_eq, if_true, if_false, if_pos, if_neg]
theorem lgst_in {S : mSh} {μ : mMm} {v : Int → Int} {p w l : Int} {kk5 : Nat → Nat → Int32 → Int32 → Int32 → Option Int32} (hS : LSh S) (hQ : RQ μ.1 v) (hX : RX μ.1 v) (hW : WF v) (hp : 0 ≤ p) (hp1 : p ≤ v 0) (hw0 : 0 ≤ w) (hw : w ≤ 32) (hl : v 2 ≤ l) (hl3 : l ≤ v 3) : ∀ (f n : Nat) (d : Int), w + 1 - d ≤ f → f < n → 1 ≤ d → d ≤ 33 →
    ((∃ d', d ≤ d' ∧ d' ≤ w ∧ d' ≤ p ∧ l ≤ alk v p d') → lL_longest_16 kk5 S μ n 74 77 (ii p) (ii w) (ii l) (ii d) = some (ii l)) ∧ ((¬ ∃ d', d ≤ d' ∧ d' ≤ w ∧ d' ≤ p ∧ l ≤ alk v p d') → lL_longest_16 kk5 S μ n 74 77 (ii p) (ii w) (ii l) (ii d) = kk5 74 77 (ii p) (ii w) (ii (l + -1))) := by
  have g2 := wf_2 hW
  have g3 := wf_3 hW
  intro f
  induction f with
  | zero =>
    intro n d h1 h2 h3 h4
    obtain ⟨n, rfl⟩ : ∃ j, n = j + 1 := ⟨n - 1, by omega⟩
    refine ⟨fun ⟨d', q1, q2, _⟩ => by push_cast at h1; omega, fun _ => ?_⟩
    simp (disch := omega) only [Option.bind_some, km102, km101, km10, km1, k0, k1, k2, k3, k4, k5, k6, k7, k8, k9, k10, k11, k12, k13, k14, k15, k16, k17, k20, k22, k31, k32, k33, k39, k40, k43, k44, k45, k48, k49, k50, k51, k52, k57, k59, k60, k63, k64, k80, k90, k97, k100, k101, k108, k112, k114, k117, k126, k130, k650, k1000, k100000, k1000000, k15485863, k32452867, k2147483647, ii_add, ii_sub, ii_neg, ii_mul, ii_lt, ii_le, ii_eq, if_true, if_false, if_pos, if_neg, lL_longest_16]
  | succ f ih =>
    intro n d h1 h2 h3 h4
    obtain ⟨n, rfl⟩ : ∃ j, n = j + 1 := ⟨n - 1, by omega⟩
    by_cases hd : w < d
    · refine ⟨fun ⟨d', q1, q2, _⟩ => by omega, fun _ => ?_⟩
      simp (disch := omega) only [Option.bind_some, km102, km101, km10, km1, k0, k1, k2, k3, k4, k5, k6, k7, k8, k9, k10, k11, k12, k13, k14, k15, k16, k17, k20, k22, k31, k32, k33, k39, k40, k43, k44, k45, k48, k49, k50, k51, k52, k57, k59, k60, k63, k64, k80, k90, k97, k100, k101, k108, k112, k114, k117, k126, k130, k650, k1000, k100000, k1000000, k15485863, k32452867, k2147483647, ii_add, ii_sub, ii_neg, ii_mul, ii_lt, ii_le, ii_eq, if_true, if_false, if_pos, if_neg, lL_longest_16]
    · have hI := isRep_at (d := d) hS hQ hX hW hp hp1 h3 (by omega) hl hl3
      obtain ⟨i1, i2⟩ := ih n (d + 1) (by push_cast at h1; omega) (by omega) (by omega) (by omega)
      by_cases hc : d ≤ p ∧ l ≤ alk v p d
      · rw [if_pos hc] at hI
        refine ⟨fun _ => ?_, fun hn => absurd ⟨d, by omega, by omega, hc.1, hc.2⟩ hn⟩
        simp (disch := omega) only [Option.bind_some, km102, km101, km10, km1, k0, k1, k2, k3, k4, k5, k6, k7, k8, k9, k10, k11, k12, k13, k14, k15, k16, k17, k20, k22, k31, k32, k33, k39, k40, k43, k44, k45, k48, k49, k50, k51, k52, k57, k59, k60, k63, k64, k80, k90, k97, k100, k101, k108, k112, k114, k117, k126, k130, k650, k1000, k100000, k1000000, k15485863, k32452867, k2147483647, ii_add, ii_sub, ii_neg, ii_mul, ii_lt, ii_le, ii_eq, if_true, if_false, if_pos, if_neg, lL_longest_16, hI]
      · rw [if_neg hc] at hI
        refine ⟨fun ⟨d', q1, q2, q3, q4⟩ => ?_, fun hn => ?_⟩
        · have hne : d' ≠ d := fun e => hc (by rw [e] at q3 q4; exact ⟨q3, q4⟩)
          have := i1 ⟨d', by omega, q2, q3, q4⟩
          simp (disch := omega) only [Option.bind_some, km102, km101, km10, km1, k0, k1, k2, k3, k4, k5, k6, k7, k8, k9, k10, k11, k12, k13, k14, k15, k16, k17, k20, k22, k31, k32, k33, k39, k40, k43, k44, k45, k48, k49, k50, k51, k52, k57, k59, k60, k63, k64, k80, k90, k97, k100, k101, k108, k112, k114, k117, k126, k130, k650, k1000, k100000, k1000000, k15485863, k32452867, k2147483647, ii_add, ii_sub, ii_neg, ii_mul, ii_lt, ii_le, ii_eq, if_true, if_false, if_pos, if_neg, lL_longest_16, hI]
          exact this
        · have := i2 (fun ⟨d', q1, q2, q3, q4⟩ => hn ⟨d', by omega, q2, q3, q4⟩)
          simp (disch := omega) only [Option.bind_some, km102, km101, km10, km1, k0, k1, k2, k3, k4, k5, k6, k7, k8, k9, k10, k11, k12, k13, k14, k15, k16, k17, k20, k22, k31, k32, k33, k39, k40, k43, k44, k45, k48, k49, k50, k51, k52, k57, k59, k60, k63, k64, k80, k90, k97, k100, k101, k108, k112, k114, k117, k126, k130, k650, k1000, k100000, k1000000, k15485863, k32452867, k2147483647, ii_add, ii_sub, ii_neg, ii_mul, ii_lt, ii_le, ii_eq, if_true, if_false, if_pos, if_neg, lL_longest_16, hI]
          exact this
theorem lgst_out {S : mSh} {μ : mMm} {v : Int → Int} {p w : Int} (hS : LSh S) (hQ : RQ μ.1 v) (hX : RX μ.1 v) (hW : WF v) (hp : 0 ≤ p) (hp1 : p ≤ v 0) (hw0 : 1 ≤ w) (hw : w ≤ 32) : ∀ (f n : Nat) (l : Int), l ≤ f → f < n → 0 ≤ l → lng v p w ≤ l → l ≤ v 3 → lL_longest_5 S μ n 74 77 (ii p) (ii w) (ii l) = some (ii (lng v p w)) := by
  have hS1 := hS
  obtain ⟨-, -, -, -, -, o77, n77⟩ := hS
  have g2 := wf_2 hW
  have g3 := wf_3 hW
  have hQ1 := hQ
  unfold RQ at hQ1
  have hlb := lng_b hW (p := p) (w := w) hp
  have low : ∀ (n : Nat) (l : Int), 0 ≤ l → l < v 2 → lng v p w ≤ l → lL_longest_5 S μ (n + 1) 74 77 (ii p) (ii w) (ii l) = some (ii (lng v p w)) := by
    intro n l h0 h1 h2
    have : lng v p w = 0 := by
      rcases hlb.2.2 with h | ⟨h, -⟩
      · exact h
      · omega
    rw [this]
    simp (disch := omega) only [Option.bind_some, km102, km101, km10, km1, k0, k1, k2, k3, k4, k5, k6, k7, k8, k9, k10, k11, k12, k13, k14, k15, k16, k17, k20, k22, k31, k32, k33, k39, k40, k43, k44, k45, k48, k49, k50, k51, k52, k57, k59, k60, k63, k64, k80, k90, k97, k100, k101, k108, k112, k114, k117, k126, k130, k650, k1000, k100000, k1000000, k15485863, k32452867, k2147483647, ii_add, ii_sub, ii_neg, ii_mul, ii_lt, ii_le, ii_eq, if_true, if_false, if_pos, if_neg, lL_longest_5, ldI_at o77 n77, hQ1]
  intro f
  induction f with
  | zero =>
    intro n l h1 h2 h3 h4 h5
    obtain ⟨n, rfl⟩ : ∃ j, n = j + 1 := ⟨n - 1, by omega⟩
    exact low n l h3 (by push_cast at h1; omega) h4
  | succ f ih =>
    intro n l h1 h2 h3 h4 h5
    obtain ⟨n, rfl⟩ : ∃ j, n = j + 1 := ⟨n - 1, by omega⟩
    by_cases hl : l < v 2
    · exact low n l h3 hl h4
    · obtain ⟨i1, i2⟩ := lgst_in (kk5 := lL_longest_5 S μ n) hS1 hQ hX hW hp hp1 (by omega) hw (by omega) h5 33 FU 1 (by omega) (by decide) (by omega) (by omega)
      have hiff := lng_iff hW (p := p) (w := w) (l := l) hp hw (by omega)
      by_cases he : lng v p w = l
      · have := i1 (hiff.mp (by omega))
        rw [he]
        simp (disch := omega) only [Option.bind_some, km102, km101, km10, km1, k0, k1, k2, k3, k4, k5, k6, k7, k8, k9, k10, k11, k12, k13, k14, k15, k16, k17, k20, k22, k31, k32, k33, k39, k40, k43, k44, k45, k48, k49, k50, k51, k52, k57, k59, k60, k63, k64, k80, k90, k97, k100, k101, k108, k112, k114, k117, k126, k130, k650, k1000, k100000, k1000000, k15485863, k32452867, k2147483647, ii_add, ii_sub, ii_neg, ii_mul, ii_lt, ii_le, ii_eq, if_true, if_false, if_pos, if_neg, lL_longest_5, ldI_at o77 n77, hQ1]
        exact this
      · have := i2 (fun hh => he (by have := hiff.mpr hh; omega))
        simp (disch := omega) only [Option.bind_some, km102, km101, km10, km1, k0, k1, k2, k3, k4, k5, k6, k7, k8, k9, k10, k11, k12, k13, k14, k15, k16, k17, k20, k22, k31, k32, k33, k39, k40, k43, k44, k45, k48, k49, k50, k51, k52, k57, k59, k60, k63, k64, k80, k90, k97, k100, k101, k108, k112, k114, k117, k126, k130, k650, k1000, k100000, k1000000, k15485863, k32452867, k2147483647, ii_add, ii_sub, ii_neg, ii_mul, ii_lt, ii_le, ii_eq, if_true, if_false, if_pos, if_neg, lL_longest_5, ldI_at o77 n77, hQ1]
        rw [this, show l + -1 = l - 1 by omega]
        exact ih n (l - 1) (by push_cast at h1; omega) (by omega) (by omega) (by omega) (by omega)
theorem lgst_at {S : mSh} {μ : mMm} {v : Int → Int} {p w : Int} (hS : LSh S) (hQ : RQ μ.1 v) (hX : RX μ.1 v) (hW : WF v) (hp : 0 ≤ p) (hp1 : p ≤ v 0) (hw0 : 1 ≤ w) (hw : w ≤ 32) : fL_longest S μ 74 77 (ii p) (ii w) = some (ii (lng v p w)) := by
  have hS1 := hS
  obtain ⟨-, -, -, -, -, o77, n77⟩ := hS
  have g3 := wf_3 hW
  have hQ1 := hQ
  unfold RQ at hQ1
  have hlb := lng_b hW (p := p) (w := w) hp
  unfold fL_longest
  simp (disch := omega) only [Option.bind_some, km102, km101, km10, km1, k0, k1, k2, k3, k4, k5, k6, k7, k8, k9, k10, k11, k12, k13, k14, k15, k16, k17, k20, k22, k31, k32, k33, k39, k40, k43, k44, k45, k48, k49, k50, k51, k52, k57, k59, k60, k63, k64, k80, k90, k97, k100, k101, k108, k112, k114, k117, k126, k130, k650, k1000, k100000, k1000000, k15485863, k32452867, k2147483647, ii_add, ii_sub, ii_neg, ii_mul, ii_lt, ii_le, ii_eq, if_true, if_false, if_pos, if_neg, ldI_at o77 n77, hQ1]
  exact lgst_out hS1 hQ hX hW hp hp1 hw0 hw 9 FU (v 3) (by omega) (by decide) (by omega) (by omega) (by omega)
theorem near_at {S : mSh} {μ : mMm} {v : Int → Int} {p l d0 : Int} (hS : LSh S) (hQ : RQ μ.1 v) (hX : RX μ.1 v) (hW : WF v) (hp : 0 ≤ p) (hp1 : p ≤ v 0) (hl : v 2 ≤ l) (hl3 : l ≤ v 3) (g0 : 1 ≤ d0) (g1 : d0 ≤ v 1) (g2 : d0 ≤ p) (g3 : l ≤ alk v p d0) : fL_nearest S μ 74 77 (ii p) (ii l) = some (ii (dst v p l)) := by
  have hS1 := hS
  obtain ⟨-, -, -, -, -, o77, n77⟩ := hS
  have w1 := wf_1 hW
  have w3 := wf_3 hW
  have hQ1 := hQ
  unfold RQ at hQ1
  have key : ∀ (f n : Nat) (d : Int), d0 - d < f → f < n → 1 ≤ d → d ≤ d0 → lL_nearest_3 S μ n 74 77 (ii p) (ii l) (ii d) = some (ii (dGo (alk v p) l f d)) := by
    intro f
    induction f with
    | zero => intro n d h1 h2 h3 h4; push_cast at h1; omega
    | succ f ih =>
      intro n d h1 h2 h3 h4
      obtain ⟨n, rfl⟩ : ∃ j, n = j + 1 := ⟨n - 1, by omega⟩
      have hI := isRep_at (d := d) hS1 hQ hX hW hp hp1 h3 (by omega) hl hl3
      unfold dGo
      by_cases hc : alk v p d < l
      · rw [if_pos hc]
        rw [if_neg (fun hh => by omega)] at hI
        have hne : d ≠ d0 := fun e => by rw [e] at hc; omega
        have := ih n (d + 1) (by push_cast at h1; omega) (by omega) (by omega) (by omega)
        simp (disch := omega) only [Option.bind_some, km102, km101, km10, km1, k0, k1, k2, k3, k4, k5, k6, k7, k8, k9, k10, k11, k12, k13, k14, k15, k16, k17, k20, k22, k31, k32, k33, k39, k40, k43, k44, k45, k48, k49, k50, k51, k52, k57, k59, k60, k63, k64, k80, k90, k97, k100, k101, k108, k112, k114, k117, k126, k130, k650, k1000, k100000, k1000000, k15485863, k32452867, k2147483647, ii_add, ii_sub, ii_neg, ii_mul, ii_lt, ii_le, ii_eq, if_true, if_false, if_pos, if_neg, lL_nearest_3, ldI_at o77 n77, hQ1, hI]
        exact this
      · rw [if_neg hc]
        rw [if_pos ⟨by omega, by omega⟩] at hI
        simp (disch := omega) only [Option.bind_some, km102, km101, km10, km1, k0, k1, k2, k3, k4, k5, k6, k7, k8, k9, k10, k11, k12, k13, k14, k15, k16, k17, k20, k22, k31, k32, k33, k39, k40, k43, k44, k45, k48, k49, k50, k51, k52, k57, k59, k60, k63, k64, k80, k90, k97, k100, k101, k108, k112, k114, k117, k126, k130, k650, k1000, k100000, k1000000, k15485863, k32452867, k2147483647, ii_add, ii_sub, ii_neg, ii_mul, ii_lt, ii_le, ii_eq, if_true, if_false, if_pos, if_neg, lL_nearest_3, ldI_at o77 n77, hQ1, hI]
  unfold fL_nearest dst
  simp (disch := omega) only [Option.bind_some, km102, km101, km10, km1, k0, k1, k2, k3, k4, k5, k6, k7, k8, k9, k10, k11, k12, k13, k14, k15, k16, k17, k20, k22, k31, k32, k33, k39, k40, k43, k44, k45, k48, k49, k50, k51, k52, k57, k59, k60, k63, k64, k80, k90, k97, k100, k101, k108, k112, k114, k117, k126, k130, k650, k1000, k100000, k1000000, k15485863, k32452867, k2147483647, ii_add, ii_sub, ii_neg, ii_mul, ii_lt, ii_le, ii_eq, if_true, if_false, if_pos, if_neg]
  exact key 40 FU 1 (by omega) (by decide) (by omega) (by omega)
/-! costs -/
theorem cost_in {S : mSh} {v : Int → Int} {C : Nat} {p w : Int} {m0 : Nat → Nat → Int32} {z : Nat → Nat → Int64} {B : Int → Int} {kk13 : mMm → Nat → Nat → Int32 → Nat → Int32 → Option mMm} (hS : LSh S) (hCC : LRw S C 41) (hQ : RQ m0 v) (hW : WF v) (hp : 0 ≤ p) (hp1 : p < v 0) (hB : ∀ k, p < k → k ≤ v 0 → m0 C k.toNat = ii (B k)) (hC : CB B p (v 0)) : ∀ (f n : Nat) (l b : Int), l ≤ f → f < n → 0 ≤ l → l ≤ 9 → p + l ≤ v 0 → 0 ≤ b → b ≤ 400 → lL_costs_42 kk13 S n (u2 m0 C p.toNat (ii b), z) 74 77 (ii w) C (ii p) (ii l) = kk13 (u2 m0 C p.toNat (ii (kGo B (v 5) p (v 2) f l b)), z) 74 77 (ii w) C (ii (p + -1)) := by
  obtain ⟨-, -, -, -, -, o77, n77⟩ := hS
  obtain ⟨oC, nC, hC78⟩ := hCC
  have g0 := wf_0 hW
  have g2 := wf_2 hW
  have g5 := wf_5 hW
  have hq2 := hQ 2 (by omega) (by omega)
  have hq5 := hQ 5 (by omega) (by omega)
  have h77 : (77 : Nat) ≠ C := by omega
  intro f
  induction f with
  | zero =>
    intro n l b h1 h2 h3 h9 h4 h5 h6
    obtain ⟨n, rfl⟩ : ∃ j, n = j + 1 := ⟨n - 1, by omega⟩
    show _ = kk13 (u2 m0 C p.toNat (ii b), z) 74 77 (ii w) C (ii (p + -1))
    have hl : l < v 2 := by push_cast at h1; omega
    simp (disch := omega) only [Option.bind_some, km102, km101, km10, km1, k0, k1, k2, k3, k4, k5, k6, k7, k8, k9, k10, k11, k12, k13, k14, k15, k16, k17, k20, k22, k31, k32, k33, k39, k40, k43, k44, k45, k48, k49, k50, k51, k52, k57, k59, k60, k63, k64, k80, k90, k97, k100, k101, k108, k112, k114, k117, k126, k130, k650, k1000, k100000, k1000000, k15485863, k32452867, k2147483647, ii_add, ii_sub, ii_neg, ii_mul, ii_lt, ii_le, ii_eq, if_true, if_false, if_pos, if_neg, lL_costs_42, ldI_at o77 n77, u2_off, hq2]
  | succ f ih =>
    intro n l b h1 h2 h3 h9 h4 h5 h6
    obtain ⟨n, rfl⟩ : ∃ j, n = j + 1 := ⟨n - 1, by omega⟩
    unfold kGo
    by_cases hl : l < v 2
    · rw [if_pos hl]
      simp (disch := omega) only [Option.bind_some, km102, km101, km10, km1, k0, k1, k2, k3, k4, k5, k6, k7, k8, k9, k10, k11, k12, k13, k14, k15, k16, k17, k20, k22, k31, k32, k33, k39, k40, k43, k44, k45, k48, k49, k50, k51, k52, k57, k59, k60, k63, k64, k80, k90, k97, k100, k101, k108, k112, k114, k117, k126, k130, k650, k1000, k100000, k1000000, k15485863, k32452867, k2147483647, ii_add, ii_sub, ii_neg, ii_mul, ii_lt, ii_le, ii_eq, if_true, if_false, if_pos, if_neg, lL_costs_42, ldI_at o77 n77, u2_off, hq2]
    · rw [if_neg hl]
      have c1 := hB (p + l) (by omega) h4
      have c2 := hC (p + l) (by omega) h4
      have hm : min b (B (p + l) + v 5) = if b ≤ B (p + l) + v 5 then b else B (p + l) + v 5 := by
        split <;> omega
      have hI := ih n (l - 1) (min b (B (p + l) + v 5)) (by push_cast at h1; omega) (by omega) (by omega) (by omega) (by omega) (by omega) (by omega)
      rw [show l - 1 = l + -1 by omega] at hI
      rw [show l - 1 = l + -1 by omega, ← hI, hm]
      by_cases hb : b ≤ B (p + l) + v 5
      · rw [if_pos hb]
        simp (disch := omega) only [Option.bind_some, km102, km101, km10, km1, k0, k1, k2, k3, k4, k5, k6, k7, k8, k9, k10, k11, k12, k13, k14, k15, k16, k17, k20, k22, k31, k32, k33, k39, k40, k43, k44, k45, k48, k49, k50, k51, k52, k57, k59, k60, k63, k64, k80, k90, k97, k100, k101, k108, k112, k114, k117, k126, k130, k650, k1000, k100000, k1000000, k15485863, k32452867, k2147483647, ii_add, ii_sub, ii_neg, ii_mul, ii_lt, ii_le, ii_eq, if_true, if_false, if_pos, if_neg, lL_costs_42, lL_costs_89, ldI_at o77 n77, ldI_at oC nC, stI_at oC nC, u2_off, u2_same, u2_u2, hq2, hq5, c1]
      · rw [if_neg hb]
        simp (disch := omega) only [Option.bind_some, km102, km101, km10, km1, k0, k1, k2, k3, k4, k5, k6, k7, k8, k9, k10, k11, k12, k13, k14, k15, k16, k17, k20, k22, k31, k32, k33, k39, k40, k43, k44, k45, k48, k49, k50, k51, k52, k57, k59, k60, k63, k64, k80, k90, k97, k100, k101, k108, k112, k114, k117, k126, k130, k650, k1000, k100000, k1000000, k15485863, k32452867, k2147483647, ii_add, ii_sub, ii_neg, ii_mul, ii_lt, ii_le, ii_eq, if_true, if_false, if_pos, if_neg, lL_costs_42, lL_costs_89, ldI_at o77 n77, ldI_at oC nC, stI_at oC nC, u2_off, u2_same, u2_u2, hq2, hq5, c1]
theorem cost_loop {S : mSh} {v : Int → Int} {C : Nat} {w : Int} (hS : LSh S) (hCC : LRw S C 41) (hW : WF v) (hw0 : 1 ≤ w) (hw : w ≤ 32) : ∀ (f n : Nat) (p : Int) (B : Int → Int) (μ : mMm), p < f → f < n → -1 ≤ p → p < v 0 → RQ μ.1 v → RX μ.1 v → (∀ k, p < k → k ≤ v 0 → μ.1 C k.toNat = ii (B k)) → CB B p (v 0) → ∃ m', lL_costs_13 S n μ 74 77 (ii w) C (ii p) = some (m', μ.2) ∧ (∀ a, a ≠ C → m' a = μ.1 a) ∧ ∀ k, 0 ≤ k → k ≤ v 0 → m' C k.toNat = ii (cGo (fun p => lng v p w) (v 4) (v 5) (v 2) f p B k) := by
  have hS1 := hS
  have hCC1 := hCC
  obtain ⟨-, -, -, -, -, o77, n77⟩ := hS
  obtain ⟨oC, nC, hC78⟩ := hCC
  have g0 := wf_0 hW
  have g2 := wf_2 hW
  have g3 := wf_3 hW
  have g4 := wf_4 hW
  have g5 := wf_5 hW
  intro f
  induction f with
  | zero =>
    intro n p B μ h1 h2 h3 h4 hQ hX hB hC
    obtain ⟨n, rfl⟩ : ∃ j, n = j + 1 := ⟨n - 1, by omega⟩
    refine ⟨μ.1, ?_, fun _ _ => rfl, fun k hk0 hk => hB k (by push_cast at h1; omega) hk⟩
    have : p < 0 := by push_cast at h1; omega
    simp (disch := omega) only [Option.bind_some, km102, km101, km10, km1, k0, k1, k2, k3, k4, k5, k6, k7, k8, k9, k10, k11, k12, k13, k14, k15, k16, k17, k20, k22, k31, k32, k33, k39, k40, k43, k44, k45, k48, k49, k50, k51, k52, k57, k59, k60, k63, k64, k80, k90, k97, k100, k101, k108, k112, k114, k117, k126, k130, k650, k1000, k100000, k1000000, k15485863, k32452867, k2147483647, ii_add, ii_sub, ii_neg, ii_mul, ii_lt, ii_le, ii_eq, if_true, if_false, if_pos, if_neg, lL_costs_13]
  | succ f ih =>
    intro n p B μ h1 h2 h3 h4 hQ hX hB hC
    obtain ⟨n, rfl⟩ : ∃ j, n = j + 1 := ⟨n - 1, by omega⟩
    unfold cGo
    by_cases hp : p < 0
    · rw [if_pos hp]
      refine ⟨μ.1, ?_, fun _ _ => rfl, fun k hk0 hk => hB k (by omega) hk⟩
      simp (disch := omega) only [Option.bind_some, km102, km101, km10, km1, k0, k1, k2, k3, k4, k5, k6, k7, k8, k9, k10, k11, k12, k13, k14, k15, k16, k17, k20, k22, k31, k32, k33, k39, k40, k43, k44, k45, k48, k49, k50, k51, k52, k57, k59, k60, k63, k64, k80, k90, k97, k100, k101, k108, k112, k114, k117, k126, k130, k650, k1000, k100000, k1000000, k15485863, k32452867, k2147483647, ii_add, ii_sub, ii_neg, ii_mul, ii_lt, ii_le, ii_eq, if_true, if_false, if_pos, if_neg, lL_costs_13]
    · rw [if_neg hp]
      have q4 := hQ 4 (by omega) (by omega)
      have hlng := lng_b hW (p := p) (w := w) (by omega)
      have hlE := lng_e hW (p := p) (w := w) (by omega) (by omega)
      have c1 := hB (p + 1) (by omega) (by omega)
      have c2 := hC (p + 1) (by omega) (by omega)
      have hQ1 : RQ (u2 μ.1 C p.toNat (ii (B (p + 1) + v 4))) v := RQ_fr (u2_offr (by omega)) hQ
      have hX1 : RX (u2 μ.1 C p.toNat (ii (B (p + 1) + v 4))) v := RX_fr (u2_offr (by omega)) hX
      have hlo := lgst_at (μ := (u2 μ.1 C p.toNat (ii (B (p + 1) + v 4)), μ.2)) hS1 hQ1 hX1 hW (p := p) (w := w) (by omega) (by omega) hw0 hw
      have hin := cost_in (z := μ.2) (kk13 := lL_costs_13 S n) (w := w) hS1 hCC1 hQ hW (by omega) h4 hB hC 9 FU (lng v p w) (B (p + 1) + v 4) (by omega) (by decide) hlng.1 (by omega) hlE (by omega) (by omega)
      rw [kGo_i (by push_cast; omega) (by omega), show B (p + 1) + v 4 = v 4 + B (p + 1) by omega] at hin
      rw [show B (p + 1) + v 4 = v 4 + B (p + 1) by omega] at hlo
      obtain ⟨m', j1, j2, j3⟩ := ih n (p - 1) (upI B p (iGo B (v 5) p (lng v p w) 10 (v 2) (v 4 + B (p + 1)))) (u2 μ.1 C p.toNat (ii (iGo B (v 5) p (lng v p w) 10 (v 2) (v 4 + B (p + 1)))), μ.2) (by push_cast at h1; omega) (by omega) (by omega) (by omega) (RQ_fr (u2_offr (by omega)) hQ) (RX_fr (u2_offr (by omega)) hX) (fun k hk1 hk2 => by
        by_cases hk : k = p
        · subst hk
          rw [upI_s]
          exact u2_same
        · rw [upI_n hk]
          show u2 μ.1 C p.toNat _ C k.toNat = _
          rw [u2_off (Or.inr (by omega))]
          exact hB k (by omega) hk2) (CB_st hC h4 (by omega) (by omega) (by omega) (by omega) hlE)
      refine ⟨m', ?_, fun a ha => (j2 a ha).trans (u2_offr ha), j3⟩
      rw [← j1, show p - 1 = p + -1 by omega, ← hin]
      simp (disch := omega) only [Option.bind_some, km102, km101, km10, km1, k0, k1, k2, k3, k4, k5, k6, k7, k8, k9, k10, k11, k12, k13, k14, k15, k16, k17, k20, k22, k31, k32, k33, k39, k40, k43, k44, k45, k48, k49, k50, k51, k52, k57, k59, k60, k63, k64, k80, k90, k97, k100, k101, k108, k112, k114, k117, k126, k130, k650, k1000, k100000, k1000000, k15485863, k32452867, k2147483647, ii_add, ii_sub, ii_neg, ii_mul, ii_lt, ii_le, ii_eq, if_true, if_false, if_pos, if_neg, lL_costs_13, ldI_at o77 n77, ldI_at oC nC, stI_at oC nC, q4, c1]
      rw [show B (p + 1) + v 4 = v 4 + B (p + 1) by omega, hlo]
      rfl
theorem costs_at {S : mSh} {v : Int → Int} {C : Nat} {w : Int} {μ : mMm} (hS : LSh S) (hCC : LRw S C 41) (hW : WF v) (hw0 : 1 ≤ w) (hw : w ≤ 32) (hQ : RQ μ.1 v) (hX : RX μ.1 v) : ∃ m', fL_costs S μ 74 77 (ii w) C = some (m', μ.2) ∧ (∀ a, a ≠ C → m' a = μ.1 a) ∧ ∀ k, 0 ≤ k → k ≤ v 0 → m' C k.toNat = ii (cst v w k) := by
  have hS1 := hS
  have hCC1 := hCC
  obtain ⟨-, -, -, -, -, o77, n77⟩ := hS
  obtain ⟨oC, nC, hC78⟩ := hCC
  have g0 := wf_0 hW
  have q0 := hQ 0 (by omega) (by omega)
  obtain ⟨m', j1, j2, j3⟩ := cost_loop hS1 hCC1 hW hw0 hw 41 FU (v 0 - 1) (fun _ => 0) (u2 μ.1 C (v 0).toNat (ii 0), μ.2) (by omega) (by decide) (by omega) (by omega) (RQ_fr (u2_offr (by omega)) hQ) (RX_fr (u2_offr (by omega)) hX) (fun k h1 h2 => by
    have : k = v 0 := by omega
    subst this
    exact u2_same) CB_0
  refine ⟨m', ?_, fun a ha => (j2 a ha).trans (u2_offr ha), j3⟩
  unfold fL_costs
  simp (disch := omega) only [Option.bind_some, km102, km101, km10, km1, k0, k1, k2, k3, k4, k5, k6, k7, k8, k9, k10, k11, k12, k13, k14, k15, k16, k17, k20, k22, k31, k32, k33, k39, k40, k43, k44, k45, k48, k49, k50, k51, k52, k57, k59, k60, k63, k64, k80, k90, k97, k100, k101, k108, k112, k114, k117, k126, k130, k650, k1000, k100000, k1000000, k15485863, k32452867, k2147483647, ii_add, ii_sub, ii_neg, ii_mul, ii_lt, ii_le, ii_eq, if_true, if_false, if_pos, if_neg, ldI_at o77 n77, stI_at oC nC, u2_off, q0]
  exact j1
