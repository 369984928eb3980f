/-! all places, all pairs -/
theorem text_p {S : mSh} {A : AS} {n : Nat} {p : Int} {μ : mMm} (hI : LI S μ.1 A) (h0 : 0 ≤ p) (h1 : p < A.v 0) : ∃ m', lL_text_2 S (n + 1) μ 0 74 77 (ii p) = lL_text_2 S n (m', μ.2) 0 74 77 (ii (p + 1)) ∧ (∀ a, 74 ≤ a → m' a = μ.1 a) ∧ LI S m' A := by
  have hI0 := hI
  obtain ⟨hS, hA, hC, hQ, hX, hR⟩ := hI
  have hS1 := hS
  obtain ⟨-, -, ⟨o74, n74⟩, -, -, o77, n77⟩ := hS
  have hW := hA.1
  have g0 := wf_0 hW
  have g1 := wf_1 hW
  have g3 := wf_3 hW
  have q0 := hQ 0 (by omega) (by omega)
  have q1 := hQ 1 (by omega) (by omega)
  have xp := hX p h0 h1
  have tp := wf_t hW (k := p) h0 h1
  have hlb := lng_b hW (p := p) (w := A.v 1) h0
  have hlo := lgst_at hS1 hQ hX hW (p := p) (w := A.v 1) h0 (by omega) (by omega) (by omega)
  have r1 := cQ_at (μ := μ) hS1 (cLetterAt hA hC ⟨h0, h1⟩)
  have r2 := cQ_at (μ := μ) hS1 (cRepeatLength hA hC ⟨h0, h1⟩)
  obtain ⟨m1, a1, a2, a3⟩ := cV_at (μ := μ) hS1 (cRepeatLengthByPairs hA hC ⟨h0, h1⟩)
  rw [bpl_lng hW h0 h1] at a1
  have I1 : LI S m1 A := LI_c hI0 (fun a h _ => a2 a h) a3
  have r3 := cQ_at (μ := (m1, μ.2)) hS1 (cRepeatDistance (μ := (m1, μ.2)) hA a3 ⟨h0, h1⟩)
  refine ⟨m1, ?_, a2, I1⟩
  by_cases hz : lng A.v p (A.v 1) = 0
  · have e1 : rdv A.v p = 0 := if_pos hz
    rw [e1] at r3
    rw [hz] at r2 a1 hlo
    simp (disch := omega) only [Option.bind_some, km102, km101, km10, km1, k0, k1, k2, k3, k4, k5, k6, k7, k8, k9, k10, k11, k12, k13, k14, k15, k16, k17, k20, k22, k31, k32, k33, k39, k40, k43, k44, k45, k48, k49, k50, k51, k52, k57, k59, k60, k63, k64, k80, k90, k97, k100, k101, k108, k112, k114, k117, k126, k130, k650, k1000, k100000, k1000000, k15485863, k32452867, k2147483647, ii_add, ii_sub, ii_neg, ii_mul, ii_lt, ii_le, ii_eq, if_true, if_false, if_pos, if_neg, lL_text_2, lL_text_73, ldI_at o77 n77, ldI_at o74 n74, q0, q1, xp, hlo, r1, r2, a1, r3]
  · have e1 : rdv A.v p = dst A.v p (lng A.v p (A.v 1)) := if_neg hz
    rcases hlb.2.2 with h | ⟨q, d0, d1, d2, d3, d4⟩
    · exact absurd h hz
    · have hn := near_at (μ := (m1, μ.2)) hS1 I1.2.2.2.1 I1.2.2.2.2.1 hW (p := p) h0 (by omega) q (by omega) d1 d2 d3 (by omega)
      have hdb := dst_b (v := A.v) (p := p) (l := lng A.v p (A.v 1)) d1 (by omega) (by omega)
      rw [e1] at r3
      simp (disch := omega) only [Option.bind_some, km102, km101, km10, km1, k0, k1, k2, k3, k4, k5, k6, k7, k8, k9, k10, k11, k12, k13, k14, k15, k16, k17, k20, k22, k31, k32, k33, k39, k40, k43, k44, k45, k48, k49, k50, k51, k52, k57, k59, k60, k63, k64, k80, k90, k97, k100, k101, k108, k112, k114, k117, k126, k130, k650, k1000, k100000, k1000000, k15485863, k32452867, k2147483647, ii_add, ii_sub, ii_neg, ii_mul, ii_lt, ii_le, ii_eq, if_true, if_false, if_pos, if_neg, lL_text_2, lL_text_73, ldI_at o77 n77, ldI_at o74 n74, q0, q1, xp, hlo, r1, r2, a1, r3, hn]
theorem text_2 {S : mSh} {A : AS} : ∀ (f n : Nat) (p : Int) (μ : mMm), LI S μ.1 A → A.v 0 - p ≤ f → f < n → 0 ≤ p → p ≤ A.v 0 → ∃ m', lL_text_2 S n μ 0 74 77 (ii p) = lL_text_92 S FU (m', μ.2) 0 74 77 (ii 0) (ii (-1)) (ii 0) ∧ (∀ a, 74 ≤ a → m' a = μ.1 a) ∧ LI S m' A := by
  intro f
  induction f with
  | zero =>
    intro n p μ hI h1 h2 h3 h4
    obtain ⟨n, rfl⟩ : ∃ j, n = j + 1 := ⟨n - 1, by omega⟩
    have q0 := hI.2.2.2.1 0 (by omega) (by omega)
    have g0 := wf_0 hI.2.1.1
    have o77 := hI.1.2.2.2.2.2
    have : A.v 0 ≤ p := by push_cast at h1; omega
    refine ⟨μ.1, ?_, fun _ _ => rfl, hI⟩
    simp (disch := omega) only [Option.bind_some, km102, km101, km10, km1, k0, k1, k2, k3, k4, k5, k6, k7, k8, k9, k10, k11, k12, k13, k14, k15, k16, k17, k20, k22, k31, k32, k33, k39, k40, k43, k44, k45, k48, k49, k50, k51, k52, k57, k59, k60, k63, k64, k80, k90, k97, k100, k101, k108, k112, k114, k117, k126, k130, k650, k1000, k100000, k1000000, k15485863, k32452867, k2147483647, ii_add, ii_sub, ii_neg, ii_mul, ii_lt, ii_le, ii_eq, if_true, if_false, if_pos, if_neg, lL_text_2, ldI_at o77.1 o77.2, q0]
  | succ f ih =>
    intro n p μ hI h1 h2 h3 h4
    obtain ⟨n, rfl⟩ : ∃ j, n = j + 1 := ⟨n - 1, by omega⟩
    by_cases hp : A.v 0 ≤ p
    · have q0 := hI.2.2.2.1 0 (by omega) (by omega)
      have g0 := wf_0 hI.2.1.1
      have o77 := hI.1.2.2.2.2.2
      refine ⟨μ.1, ?_, fun _ _ => rfl, hI⟩
      simp (disch := omega) only [Option.bind_some, km102, km101, km10, km1, k0, k1, k2, k3, k4, k5, k6, k7, k8, k9, k10, k11, k12, k13, k14, k15, k16, k17, k20, k22, k31, k32, k33, k39, k40, k43, k44, k45, k48, k49, k50, k51, k52, k57, k59, k60, k63, k64, k80, k90, k97, k100, k101, k108, k112, k114, k117, k126, k130, k650, k1000, k100000, k1000000, k15485863, k32452867, k2147483647, ii_add, ii_sub, ii_neg, ii_mul, ii_lt, ii_le, ii_eq, if_true, if_false, if_pos, if_neg, lL_text_2, ldI_at o77.1 o77.2, q0]
    · obtain ⟨m1, a1, a2, a3⟩ := text_p (n := n) hI h3 (by omega)
      obtain ⟨m2, b1, b2, b3⟩ := ih n (p + 1) (m1, μ.2) a3 (by push_cast at h1; omega) (by omega) (by omega) (by omega)
      exact ⟨m2, a1.trans b1, fun a h => (b2 a h).trans (a2 a h), b3⟩
theorem ofn_b {v : Int → Int} (hW : WF v) (x : Int) : 0 ≤ ofn v x ∧ ofn v x ≤ 40 := by
  have := cP_b v x (nP v)
  have g0 := wf_0 hW
  have e : (nP v : Int) ≤ 40 := by unfold nP; omega
  unfold ofn
  omega
theorem text_108 {S : mSh} {A : AS} {μ : mMm} {kk92 : mMm → Nat → Nat → Nat → Int32 → Int32 → Int32 → Option (Int32 × mMm)} {x3 x4 : Int32} {x : Int} (hI : LI S μ.1 A) (hx : 0 ≤ x) (hx1 : x < 16) : ∀ (f n j : Nat), nP A.v - j ≤ f → f < n → j ≤ nP A.v → lL_text_108 kk92 S n μ 0 74 77 x3 x4 (ii x) (ii (cP A.v x j)) (ii (lP A.v x j)) (ii (j + 1)) = if ii (ofn A.v x) ≤ x3 then lL_text_197 kk92 S μ 0 74 77 x3 (ii x) (ii (ofn A.v x)) (ii (lst A.v x)) x4 else lL_text_197 kk92 S μ 0 74 77 x3 (ii x) (ii (ofn A.v x)) (ii (lst A.v x)) (ii x) := by
  obtain ⟨hS, hA, hC, hQ, hX, hR⟩ := hI
  obtain ⟨-, -, ⟨o74, n74⟩, -, -, o77, n77⟩ := hS
  have hW := hA.1
  have g0 := wf_0 hW
  have q0 := hQ 0 (by omega) (by omega)
  have hn : (nP A.v : Int) = max (A.v 0 - 1) 0 := by unfold nP; omega
  have last : ∀ n, lL_text_108 kk92 S (n + 1) μ 0 74 77 x3 x4 (ii x) (ii (cP A.v x (nP A.v))) (ii (lP A.v x (nP A.v))) (ii ((nP A.v : Int) + 1)) = if ii (ofn A.v x) ≤ x3 then lL_text_197 kk92 S μ 0 74 77 x3 (ii x) (ii (ofn A.v x)) (ii (lst A.v x)) x4 else lL_text_197 kk92 S μ 0 74 77 x3 (ii x) (ii (ofn A.v x)) (ii (lst A.v x)) (ii x) := by
    intro n
    rw [lL_text_108, k0, ldI_at o77 n77 (a := 0) (by omega) (by omega) (by omega), Option.bind_some, q0, if_pos (by rw [ii_le (by omega) (by omega) (by omega) (by omega)]; omega)]
    rfl
  intro f
  induction f with
  | zero =>
    intro n j h1 h2 h3
    obtain ⟨n, rfl⟩ : ∃ i, n = i + 1 := ⟨n - 1, by omega⟩
    have : j = nP A.v := by omega
    subst this
    exact last n
  | succ f ih =>
    intro n j h1 h2 h3
    obtain ⟨n, rfl⟩ : ∃ i, n = i + 1 := ⟨n - 1, by omega⟩
    by_cases hj : j = nP A.v
    · subst hj
      exact last n
    · have hI := ih n (j + 1) (by omega) (by omega) (by omega)
      have c1 := hX j (by omega) (by omega)
      have c2 := hX ((j : Int) + 1) (by omega) (by omega)
      have t1 := wf_t hW (k := j) (by omega) (by omega)
      have t2 := wf_t hW (k := (j : Int) + 1) (by omega) (by omega)
      have e1 : cP A.v x (j + 1) = cP A.v x j + (if pr A.v j = x then 1 else 0) := rfl
      have e2 : lP A.v x (j + 1) = if pr A.v j = x then (j : Int) else lP A.v x j := rfl
      rw [e1, e2] at hI
      push_cast at hI
      rw [← hI]
      have e3 : pr A.v j = 4 * tx A.v j + tx A.v (j + 1) := rfl
      have f1 : ∀ y, lL_text_144 kk92 (lL_text_108 kk92 S n) S μ 0 74 77 x3 x4 (ii x) y (ii (lP A.v x j)) (ii ((j : Int) + 1)) = lL_text_108 kk92 S n μ 0 74 77 x3 x4 (ii x) (y + ii 0) (ii (lP A.v x j)) (ii ((j : Int) + 1 + 1)) := fun y => by
        simp (disch := omega) only [Option.bind_some, km102, km101, km10, km1, k0, k1, k2, k3, k4, k5, k6, k7, k8, k9, k10, k11, k12, k13, k14, k15, k16, k17, k20, k22, k31, k32, k33, k39, k40, k43, k44, k45, k48, k49, k50, k51, k52, k57, k59, k60, k63, k64, k80, k90, k97, k100, k101, k108, k112, k114, k117, k126, k130, k650, k1000, k100000, k1000000, k15485863, k32452867, k2147483647, ii_add, ii_sub, ii_neg, ii_mul, ii_lt, ii_le, ii_eq, if_true, if_false, if_pos, if_neg, lL_text_144, lL_text_145, lL_text_159, lL_text_176]
      have f2 : ∀ y, lL_text_145 kk92 (lL_text_108 kk92 S n) S μ 0 74 77 x3 x4 (ii x) y (ii (lP A.v x j)) (ii ((j : Int) + 1)) (ii 1) = lL_text_108 kk92 S n μ 0 74 77 x3 x4 (ii x) (y + ii 1) (ii ((j : Int) + 1 - 1)) (ii ((j : Int) + 1 + 1)) := fun y => by
        simp (disch := omega) only [Option.bind_some, km102, km101, km10, km1, k0, k1, k2, k3, k4, k5, k6, k7, k8, k9, k10, k11, k12, k13, k14, k15, k16, k17, k20, k22, k31, k32, k33, k39, k40, k43, k44, k45, k48, k49, k50, k51, k52, k57, k59, k60, k63, k64, k80, k90, k97, k100, k101, k108, k112, k114, k117, k126, k130, k650, k1000, k100000, k1000000, k15485863, k32452867, k2147483647, ii_add, ii_sub, ii_neg, ii_mul, ii_lt, ii_le, ii_eq, if_true, if_false, if_pos, if_neg, lL_text_145, lL_text_159, lL_text_176]
      by_cases h : pr A.v j = x
      · rw [if_pos h, if_pos h, show (j : Int) = (j : Int) + 1 - 1 by omega]
        rw [show (j : Int) + 1 - 1 + 1 = (j : Int) + 1 by omega]
        have d1 : x / 4 = tx A.v j := by omega
        have d2 : x % 4 = tx A.v (j + 1) := by omega
        rw [show (j : Int) = (j : Int) + 1 - 1 by omega] at c1 d1
        simp (disch := omega) only [Option.bind_some, km102, km101, km10, km1, k0, k1, k2, k3, k4, k5, k6, k7, k8, k9, k10, k11, k12, k13, k14, k15, k16, k17, k20, k22, k31, k32, k33, k39, k40, k43, k44, k45, k48, k49, k50, k51, k52, k57, k59, k60, k63, k64, k80, k90, k97, k100, k101, k108, k112, k114, k117, k126, k130, k650, k1000, k100000, k1000000, k15485863, k32452867, k2147483647, ii_add, ii_sub, ii_neg, ii_mul, ii_lt, ii_le, ii_eq, if_true, if_false, if_pos, if_neg, lL_text_108, ldI_at o77 n77, ldI_at o74 n74, dDiv_at, dRem_at, q0, c1, c2, d1, d2, f2]
      · rw [if_neg h, if_neg h]
        rw [show tx A.v j = tx A.v ((j : Int) + 1 - 1) by rw [show (j : Int) + 1 - 1 = j by omega]] at c1 e3 t1
        rw [show ((j : Int)).toNat = ((j : Int) + 1 - 1).toNat by omega] at c1
        by_cases hd : tx A.v ((j : Int) + 1 - 1) = x / 4
        · have hd2 : ¬ tx A.v ((j : Int) + 1) = x % 4 := by omega
          simp (disch := omega) only [Option.bind_some, km102, km101, km10, km1, k0, k1, k2, k3, k4, k5, k6, k7, k8, k9, k10, k11, k12, k13, k14, k15, k16, k17, k20, k22, k31, k32, k33, k39, k40, k43, k44, k45, k48, k49, k50, k51, k52, k57, k59, k60, k63, k64, k80, k90, k97, k100, k101, k108, k112, k114, k117, k126, k130, k650, k1000, k100000, k1000000, k15485863, k32452867, k2147483647, ii_add, ii_sub, ii_neg, ii_mul, ii_lt, ii_le, ii_eq, if_true, if_false, if_pos, if_neg, lL_text_108, ldI_at o77 n77, ldI_at o74 n74, dDiv_at, dRem_at, q0, c1, c2, f1]
        · simp (disch := omega) only [Option.bind_some, km102, km101, km10, km1, k0, k1, k2, k3, k4, k5, k6, k7, k8, k9, k10, k11, k12, k13, k14, k15, k16, k17, k20, k22, k31, k32, k33, k39, k40, k43, k44, k45, k48, k49, k50, k51, k52, k57, k59, k60, k63, k64, k80, k90, k97, k100, k101, k108, k112, k114, k117, k126, k130, k650, k1000, k100000, k1000000, k15485863, k32452867, k2147483647, ii_add, ii_sub, ii_neg, ii_mul, ii_lt, ii_le, ii_eq, if_true, if_false, if_pos, if_neg, lL_text_108, ldI_at o77 n77, ldI_at o74 n74, dDiv_at, dRem_at, q0, c1, c2, f1]
/-- where the law's look for the most frequent pair stands -/
def FRI (v : Int → Int) (x fr most b : Int) : Prop := (fr = b ∧ most = ofn v b ∧ 1 ≤ x) ∨ (fr = -1 ∧ most = 0 ∧ b = 0 ∧ (1 ≤ x → ofn v 0 = 0))
theorem text_211 {S : mSh} {A : AS} {μ : mMm} {kk92 : mMm → Nat → Nat → Nat → Int32 → Int32 → Int32 → Option (Int32 × mMm)} {x4 t0 : Int32} {x : Int} (hI : LI S μ.1 A) (hx : 0 ≤ x) (hx1 : x < 16) : ∃ m', lL_text_211 kk92 S μ 0 74 77 x4 (ii x) (ii (ofn A.v x)) (ii (lst A.v x)) t0 = kk92 (m', μ.2) 0 74 77 t0 x4 (ii (x + 1)) ∧ (∀ a, 74 ≤ a → m' a = μ.1 a) ∧ LI S m' A := by
  have hI0 := hI
  obtain ⟨hS, hA, hC, hQ, hX, hR⟩ := hI
  have g0 := wf_0 hA.1
  obtain ⟨m1, a1, a2, a3⟩ := cV_at (μ := μ) hS (cPairs hA hC ⟨hx, by omega⟩)
  obtain ⟨m2, b1, b2, b3⟩ := cV_at (μ := (m1, μ.2)) hS (cLastPlaceOf (μ := (m1, μ.2)) hA a3 ⟨hx, by omega⟩)
  have o1 := ofn_b hA.1 x
  have l1 := lP_b A.v x (nP A.v)
  have l1 : -1 ≤ lst A.v x ∧ lst A.v x < nP A.v := l1
  have l2 : (nP A.v : Int) ≤ 40 := by unfold nP; omega
  refine ⟨m2, ?_, fun a h => (b2 a h).trans (a2 a h), LI_c (LI_c hI0 (fun a h _ => a2 a h) a3) (fun a h _ => b2 a h) b3⟩
  simp (disch := omega) only [Option.bind_some, km102, km101, km10, km1, k0, k1, k2, k3, k4, k5, k6, k7, k8, k9, k10, k11, k12, k13, k14, k15, k16, k17, k20, k22, k31, k32, k33, k39, k40, k43, k44, k45, k48, k49, k50, k51, k52, k57, k59, k60, k63, k64, k80, k90, k97, k100, k101, k108, k112, k114, k117, k126, k130, k650, k1000, k100000, k1000000, k15485863, k32452867, k2147483647, ii_add, ii_sub, ii_neg, ii_mul, ii_lt, ii_le, ii_eq, if_true, if_false, if_pos, if_neg, lL_text_211, a1, b1]
theorem text_92 {S : mSh} {A : AS} : ∀ (f n : Nat) (x fr most b : Int) (μ : mMm), LI S μ.1 A → 16 - x ≤ f → f < n → 0 ≤ x → x ≤ 16 → FRI A.v x fr most b → 0 ≤ b → b < 16 → (∃ g : Nat, 16 - x < g ∧ mfr A.v = mfGo (ofn A.v) g x b) → ∃ m', lL_text_92 S n μ 0 74 77 (ii most) (ii fr) (ii x) = some (ii 1, (m', μ.2)) ∧ (∀ a, 74 ≤ a → m' a = μ.1 a) ∧ LI S m' A := by
  have last : ∀ (n : Nat) (fr most b : Int) (μ : mMm), LI S μ.1 A → FRI A.v 16 fr most b → 0 ≤ b → b < 16 → mfr A.v = b → ∃ m', lL_text_92 S (n + 1) μ 0 74 77 (ii most) (ii fr) (ii 16) = some (ii 1, (m', μ.2)) ∧ (∀ a, 74 ≤ a → m' a = μ.1 a) ∧ LI S m' A := by
    intro n fr most b μ hI hF hb0 hb1 hm
    have hI0 := hI
    obtain ⟨hS, hA, hC, hQ, hX, hR⟩ := hI
    have hS1 := hS
    obtain ⟨-, -, -, -, -, o77, n77⟩ := hS
    have hW := hA.1
    have g0 := wf_0 hW
    have g1 := wf_1 hW
    have g2 := wf_2 hW
    have g3 := wf_3 hW
    have q0 := hQ 0 (by omega) (by omega)
    have q1 := hQ 1 (by omega) (by omega)
    have q2 := hQ 2 (by omega) (by omega)
    have q3 := hQ 3 (by omega) (by omega)
    have r0 := cP_at (μ := μ) hS1 (cTextLength hC)
    have r1 := cP_at (μ := μ) hS1 (cWindow hC)
    have r2 := cP_at (μ := μ) hS1 (cShortest hC)
    have r3 := cP_at (μ := μ) hS1 (cLongest hC)
    by_cases h : 2 ≤ A.v 0
    · obtain ⟨m1, a1, a2, a3⟩ := cV_at (μ := μ) hS1 (cMostFrequent hA hC h)
      have hp := mfr_pos hW h
      have e : fr = mfr A.v := by
        rcases hF with ⟨h1, -, -⟩ | ⟨-, -, h2, h3⟩
        · omega
        · rw [hm, h2, h3 (by omega)] at hp
          omega
      rw [hm] at a1 e
      refine ⟨m1, ?_, a2, LI_c hI0 (fun a h _ => a2 a h) a3⟩
      subst e
      simp (disch := omega) only [Option.bind_some, km102, km101, km10, km1, k0, k1, k2, k3, k4, k5, k6, k7, k8, k9, k10, k11, k12, k13, k14, k15, k16, k17, k20, k22, k31, k32, k33, k39, k40, k43, k44, k45, k48, k49, k50, k51, k52, k57, k59, k60, k63, k64, k80, k90, k97, k100, k101, k108, k112, k114, k117, k126, k130, k650, k1000, k100000, k1000000, k15485863, k32452867, k2147483647, ii_add, ii_sub, ii_neg, ii_mul, ii_lt, ii_le, ii_eq, if_true, if_false, if_pos, if_neg, lL_text_92, lL_text_298, ldI_at o77 n77, q0, q1, q2, q3, r0, r1, r2, r3, a1]
    · refine ⟨μ.1, ?_, fun _ _ => rfl, hI0⟩
      simp (disch := omega) only [Option.bind_some, km102, km101, km10, km1, k0, k1, k2, k3, k4, k5, k6, k7, k8, k9, k10, k11, k12, k13, k14, k15, k16, k17, k20, k22, k31, k32, k33, k39, k40, k43, k44, k45, k48, k49, k50, k51, k52, k57, k59, k60, k63, k64, k80, k90, k97, k100, k101, k108, k112, k114, k117, k126, k130, k650, k1000, k100000, k1000000, k15485863, k32452867, k2147483647, ii_add, ii_sub, ii_neg, ii_mul, ii_lt, ii_le, ii_eq, if_true, if_false, if_pos, if_neg, lL_text_92, lL_text_298, ldI_at o77 n77, q0, q1, q2, q3, r0, r1, r2, r3]
  intro f
  induction f with
  | zero =>
    intro n x fr most b μ hI h1 h2 h3 h4 hF hb0 hb1 hg
    obtain ⟨n, rfl⟩ : ∃ j, n = j + 1 := ⟨n - 1, by omega⟩
    have : x = 16 := by push_cast at h1; omega
    subst this
    obtain ⟨g, g1, g2⟩ := hg
    obtain ⟨g, rfl⟩ : ∃ j, g = j + 1 := ⟨g - 1, by omega⟩
    have g2 : mfr A.v = if (16 : Int) ≤ 16 then b else _ := g2
    rw [if_pos (by omega)] at g2
    exact last n fr most b μ hI hF hb0 hb1 g2
  | succ f ih =>
    intro n x fr most b μ hI h1 h2 h3 h4 hF hb0 hb1 hg
    obtain ⟨n, rfl⟩ : ∃ j, n = j + 1 := ⟨n - 1, by omega⟩
    obtain ⟨g, g1, g2⟩ := hg
    obtain ⟨g, rfl⟩ : ∃ j, g = j + 1 := ⟨g - 1, by omega⟩
    by_cases hx : x = 16
    · subst hx
      have g2 : mfr A.v = if (16 : Int) ≤ 16 then b else _ := g2
      rw [if_pos (by omega)] at g2
      exact last n fr most b μ hI hF hb0 hb1 g2
    · have g2 : mfr A.v = if 16 ≤ x then b else mfGo (ofn A.v) g (x + 1) (if ofn A.v b < ofn A.v x then x else b) := g2
      rw [if_neg (by omega)] at g2
      have o0 := ofn_b hI.2.1.1 x
      have o1 := ofn_b hI.2.1.1 b
      have hm : 0 ≤ most ∧ most ≤ 40 := by
        rcases hF with ⟨-, h, -⟩ | ⟨-, h, -, -⟩ <;> omega
      have h108 := text_108 (μ := μ) (kk92 := lL_text_92 S n) (x3 := ii most) (x4 := ii fr) hI h3 (by omega) 40 FU 0 (by have := wf_0 hI.2.1.1; unfold nP; omega) (by decide) (by omega)
      have h108 : lL_text_108 (lL_text_92 S n) S FU μ 0 74 77 (ii most) (ii fr) (ii x) (ii 0) (ii (-1)) (ii 1) = _ := h108
      by_cases hc : ofn A.v x ≤ most
      · obtain ⟨m1, a1, a2, a3⟩ := text_211 (μ := μ) (kk92 := lL_text_92 S n) (x4 := ii fr) (t0 := ii most) hI h3 (by omega)
        have hF2 : FRI A.v (x + 1) fr most b ∧ (if ofn A.v b < ofn A.v x then x else b) = b := by
          rcases hF with ⟨q1, q2, q3⟩ | ⟨q1, q2, q3, q4⟩
          · exact ⟨Or.inl ⟨q1, q2, by omega⟩, if_neg (by omega)⟩
          · refine ⟨Or.inr ⟨q1, q2, q3, fun _ => ?_⟩, if_neg (by rw [q3]; have := ofn_b hI.2.1.1 0; omega)⟩
            by_cases h0 : x = 0
            · rw [h0] at hc o0; omega
            · exact q4 (by omega)
        rw [hF2.2] at g2
        obtain ⟨m2, b1, b2, b3⟩ := ih n (x + 1) fr most b (m1, μ.2) a3 (by push_cast at h1; omega) (by omega) (by omega) (by omega) hF2.1 hb0 hb1 ⟨g, by push_cast at g1; omega, g2⟩
        refine ⟨m2, ?_, fun a h => (b2 a h).trans (a2 a h), b3⟩
        simp (disch := omega) only [Option.bind_some, km102, km101, km10, km1, k0, k1, k2, k3, k4, k5, k6, k7, k8, k9, k10, k11, k12, k13, k14, k15, k16, k17, k20, k22, k31, k32, k33, k39, k40, k43, k44, k45, k48, k49, k50, k51, k52, k57, k59, k60, k63, k64, k80, k90, k97, k100, k101, k108, k112, k114, k117, k126, k130, k650, k1000, k100000, k1000000, k15485863, k32452867, k2147483647, ii_add, ii_sub, ii_neg, ii_mul, ii_lt, ii_le, ii_eq, if_true, if_false, if_pos, if_neg, lL_text_92, h108, lL_text_197, a1]
        exact b1
      · obtain ⟨m1, a1, a2, a3⟩ := text_211 (μ := μ) (kk92 := lL_text_92 S n) (x4 := ii x) (t0 := ii (ofn A.v x)) hI h3 (by omega)
        have hF2 : ∃ b', FRI A.v (x + 1) x (ofn A.v x) b' ∧ (if ofn A.v b < ofn A.v x then x else b) = b' ∧ 0 ≤ b' ∧ b' < 16 := by
          refine ⟨x, Or.inl ⟨rfl, rfl, by omega⟩, ?_, by omega, by omega⟩
          rcases hF with ⟨q1, q2, q3⟩ | ⟨q1, q2, q3, q4⟩
          · exact if_pos (by omega)
          · by_cases h0 : x = 0
            · rw [h0, q3]
              split <;> rfl
            · rw [q3, q4 (by omega)]
              exact if_pos (by omega)
        obtain ⟨b', f1, f2, f3, f4⟩ := hF2
        rw [f2] at g2
        obtain ⟨m2, b1, b2, b3⟩ := ih n (x + 1) x (ofn A.v x) b' (m1, μ.2) a3 (by push_cast at h1; omega) (by omega) (by omega) (by omega) f1 f3 f4 ⟨g, by push_cast at g1; omega, g2⟩
        refine ⟨m2, ?_, fun a h => (b2 a h).trans (a2 a h), b3⟩
        simp (disch := omega) only [Option.bind_some, km102, km101, km10, km1, k0, k1, k2, k3, k4, k5, k6, k7, k8, k9, k10, k11, k12, k13, k14, k15, k16, k17, k20, k22, k31, k32, k33, k39, k40, k43, k44, k45, k48, k49, k50, k51, k52, k57, k59, k60, k63, k64, k80, k90, k97, k100, k101, k108, k112, k114, k117, k126, k130, k650, k1000, k100000, k1000000, k15485863, k32452867, k2147483647, ii_add, ii_sub, ii_neg, ii_mul, ii_lt, ii_le, ii_eq, if_true, if_false, if_pos, if_neg, lL_text_92, h108, lL_text_197, a1]
        exact b1
theorem text_at {S : mSh} {A : AS} {μ : mMm} (hI : LI S μ.1 A) : ∃ m', fL_text S μ 0 74 77 = some (ii 1, (m', μ.2)) ∧ LI S m' A := by
  have g0 := wf_0 hI.2.1.1
  obtain ⟨m1, a1, a2, a3⟩ := text_2 40 FU 0 μ hI (by omega) (by decide) (by omega) (by omega)
  obtain ⟨m2, b1, b2, b3⟩ := text_92 16 FU 0 (-1) 0 0 (m1, μ.2) a3 (by omega) (by decide) (by omega) (by omega) (Or.inr ⟨rfl, rfl, rfl, fun h => by omega⟩) (by omega) (by omega) ⟨21, by omega, by
    show mfr A.v = if (16 : Int) ≤ 0 then 0 else mfGo (ofn A.v) 20 (0 + 1) (if ofn A.v 0 < ofn A.v 0 then 0 else 0)
    rw [if_neg (by omega), if_neg (by omega)]
    rfl⟩
  refine ⟨m2, ?_, b3⟩
  unfold fL_text
  simp (disch := omega) only [Option.bind_some, km102, km101, km10, km1, k0, k1, k2, k3, k4, k5, k6, k7, k8, k9, k10, k11, k12, k13, k14, k15, k16, k17, k20, k22, k31, k32, k33, k39, k40, k43, k44, k45, k48, k49, k50, k51, k52, k57, k59, k60, k63, k64, k80, k90, k97, k100, k101, k108, k112, k114, k117, k126, k130, k650, k1000, k100000, k1000000, k15485863, k32452867, k2147483647, ii_add, ii_sub, ii_neg, ii_mul, ii_lt, ii_le, ii_eq, if_true, if_false, if_pos, if_neg]
  exact a1.trans b1
/-! what the ways cost -/
theorem ways_st {S : mSh} {A : AS} {μ : mMm} {n cx Dn Vn : Nat} {way : Int} (hI : LI S μ.1 A) (hN : mN S < 1000) (hDV : LDV S Dn Vn) (d1 : 78 ≤ Dn) (d2 : 78 ≤ Vn) (h0 : 0 ≤ way) (h2 : way ≤ 2) : ∃ m' z', lL_costsOf_92 (n + 1) S μ cx 0 74 77 Dn Vn (ii 1) (ii way) = lL_costsOf_92 n S (m', z') (cx + 1) 0 74 77 Dn Vn (ii 1) (ii (way + 1)) ∧ (∀ a, 74 ≤ a → a < 78 → m' a = μ.1 a) ∧ LI S m' A := by
  have hI0 := hI
  obtain ⟨hS, hA, hC, hQ, hX, hR⟩ := hI
  have hW := hA.1
  have g0 := wf_0 hW
  have h78 := hS.2.1
  have lD := mok_n hDV.1.1
  have lV := mok_n hDV.2.1.1
  obtain ⟨m1, z1, a1, a2, -⟩ := pack_at (cx := cx) hS hN hDV hW h0 h2 hQ hX
  have I1 : LI S m1 A := LI_fr hI0 (fun a ha => a2 a (by omega) (by omega) (by omega))
  obtain ⟨m2, b1, b2, b3⟩ := cV_at (μ := (m1, z1)) hS (cTokensBy (μ := (m1, z1)) hA I1.2.2.1 ⟨h0, h2⟩)
  obtain ⟨m3, c1, c2, c3⟩ := cV_at (μ := (m2, z1)) hS (cCostBy (μ := (m2, z1)) hA b3 ⟨h0, h2⟩)
  have hb := pkR_b hW way
  have hcs := csm_b (D := pkD A.v way) hW (pkN A.v way).toNat
  have e1 : (pkN A.v way + 1000 * csm A.v (pkD A.v way) (pkN A.v way).toNat) % 1000 = pkN A.v way := by omega
  have e2 : (pkN A.v way + 1000 * csm A.v (pkD A.v way) (pkN A.v way).toNat) / 1000 = csm A.v (pkD A.v way) (pkN A.v way).toNat := by omega
  have hv : mvk S [some (.ref 0), some (.ref 74), some (.ref 77), none, none, some (.ref Dn), some (.ref Vn), some (.int (ii 1)), some (.int (ii way)), none] [] = true := by
    simp [mvk, mvkO, mvk1]
    exact ⟨Nat.lt_of_lt_of_le (by decide) h78, Nat.lt_of_lt_of_le (by decide) h78, Nat.lt_of_lt_of_le (by decide) h78, Or.inl lD, Or.inl lV⟩
  refine ⟨m3, z1, ?_, fun a q0 q1 => (c2 a q0).trans ((b2 a q0).trans (a2 a (by omega) (by omega) (by omega))), LI_c (LI_c I1 (fun a h _ => b2 a h) b3) (fun a h _ => c2 a h) c3⟩
  simp (disch := omega) only [Option.bind_some, km102, km101, km10, km1, k0, k1, k2, k3, k4, k5, k6, k7, k8, k9, k10, k11, k12, k13, k14, k15, k16, k17, k20, k22, k31, k32, k33, k39, k40, k43, k44, k45, k48, k49, k50, k51, k52, k57, k59, k60, k63, k64, k80, k90, k97, k100, k101, k108, k112, k114, k117, k126, k130, k650, k1000, k100000, k1000000, k15485863, k32452867, k2147483647, ii_add, ii_sub, ii_neg, ii_mul, ii_lt, ii_le, ii_eq, if_true, if_false, if_pos, if_neg, lL_costsOf_92, lL_costsOf_151, if_pos hv, a1, b1, c1, dRem_at, dDiv_at, e1, e2]
theorem costsOf_at {S : mSh} {A : AS} {μ : mMm} {cx : Nat} {w : Int} (hI : LI S μ.1 A) (hN : mN S < 900) (w0 : 1 ≤ w) (w1 : w ≤ 32) : ∃ m' z', fgt S (fL_costsOf S μ cx 0 74 77 (ii w)) = some (ii 1, (m', z'), cx + 6) ∧ LI S m' A := by
  have h78 := hI.1.2.1
  have hW := hI.2.1.1
  have hA := hI.2.1
  have g0 := wf_0 hW
  have g1 := wf_1 hW
  have I1 : LI (nSh S 12 41 41) (nMm S μ).1 A := LI_new hI
  have I2 : LI (nSh (nSh S 12 41 41) 12 40 40) (nMm (nSh S 12 41 41) (nMm S μ)).1 A := LI_new I1
  have I3 : LI (nSh (nSh (nSh S 12 41 41) 12 40 40) 12 40 40) (nMm (nSh (nSh S 12 41 41) 12 40 40) (nMm (nSh S 12 41 41) (nMm S μ))).1 A := LI_new I2
  have c1 := nSh_new (S := S) (c := 12) (n := 41) (t := 41)
  have c2 := nSh_new (S := nSh S 12 41 41) (c := 12) (n := 40) (t := 40)
  have c3 := nSh_new (S := nSh (nSh S 12 41 41) 12 40 40) (c := 12) (n := 40) (t := 40)
  have c12 : mok (nSh (nSh (nSh S 12 41 41) 12 40 40) 12 40 40) (mN S) 12 = true ∧ mLn (nSh (nSh (nSh S 12 41 41) 12 40 40) 12 40 40) (mN S) = 41 := nSh_lk (nSh_lk c1)
  have c22 : mok (nSh (nSh (nSh S 12 41 41) 12 40 40) 12 40 40) (mN S + 1) 12 = true ∧ mLn (nSh (nSh (nSh S 12 41 41) 12 40 40) 12 40 40) (mN S + 1) = 40 := nSh_lk c2
  have hp : mPf S (nSh (nSh (nSh S 12 41 41) 12 40 40) 12 40 40) := mPf_new (mPf_new (mPf_new mPf_rf))
  have hn3 : mN (nSh (nSh (nSh S 12 41 41) 12 40 40) 12 40 40) = mN S + 3 := rfl
  have ht3 : mTot (nSh (nSh (nSh S 12 41 41) 12 40 40) 12 40 40) = mTot S + 121 := rfl
  have v1 : mvk S [some (.ref 0), some (.ref 74), some (.ref 77), some (.int (ii w)), none, none, none, none, none, none] [] = true := by
    simp [mvk, mvkO, mvk1]
    exact ⟨Nat.lt_of_lt_of_le (by decide) h78, Nat.lt_of_lt_of_le (by decide) h78, Nat.lt_of_lt_of_le (by decide) h78⟩
  have v2 : mvk (nSh S 12 41 41) [some (.ref 0), some (.ref 74), some (.ref 77), some (.int (ii w)), some (.ref (mN S)), none, none, none, none, none] [] = true := by
    simp [mvk, mvkO, mvk1]
    exact ⟨Nat.lt_of_lt_of_le (by decide) I1.1.2.1, Nat.lt_of_lt_of_le (by decide) I1.1.2.1, Nat.lt_of_lt_of_le (by decide) I1.1.2.1, Or.inl (mok_n c1.1)⟩
  have v3 : mvk (nSh (nSh S 12 41 41) 12 40 40) [some (.ref 0), some (.ref 74), some (.ref 77), some (.int (ii w)), some (.ref (mN S)), some (.ref (mN (nSh S 12 41 41))), none, none, none, none] [] = true := by
    simp [mvk, mvkO, mvk1]
    exact ⟨Nat.lt_of_lt_of_le (by decide) I2.1.2.1, Nat.lt_of_lt_of_le (by decide) I2.1.2.1, Nat.lt_of_lt_of_le (by decide) I2.1.2.1, Or.inl (mok_n (nSh_ok c1.1)), Or.inl (mok_n c2.1)⟩
  generalize hS3 : nSh (nSh (nSh S 12 41 41) 12 40 40) 12 40 40 = S3 at *
  generalize hM3 : nMm (nSh (nSh S 12 41 41) 12 40 40) (nMm (nSh S 12 41 41) (nMm S μ)) = μ3 at *
  have hCC : LRw S3 (mN S) 41 := ⟨c12.1, c12.2, h78⟩
  have hDV : LDV S3 (mN S + 1) (mN S + 2) := ⟨c22, c3, by omega, by omega, by omega, by omega, by omega⟩
  obtain ⟨m4, a1, a2, a3⟩ := costs_at (w := w) I3.1 hCC hW w0 w1 I3.2.2.2.1 I3.2.2.2.2.1
  have I4 : LI S3 m4 A := LI_fr I3 (fun a ha => a2 a (by omega))
  obtain ⟨m5, b1, b2, b3⟩ := cV_at (μ := (m4, μ3.2)) I4.1 (cLeastCostWith (μ := (m4, μ3.2)) hA I4.2.2.1 ⟨w0, w1⟩)
  have I5 : LI S3 m5 A := LI_c I4 (fun a h _ => b2 a h) b3
  have x5 : m5 (mN S) (0 : Int).toNat = ii (cst A.v w 0) := by
    rw [b2 (mN S) (by omega)]
    exact a3 0 (by omega) (by omega)
  obtain ⟨m6, d1, d2, d3⟩ := costs_at (w := A.v 1) (μ := (m5, μ3.2)) I5.1 hCC hW (by omega) (by omega) I5.2.2.2.1 I5.2.2.2.2.1
  have I6 : LI S3 m6 A := LI_fr I5 (fun a ha => d2 a (by omega))
  obtain ⟨m7, e1, e2, e3⟩ := cM_at (μ := (m6, μ3.2)) I6.1 (cLeastCost (μ := (m6, μ3.2)) hA I6.2.2.1)
  have I7 : LI S3 m7 A := LI_c I6 (fun a h _ => e2 a h) e3
  obtain ⟨m8, f1, f2, f3⟩ := cM_at (μ := (m7, μ3.2)) I7.1 (cLeastCostFromBeginning (μ := (m7, μ3.2)) hA I7.2.2.1)
  have I8 : LI S3 m8 A := LI_c I7 (fun a h _ => f2 a h) f3
  rw [fbg_cst hW] at f1
  have x7 : m7 (mN S) (0 : Int).toNat = ii (cst A.v (A.v 1) 0) := by
    rw [e2 (mN S) (by omega)]
    exact d3 0 (by omega) (by omega)
  have x8 : m8 (mN S) (0 : Int).toNat = ii (cst A.v (A.v 1) 0) := by
    rw [f2 (mN S) (by omega)]
    exact x7
  have b5 := cst_b hW w (k := 0) (by omega) (by omega)
  have b7 := cst_b hW (A.v 1) (k := 0) (by omega) (by omega)
  have hF : ∃ q, FU = q + 1 + 1 + 1 + 1 := ⟨4996, rfl⟩
  obtain ⟨q, hq⟩ := hF
  obtain ⟨n1, z1, g1, g2, J1⟩ := ways_st (μ := (m8, μ3.2)) (n := q + 1 + 1 + 1) (cx := cx) (way := 0) I8 (by omega) hDV (by omega) (by omega) (by omega) (by omega)
  obtain ⟨n2, z2, i1, i2, J2⟩ := ways_st (μ := (n1, z1)) (n := q + 1 + 1) (cx := cx + 1) (way := 0 + 1) J1 (by omega) hDV (by omega) (by omega) (by omega) (by omega)
  obtain ⟨n3, z3, j1, j2, J3⟩ := ways_st (μ := (n2, z2)) (n := q + 1) (cx := cx + 1 + 1) (way := 0 + 1 + 1) J2 (by omega) hDV (by omega) (by omega) (by omega) (by omega)
  have lastw : lL_costsOf_92 (q + 1) S3 (n3, z3) (cx + 1 + 1 + 1) 0 74 77 (mN S + 1) (mN S + 2) (ii 1) (ii (0 + 1 + 1 + 1)) = some (ii 1, S3, (n3, z3), cx + 1 + 1 + 1) := by
    simp (disch := omega) only [Option.bind_some, km102, km101, km10, km1, k0, k1, k2, k3, k4, k5, k6, k7, k8, k9, k10, k11, k12, k13, k14, k15, k16, k17, k20, k22, k31, k32, k33, k39, k40, k43, k44, k45, k48, k49, k50, k51, k52, k57, k59, k60, k63, k64, k80, k90, k97, k100, k101, k108, k112, k114, k117, k126, k130, k650, k1000, k100000, k1000000, k15485863, k32452867, k2147483647, ii_add, ii_sub, ii_neg, ii_mul, ii_lt, ii_le, ii_eq, if_true, if_false, if_pos, if_neg, lL_costsOf_92, or_true]
  have q1 := I5.2.2.2.1 1 (by omega) (by omega)
  have o77 := I3.1.2.2.2.2.2
  have h43 : lL_costsOf_43 S3 (m5, μ3.2) cx 0 74 77 (mN S) (mN S + 1) (mN S + 2) (ii 1) = some (ii 1, S3, (n3, z3), cx + 1 + 1 + 1) := by
    rw [← lastw, ← j1, ← i1, ← g1]
    simp (disch := omega) only [Option.bind_some, km102, km101, km10, km1, k0, k1, k2, k3, k4, k5, k6, k7, k8, k9, k10, k11, k12, k13, k14, k15, k16, k17, k20, k22, k31, k32, k33, k39, k40, k43, k44, k45, k48, k49, k50, k51, k52, k57, k59, k60, k63, k64, k80, k90, k97, k100, k101, k108, k112, k114, k117, k126, k130, k650, k1000, k100000, k1000000, k15485863, k32452867, k2147483647, ii_add, ii_sub, ii_neg, ii_mul, ii_lt, ii_le, ii_eq, if_true, if_false, if_pos, if_neg, lL_costsOf_43, lL_costsOf_87, ldI_at o77.1 o77.2, ldI_at c12.1 c12.2, q1, d1, e1, f1, x7, x8, hq]
  have key : fL_costsOf S μ cx 0 74 77 (ii w) = some (ii 1, S3, (n3, z3), cx + 1 + 1 + 1) := by
    unfold fL_costsOf
    rw [aN_at v1 (by omega), Option.bind_some]
    show ((aN (nSh S 12 41 41) (nMm S μ) _ [] 12 40 40).bind _) = _
    rw [aN_at v2 (by rw [nSh_n]; omega), Option.bind_some]
    show ((aN (nSh (nSh S 12 41 41) 12 40 40) (nMm (nSh S 12 41 41) (nMm S μ)) _ [] 12 40 40).bind _) = _
    rw [aN_at v3 (by rw [nSh_n, nSh_n]; omega), Option.bind_some, hS3, hM3]
    show (fL_costs S3 μ3 74 77 (ii w) (mN S)).bind _ = _
    rw [a1, Option.bind_some, b1, Option.bind_some, k0, ldI_at c12.1 c12.2 (by omega) (by omega) (by omega), Option.bind_some]
    show (if ii (cst A.v w 0) = m5 (mN S) (0 : Int).toNat then lL_costsOf_43 S3 (m5, μ3.2) cx 0 74 77 (mN S) (mN S + 1) (mN S + 2) (ii 1) else _) = _
    rw [x5, if_pos rfl]
    exact h43
  refine ⟨n3, z3, ?_, ?_⟩
  · rw [key, fgt_at hp (by omega) (by omega), hn3, show cx + 1 + 1 + 1 + (mN S + 3 - mN S) = cx + 6 by omega]
  · have fr : ∀ a, 74 ≤ a → a < 78 → n3 a = μ.1 a := fun a h0 h1 => by
      have s1 : μ3.1 a = μ.1 a := by
        rw [← hM3]
        exact (nMm_1 (by rw [nSh_n, nSh_n]; omega)).trans ((nMm_1 (by rw [nSh_n]; omega)).trans (nMm_1 (by omega)))
      exact (j2 a h0 h1).trans ((i2 a h0 h1).trans ((g2 a h0 h1).trans ((f2 a h0).trans ((e2 a h0).trans ((d2 a (by omega)).trans ((b2 a h0).trans ((a2 a (by omega)).trans s1)))))))
    exact LI_c hI fr J3.2.2.1
