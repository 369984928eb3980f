/-! the reference packs -/
def csm (v D : Int → Int) : Nat → Int
  | 0 => 0
  | n + 1 => csm v D n + (if D n = 0 then v 4 else v 5)
theorem csm_b {v D : Int → Int} (hW : WF v) : ∀ n : Nat, n ≤ csm v D n ∧ csm v D n ≤ 20 * n
  | 0 => ⟨Int.le_refl _, Int.le_refl _⟩
  | n + 1 => by
    have := csm_b (D := D) hW n
    have g4 := wf_4 hW
    have g5 := wf_5 hW
    unfold csm
    split <;> (push_cast; omega)
def RK (m : Nat → Nat → Int32) (k : Int) (D V : Int → Int) : Prop := m 74 6 = ii k ∧ ∀ j, 0 ≤ j → j < k → m 78 (2 * j).toNat = ii (D j) ∧ m 78 (2 * j + 1).toNat = ii (V j)
theorem RK_put {m : Nat → Nat → Int32} {k d x : Int} {D V : Int → Int} (h : RK m k D V) (h0 : 0 ≤ k) : RK (u2 (u2 (u2 m 78 (2 * k).toNat (ii d)) 78 (2 * k + 1).toNat (ii x)) 74 6 (ii (k + 1))) (k + 1) (upI D k d) (upI V k x) := by
  refine ⟨by simp (disch := omega) only [u2_at], fun j h1 h2 => ?_⟩
  by_cases hj : j = k
  · subst hj
    rw [upI_s, upI_s]
    refine ⟨by simp (disch := omega) only [u2_off, u2_at], by simp (disch := omega) only [u2_off, u2_at]⟩
  · rw [upI_n hj, upI_n hj]
    have := h.2 j h1 (by omega)
    refine ⟨by simp (disch := omega) only [u2_off]; exact this.1, by simp (disch := omega) only [u2_off]; exact this.2⟩
/-- the frame of the reference's packing: its row, its count -/
def PF (m m' : Nat → Nat → Int32) : Prop := (∀ a, a ≠ 78 → a ≠ 74 → a ≠ 79 → m' a = m a) ∧ ∀ b, b ≠ 6 → m' 74 b = m 74 b
/-! emptying -/
def clr (v : Int → Int) (a c : Int) : Int → Int := fun k => if a ≤ k ∧ k < a + c then 0 else v k
theorem RZ_ext {m : Nat → Nat → Int32} {v w : Int → Int} (h : ∀ k, 0 ≤ k → k < 130 → v k = w k) (hR : RZ m v) : RZ m w := fun k h0 h1 => (hR k h0 h1).trans (congrArg ii (h k h0 h1))
theorem RZ_up {m : Nat → Nat → Int32} {v : Int → Int} {k x : Int} (hR : RZ m v) (h0 : 0 ≤ k) : RZ (u2 m 75 k.toNat (ii x)) (upI v k x) := by
  intro j h1 h2
  by_cases hj : j = k
  · subst hj
    rw [upI_s]
    simp (disch := omega) only [u2_at]
  · rw [upI_n hj]
    simp (disch := omega) only [u2_off]
    exact hR j h1 h2
/-! the sack laid anew -/
def rwv (D V : Int → Int) (i : Int) : Int := if i % 2 = 0 then D (i / 2) else V (i / 2)
def setSk (v : Int → Int) (n : Int) (D V : Int → Int) : Int → Int := fun k => if k = 6 then n else if 50 ≤ k then (if k < 50 + 2 * n then rwv D V (k - 50) else 0) else v k
def layV (v : Int → Int) (j : Int) (D V : Int → Int) : Int → Int := fun k => if 50 ≤ k ∧ k < 50 + j then rwv D V (k - 50) else v k
theorem RK_v {m : Nat → Nat → Int32} {k : Int} {D V : Int → Int} (hS : RK m k D V) {i : Int} (h0 : 0 ≤ i) (h1 : i < 2 * k) : m 78 i.toNat = ii (rwv D V i) := by
  have := hS.2 (i / 2) (by omega) (by omega)
  unfold rwv
  by_cases hi : i % 2 = 0
  · rw [if_pos hi, ← this.1]
    congr 1
    omega
  · rw [if_neg hi, ← this.2]
    congr 1
    omega
def pkv (v : Int → Int) (way : Int) : Int → Int := setSk v (pkN v way) (pkD v way) (pkV v way)