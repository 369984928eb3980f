/-! what the document counts, over a row of 130 numbers: 0 the letters' count, 1 window, 2 shortest, 3 longest, 4 price of a letter, 5 of a repeat, 6 the tokens' count, 7 stopped, 8 the part, 9 why, 10.. the letters, 50.. the tokens by twos -/
def tx (v : Int → Int) (k : Int) : Int := v (10 + k)
def tkD (v : Int → Int) (t : Int) : Int := v (50 + 2 * t)
def tkV (v : Int → Int) (t : Int) : Int := v (51 + 2 * t)
def tkOk (v : Int → Int) (t : Int) : Prop := 0 ≤ tkD v t ∧ tkD v t ≤ 39 ∧ (tkD v t = 0 → 0 ≤ tkV v t ∧ tkV v t ≤ 3) ∧ (tkD v t ≠ 0 → 1 ≤ tkV v t ∧ tkV v t ≤ 40)
def WF (v : Int → Int) : Prop := (0 ≤ v 0 ∧ v 0 ≤ 40) ∧ (1 ≤ v 1 ∧ v 1 ≤ 32) ∧ (2 ≤ v 2 ∧ v 2 ≤ 4) ∧ (4 ≤ v 3 ∧ v 3 ≤ 9) ∧ (1 ≤ v 4 ∧ v 4 ≤ 9) ∧ (1 ≤ v 5 ∧ v 5 ≤ 20) ∧ (0 ≤ v 6 ∧ v 6 ≤ 40) ∧ (0 ≤ v 9 ∧ v 9 ≤ 4 ∧ v 7 = (if v 9 = 0 then 0 else 1) ∧ 0 ≤ v 8 ∧ v 8 ≤ 60 ∧ (v 9 = 0 → v 8 = 0)) ∧ (∀ k, 0 ≤ k → k < v 0 → 0 ≤ tx v k ∧ tx v k ≤ 3) ∧ (∀ t, 0 ≤ t → t < v 6 → tkOk v t)
theorem wf_0 {v : Int → Int} (h : WF v) : 0 ≤ v 0 ∧ v 0 ≤ 40 := h.1
theorem wf_1 {v : Int → Int} (h : WF v) : 1 ≤ v 1 ∧ v 1 ≤ 32 := h.2.1
theorem wf_2 {v : Int → Int} (h : WF v) : 2 ≤ v 2 ∧ v 2 ≤ 4 := h.2.2.1
theorem wf_3 {v : Int → Int} (h : WF v) : 4 ≤ v 3 ∧ v 3 ≤ 9 := h.2.2.2.1
theorem wf_4 {v : Int → Int} (h : WF v) : 1 ≤ v 4 ∧ v 4 ≤ 9 := h.2.2.2.2.1
theorem wf_5 {v : Int → Int} (h : WF v) : 1 ≤ v 5 ∧ v 5 ≤ 20 := h.2.2.2.2.2.1
theorem wf_6 {v : Int → Int} (h : WF v) : 0 ≤ v 6 ∧ v 6 ≤ 40 := h.2.2.2.2.2.2.1
theorem wf_9 {v : Int → Int} (h : WF v) : 0 ≤ v 9 ∧ v 9 ≤ 4 ∧ v 7 = (if v 9 = 0 then 0 else 1) ∧ 0 ≤ v 8 ∧ v 8 ≤ 60 ∧ (v 9 = 0 → v 8 = 0) := h.2.2.2.2.2.2.2.1
theorem wf_t {v : Int → Int} (h : WF v) {k : Int} (h0 : 0 ≤ k) (h1 : k < v 0) : 0 ≤ tx v k ∧ tx v k ≤ 3 := h.2.2.2.2.2.2.2.2.1 k h0 h1
theorem wf_k {v : Int → Int} (h : WF v) {t : Int} (h0 : 0 ≤ t) (h1 : t < v 6) : tkOk v t := h.2.2.2.2.2.2.2.2.2 t h0 h1
/-- the class's state at a holds v; the reference's row q from off on holds v -/
def RS (m : Nat → Nat → Int32) (a : Nat) (v : Int → Int) : Prop := m (a + 1) 1 = ii (v 0) ∧ (m (a + 6) 0 = ii (v 1) ∧ m (a + 6) 1 = ii (v 2) ∧ m (a + 6) 2 = ii (v 3) ∧ m (a + 6) 3 = ii (v 4) ∧ m (a + 6) 4 = ii (v 5)) ∧ m (a + 3) 2 = ii (v 6) ∧ (m a 3 = ii (v 8) ∧ m a 4 = ii (v 9)) ∧ (∀ k, 0 ≤ k → k < v 0 → m (a + 2) k.toNat = ii (tx v k)) ∧ (∀ t, 0 ≤ t → t < v 6 → m (a + 4) t.toNat = ii (tkD v t) ∧ m (a + 5) t.toNat = ii (tkV v t))
def RM (m : Nat → Nat → Int32) (q : Nat) (off : Int) (v : Int → Int) : Prop := ∀ k, 0 ≤ k → k < 130 → m q (off + k).toNat = ii (v k)
/-! repeats -/
def aGo (T : Int → Int) (e d : Int) : Nat → Int → Int
  | 0, b => b
  | f + 1, b => if b < e ∧ T b = T (b - d) then aGo T e d f (b + 1) else b
def alk (v : Int → Int) (p d : Int) : Int := aGo (tx v) (min (p + v 3) (v 0)) d 10 p - p
def lGo (A : Int → Int) (w p s : Int) : Nat → Int → Int → Int
  | 0, _, b => b
  | f + 1, d, b => if w < d ∨ p < d then b else lGo A w p s f (d + 1) (if s ≤ A d ∧ b < A d then A d else b)
def lng (v : Int → Int) (p w : Int) : Int := lGo (alk v p) w p (v 2) 40 1 0
def dGo (A : Int → Int) (n : Int) : Nat → Int → Int
  | 0, _ => 0
  | f + 1, d => if A d < n then dGo A n f (d + 1) else d
def dst (v : Int → Int) (p n : Int) : Int := dGo (alk v p) n 40 1
theorem aGo_b (T : Int → Int) (e d : Int) : ∀ (f : Nat) (b : Int), b ≤ aGo T e d f b ∧ (b ≤ e → aGo T e d f b ≤ e) ∧ (e ≤ b → aGo T e d f b = b) ∧ aGo T e d f b ≤ b + f
  | 0, b => ⟨Int.le_refl _, fun h => h, fun _ => rfl, by simp [aGo]⟩
  | f + 1, b => by
    obtain ⟨h1, h2, h3, h4⟩ := aGo_b T e d f (b + 1)
    unfold aGo
    by_cases h : b < e ∧ T b = T (b - d)
    · rw [if_pos h]
      exact ⟨by omega, fun _ => h2 (by omega), fun _ => by omega, by push_cast; omega⟩
    · rw [if_neg h]
      exact ⟨Int.le_refl _, fun h => h, fun _ => rfl, by push_cast; omega⟩
theorem alk_b {v : Int → Int} (hW : WF v) {p d : Int} (h0 : 0 ≤ p) : 0 ≤ alk v p d ∧ alk v p d ≤ v 3 ∧ (p ≤ v 0 → p + alk v p d ≤ v 0) ∧ (v 0 ≤ p → alk v p d = 0) := by
  obtain ⟨h1, h2, h3, h4⟩ := aGo_b (tx v) (min (p + v 3) (v 0)) d 10 p
  have := wf_3 hW
  unfold alk
  refine ⟨by omega, ?_, fun h => ?_, fun h => ?_⟩
  · by_cases hp : p ≤ v 0
    · have := h2 (by omega); omega
    · have := h3 (by omega); omega
  · have := h2 (by omega); omega
  · have := h3 (by omega); omega
theorem lGo_b {A : Int → Int} {w p s m : Int} (hA : ∀ d, 0 ≤ A d ∧ A d ≤ m) (hs : 0 ≤ s) : ∀ (f : Nat) (d b : Int), 0 ≤ b → b ≤ m → 1 ≤ d → 0 ≤ lGo A w p s f d b ∧ lGo A w p s f d b ≤ m ∧ (lGo A w p s f d b = b ∨ (s ≤ lGo A w p s f d b ∧ b < lGo A w p s f d b ∧ ∃ d0, d ≤ d0 ∧ d0 ≤ w ∧ d0 ≤ p ∧ A d0 = lGo A w p s f d b))
  | 0, d, b, h0, h1, _ => ⟨h0, h1, Or.inl rfl⟩
  | f + 1, d, b, h0, h1, h2 => by
    unfold lGo
    by_cases h : w < d ∨ p < d
    · rw [if_pos h]; exact ⟨h0, h1, Or.inl rfl⟩
    · rw [if_neg h]
      have hd := hA d
      by_cases h3 : s ≤ A d ∧ b < A d
      · rw [if_pos h3]
        obtain ⟨g1, g2, g3⟩ := lGo_b hA hs f (d + 1) (A d) (by omega) (by omega) (by omega)
        refine ⟨g1, g2, Or.inr ?_⟩
        rcases g3 with g3 | ⟨g3, g4, d0, g5, g6, g7, g8⟩
        · rw [g3]
          exact ⟨h3.1, h3.2, d, by omega, by omega, by omega, rfl⟩
        · exact ⟨g3, by omega, d0, by omega, g6, g7, g8⟩
      · rw [if_neg h3]
        obtain ⟨g1, g2, g3⟩ := lGo_b hA hs f (d + 1) b h0 h1 (by omega)
        refine ⟨g1, g2, ?_⟩
        rcases g3 with g3 | ⟨g3, g4, d0, g5, g6, g7, g8⟩
        · exact Or.inl g3
        · exact Or.inr ⟨g3, g4, d0, by omega, g6, g7, g8⟩
theorem lng_b {v : Int → Int} (hW : WF v) {p w : Int} (h0 : 0 ≤ p) : 0 ≤ lng v p w ∧ lng v p w ≤ v 3 ∧ (lng v p w = 0 ∨ (v 2 ≤ lng v p w ∧ ∃ d0, 1 ≤ d0 ∧ d0 ≤ w ∧ d0 ≤ p ∧ alk v p d0 = lng v p w)) := by
  have h3 := wf_3 hW
  have h2 := wf_2 hW
  obtain ⟨g1, g2, g3⟩ := lGo_b (A := alk v p) (w := w) (p := p) (s := v 2) (m := v 3) (fun d => ⟨(alk_b hW h0).1, (alk_b hW h0).2.1⟩) (by omega) 40 1 0 (by omega) (by omega) (by omega)
  refine ⟨g1, g2, ?_⟩
  rcases g3 with g3 | ⟨g3, g4, d0, g5, g6, g7, g8⟩
  · exact Or.inl g3
  · exact Or.inr ⟨g3, d0, g5, g6, g7, g8⟩
theorem lng_e {v : Int → Int} (hW : WF v) {p w : Int} (h0 : 0 ≤ p) (h1 : p ≤ v 0) : p + lng v p w ≤ v 0 := by
  rcases (lng_b hW (w := w) h0).2.2 with h | ⟨-, d0, -, -, -, h⟩
  · omega
  · have := (alk_b hW (d := d0) h0).2.2.1 h1
    omega
theorem lng_0 {v : Int → Int} (hW : WF v) {p w : Int} (h0 : 0 ≤ p) (h1 : v 0 ≤ p) : lng v p w = 0 := by
  rcases (lng_b hW (w := w) h0).2.2 with h | ⟨g, d0, -, -, -, h⟩
  · exact h
  · have := (alk_b hW (d := d0) h0).2.2.2 h1
    have := wf_2 hW
    omega
theorem dGo_b {A : Int → Int} {n : Int} : ∀ (f : Nat) (d d0 : Int), 0 ≤ d → d ≤ d0 → n ≤ A d0 → d0 - d < f → d ≤ dGo A n f d ∧ dGo A n f d ≤ d0 ∧ n ≤ A (dGo A n f d)
  | 0, d, d0, h0, h1, _, h3 => by push_cast at h3; omega
  | f + 1, d, d0, h0, h1, h2, h3 => by
    unfold dGo
    by_cases h : A d < n
    · rw [if_pos h]
      have hne : d ≠ d0 := fun e => by rw [e] at h; omega
      obtain ⟨g1, g2, g3⟩ := dGo_b f (d + 1) d0 (by omega) (by omega) h2 (by push_cast at h3; omega)
      exact ⟨by omega, g2, g3⟩
    · rw [if_neg h]
      exact ⟨Int.le_refl _, h1, by omega⟩
