/-! the reference unpacks -/
def RN (m : Nat → Nat → Int32) (r : Int × (Int → Int) × Int × Int) : Prop := m 74 14 = ii r.1 ∧ (∀ i, 0 ≤ i → i < r.1 → m 80 i.toNat = ii (r.2.1 i)) ∧ m 74 12 = ii r.2.2.1 ∧ m 74 13 = ii r.2.2.2
def UF (m m' : Nat → Nat → Int32) : Prop := (∀ a, a ≠ 80 → a ≠ 74 → m' a = m a) ∧ ∀ b, b ≠ 12 → b ≠ 13 → b ≠ 14 → m' 74 b = m 74 b
theorem UF.rf {m : Nat → Nat → Int32} : UF m m := ⟨fun _ _ _ => rfl, fun _ _ _ _ => rfl⟩
theorem UF.tr {m m1 m2 : Nat → Nat → Int32} (h : UF m m1) (k : UF m1 m2) : UF m m2 := ⟨fun a ha hb => (k.1 a ha hb).trans (h.1 a ha hb), fun b h1 h2 h3 => (k.2 b h1 h2 h3).trans (h.2 b h1 h2 h3)⟩
theorem put80 {m : Nat → Nat → Int32} {u x : Int} {U : Int → Int} (h0 : 0 ≤ u) (h : ∀ i, 0 ≤ i → i < u → m 80 i.toNat = ii (U i)) : ∀ i, 0 ≤ i → i < u + 1 → (u2 (u2 m 80 u.toNat (ii x)) 74 14 (ii (u + 1))) 80 i.toNat = ii (upI U u x i) := by
  intro i h1 h2
  by_cases hi : i = u
  · subst hi
    rw [upI_s]
    simp (disch := omega) only [u2_off, u2_at]
  · rw [upI_n hi]
    simp (disch := omega) only [u2_off]
    exact h i h1 (by omega)
theorem UF_put {m : Nat → Nat → Int32} {u x : Int} : UF m (u2 (u2 m 80 u.toNat (ii x)) 74 14 (ii (u + 1))) := ⟨fun a ha hb => by simp (disch := omega) only [u2_offr], fun b h1 h2 h3 => by simp (disch := omega) only [u2_off]⟩
/-! the text laid anew -/
def layT (v : Int → Int) (j : Int) (U : Int → Int) : Int → Int := fun k => if 10 ≤ k ∧ k < 10 + j then U (k - 10) else v k
def setTx (v : Int → Int) (n : Int) (U : Int → Int) : Int → Int := fun k => if k = 0 then n else if 10 ≤ k ∧ k < 50 then (if k < 10 + n then U (k - 10) else 0) else v k