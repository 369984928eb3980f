/-! the calls of the class over saved states and the buffer -/
variable {μ : mMm} {A : AS} {q q2 : Int}
def popA (A : AS) : AS := (A.sc (A.c - 1) (fun i => A.H (i + 1))).sv (A.H 0)
theorem AW_pop (hA : AW A) (hc : 0 < A.c) : AW (popA A) := by
  obtain ⟨h1, h2, h3, h4⟩ := hA
  refine ⟨h3 0 hc, ?_, fun i hi => ?_, h4⟩
  · show 0 ≤ A.c - 1 ∧ A.c - 1 ≤ 6
    omega
  · have hi2 : (i : Int) < A.c - 1 := hi
    exact h3 (i + 1) (by omega)
theorem AW_keep (hA : AW A) : AW (A.ss A.v) := ⟨hA.1, hA.2.1, hA.2.2.1, Or.inr ⟨rfl, hA.1⟩, hA.2.2.2.2⟩
theorem AW_sb {b : Int} {Y : Int → Int} (hA : AW A) (h0 : 0 ≤ b ∧ b ≤ 60) (hY : ∀ j, 0 ≤ j → j < b → 33 ≤ Y j ∧ Y j ≤ 126) : AW (A.sb b Y) := ⟨hA.1, hA.2.1, hA.2.2.1, hA.2.2.2.1, h0, hY⟩
theorem CI_sb {m m' : Nat → Nat → Int32} {b : Int} {Y : Int → Int} (hC : CI m A) (h : ∀ a, a < 59 → m' a = m a) (hb : m' 59 1 = ii b) (hY : ∀ j, 0 ≤ j → j < b → m' 60 j.toNat = ii (Y j)) : CI m' (A.sb b Y) := by
  obtain ⟨c1, c2, c3, c4, c5, c6⟩ := hC
  refine ⟨RS_fr (fun j hj => h _ (by omega)) c1, HC_fr (fun b h7 h8 => h b (by omega)) c2, ?_, fun hs => RS_fr (fun j hj => h _ (by omega)) (c4 hs), hb, hY⟩
  rw [h 0 (by omega)]
  exact c3