/-! the class's automaton over a part -/
variable {b : Int} {Y : Int → Int}
theorem aut_s {f : Nat} {s i : Int} (h : bh s (Y i) ≠ -1) : aut Y (f + 1) s i = aut Y f (bh s (Y i)) (i + 1) := if_neg h
theorem aut_e {f : Nat} {s i : Int} (h : bh s (Y i) = -1) : aut Y (f + 1) s i = i := if_pos h
/-- where the automaton is behind a part: at an end state whose every further step is that of a part's end -/
def EndS (s : Int) (c : Int) : Prop := (s = 2 ∨ s = 9 ∨ s = 10 ∨ s = 11) ∧ bh s c = bpC c
theorem aut_letters : ∀ (f : Nat) (i : Int), b - i = f → aut Y f 2 i = aut Y (b - lr b Y f i).toNat 2 (lr b Y f i) ∧ fin Y f 2 i = fin Y (b - lr b Y f i).toNat 2 (lr b Y f i) ∧ (lr b Y f i < b → bh 2 (Y (lr b Y f i)) = bpC (Y (lr b Y f i))) := by
  intro f
  induction f with
  | zero =>
    intro i h
    have e : (b - i).toNat = 0 := by omega
    unfold lr
    rw [e]
    exact ⟨rfl, rfl, fun hh => by omega⟩
  | succ f ih =>
    intro i h
    push_cast at h
    have hs : sg b Y i = Y i := if_pos (by omega)
    by_cases c : 97 ≤ sg b Y i ∧ sg b Y i ≤ 100
    · have r := ih (i + 1) (by omega)
      have e : lr b Y (f + 1) i = lr b Y f (i + 1) := if_pos c
      rw [hs] at c
      have h2 : bh 2 (Y i) = 2 := by
        unfold bh
        rw [if_neg (by omega), if_neg (by omega), if_pos rfl, if_pos c]
      rw [e, aut_s (by omega), h2]
      refine ⟨r.1, ?_, r.2.2⟩
      show fin Y f (bh 2 (Y i)) (i + 1) = _
      rw [h2]
      exact r.2.1
    · have e : lr b Y (f + 1) i = i := if_neg c
      rw [hs] at c
      rw [e, show (b - i).toNat = f + 1 by omega]
      refine ⟨rfl, rfl, fun _ => ?_⟩
      unfold bh
      rw [if_neg (by omega), if_neg (by omega), if_pos rfl, if_neg c]
