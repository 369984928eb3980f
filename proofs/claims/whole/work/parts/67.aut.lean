/-! the class's automaton over a part -/
variable {b : Int} {Y : Int → Int}
theorem aut_s {f : Nat} {s i : Int} (h : bh s (Y i) ≠ -1) : aut Y (f + 1) s i = aut Y f (bh s (Y i)) (i + 1) := if_neg h
theorem aut_e {f : Nat} {s i : Int} (h : bh s (Y i) = -1) : aut Y (f + 1) s i = i := if_pos h
/-- where the automaton is behind a part: at an end state whose every further step is that of a part's end -/
def EndS (s : Int) (c : Int) : Prop := (s = 2 ∨ s = 9 ∨ s = 10 ∨ s = 11) ∧ bh s c = bpC c
theorem aut_letters : ∀ (f : Nat) (i : Int), b - i = f → aut Y f 2 i = aut Y (b - lr b Y f i).toNat 2 (lr b Y f i) ∧ fin Y f 2 i = fin Y (b - lr b Y f i).toNat 2 (lr b Y f i) ∧ (lr b Y f i < b → bh 2 (Y (lr b Y f i)) = bpC (Y (lr b Y f i))) := by
  intro f
  induction f with
  | zero =>
    intro i h
    have e : (b - i).toNat = 0 := by omega
    unfold lr
    rw [e]
    exact ⟨rfl, rfl, fun hh => by omega⟩
  | succ f ih =>
    intro i h
    push_cast at h
    have hs : sg b Y i = Y i := if_pos (by omega)
    by_cases c : 97 ≤ sg b Y i ∧ sg b Y i ≤ 100
    · have r := ih (i + 1) (by omega)
      have e : lr b Y (f + 1) i = lr b Y f (i + 1) := if_pos c
      rw [hs] at c
      have h2 : bh 2 (Y i) = 2 := by
        unfold bh
        rw [if_neg (by omega), if_neg (by omega), if_pos rfl, if_pos c]
      rw [e, aut_s (by omega), h2]
      refine ⟨r.1, ?_, r.2.2⟩
      show fin Y f (bh 2 (Y i)) (i + 1) = _
      rw [h2]
      exact r.2.1
    · have e : lr b Y (f + 1) i = i := if_neg c
      rw [hs] at c
      rw [e, show (b - i).toNat = f + 1 by omega]
      refine ⟨rfl, rfl, fun _ => ?_⟩
      unfold bh
      rw [if_neg (by omega), if_neg (by omega), if_pos rfl, if_neg c]
theorem bh_m1 (c : Int) : bh (-1) c = -1 := by
  unfold bh
  rw [if_neg (by omega), if_neg (by omega), if_neg (by omega), if_neg (by omega), if_neg (by omega), if_neg (by omega), if_neg (by omega), if_neg (by omega), if_neg (by omega), if_neg (by omega), if_neg (by omega), if_neg (by omega)]
theorem fin_m1 (Y : Int → Int) : ∀ (f : Nat) (i : Int), fin Y f (-1) i = -1 := by
  intro f
  induction f with
  | zero => exact fun _ => rfl
  | succ f ih =>
    intro i
    show fin Y f (bh (-1) (Y i)) (i + 1) = -1
    rw [bh_m1]
    exact ih (i + 1)
theorem fin_e {f : Nat} {s i : Int} (h : bh s (Y i) = -1) : fin Y (f + 1) s i = -1 := by
  show fin Y f (bh s (Y i)) (i + 1) = -1
  rw [h]
  exact fin_m1 Y f (i + 1)
/-- behind a part -/
theorem aut_end {s j : Int} (hj : j ≤ b) (h : j < b → bh s (Y j) = bpC (Y j)) : (j = b → aut Y (b - j).toNat s j = b ∧ fin Y (b - j).toNat s j = s) ∧ (j < b → Y j = 59 → aut Y (b - j).toNat s j = aut Y (b - (j + 1)).toNat 0 (j + 1) ∧ fin Y (b - j).toNat s j = fin Y (b - (j + 1)).toNat 0 (j + 1)) ∧ (j < b → Y j ≠ 59 → aut Y (b - j).toNat s j = j ∧ fin Y (b - j).toNat s j = -1) := by
  refine ⟨fun e => ?_, fun e hc => ?_, fun e hc => ?_⟩
  · rw [show (b - j).toNat = 0 by omega]
    exact ⟨e, rfl⟩
  · have hb : bh s (Y j) = 0 := (h e).trans (if_pos hc)
    rw [show (b - j).toNat = (b - (j + 1)).toNat + 1 by omega, aut_s (by omega), hb]
    refine ⟨rfl, ?_⟩
    show fin Y _ (bh s (Y j)) (j + 1) = _
    rw [hb]
  · have hb : bh s (Y j) = -1 := (h e).trans (if_neg hc)
    rw [show (b - j).toNat = (b - (j + 1)).toNat + 1 by omega]
    exact ⟨aut_e hb, fin_e hb⟩
