/-! the automaton through a part of each kind -/
variable {b : Int} {Y : Int → Int}
def AutP (b : Int) (Y : Int → Int) (i : Int) (p : Int × Int × Int × Int) : Prop := (p.1 = -1 → ∃ s, isEnd s = 1 ∧ (p.2.1 < b → bh s (Y p.2.1) = bpC (Y p.2.1)) ∧ aut Y (b - i).toNat 0 i = aut Y (b - p.2.1).toNat s p.2.1 ∧ fin Y (b - i).toNat 0 i = fin Y (b - p.2.1).toNat s p.2.1) ∧ (p.1 ≠ -1 → aut Y (b - i).toNat 0 i = p.1 ∧ isEnd (fin Y (b - i).toNat 0 i) = 0)
theorem aut_one {i s t : Int} (hi : i < b) (h : bh s (Y i) = t) (ht : t ≠ -1) : aut Y (b - i).toNat s i = aut Y (b - (i + 1)).toNat t (i + 1) ∧ fin Y (b - i).toNat s i = fin Y (b - (i + 1)).toNat t (i + 1) := by
  rw [show (b - i).toNat = (b - (i + 1)).toNat + 1 by omega]
  refine ⟨by rw [aut_s (by omega), h], ?_⟩
  show fin Y _ (bh s (Y i)) (i + 1) = _
  rw [h]
theorem aut_no {i s : Int} (hi : i < b) (h : bh s (Y i) = -1) : aut Y (b - i).toNat s i = i ∧ fin Y (b - i).toNat s i = -1 := by
  rw [show (b - i).toNat = (b - (i + 1)).toNat + 1 by omega]
  exact ⟨aut_e h, fin_e h⟩
theorem bh_11 (c : Int) : bh 11 c = bpC c := by
  unfold bh
  rw [if_neg (by omega), if_neg (by omega), if_neg (by omega), if_neg (by omega), if_neg (by omega), if_neg (by omega), if_neg (by omega), if_neg (by omega), if_neg (by omega), if_neg (by omega), if_neg (by omega), if_pos rfl]
theorem isEnd_11 : isEnd 11 = 1 := by decide
theorem isEnd_m1 : isEnd (-1) = 0 := by decide
theorem autp_one {i : Int} (hi : i < b) (h : bh 0 (Y i) = 11) {x y : Int} : AutP b Y i (-1, i + 1, x, y) := by
  have r := aut_one hi h (by omega)
  exact ⟨fun _ => ⟨11, isEnd_11, fun _ => bh_11 _, r.1, r.2⟩, fun hh => absurd rfl hh⟩
theorem autp_bad {i : Int} (hi : i < b) (h0 : 0 ≤ i) (h : bh 0 (Y i) = -1) {j x y : Int} : AutP b Y i (i, j, x, y) := by
  have r := aut_no hi h
  refine ⟨fun hh => ?_, fun _ => ⟨r.1, by rw [r.2]; exact isEnd_m1⟩⟩
  have hh : i = -1 := hh
  omega
/-- a sign that must be followed by one of some signs -/
theorem autp_two {i t x y : Int} (h0 : 0 ≤ i) (hi : i < b) (h : bh 0 (Y i) = t) (ht : t ≠ -1) (hte : isEnd t = 0) {P : Prop} [Decidable P] (hg : i + 1 < b → P → bh t (Y (i + 1)) = 11) (hb : i + 1 < b → ¬ P → bh t (Y (i + 1)) = -1) (hP : P → i + 1 < b) : AutP b Y i ((if P then -1 else i + 1), i + 2, x, y) := by
  have r := aut_one hi h ht
  by_cases hp : P
  · rw [if_pos hp]
    have hib := hP hp
    have r2 := aut_one hib (hg hib hp) (by omega)
    rw [show i + 1 + 1 = i + 2 by omega] at r2
    exact ⟨fun _ => ⟨11, isEnd_11, fun _ => bh_11 _, r.1.trans r2.1, r.2.trans r2.2⟩, fun hh => absurd rfl hh⟩
  · rw [if_neg hp]
    refine ⟨fun hh => ?_, fun _ => ?_⟩
    · have hh : i + 1 = -1 := hh
      omega
    · by_cases hib : i + 1 < b
      · have r2 := aut_no hib (hb hib hp)
        exact ⟨r.1.trans r2.1, by rw [r.2.trans r2.2]; exact isEnd_m1⟩
      · have e : (b - (i + 1)).toNat = 0 := by omega
        rw [e] at r
        exact ⟨r.1, by rw [r.2]; exact hte⟩
