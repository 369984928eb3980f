/-! where parts end -/
variable {b : Int} {Y : Int → Int}
theorem sg_in {i : Int} (h : 0 ≤ sg b Y i) : i < b := by
  unfold sg at h
  by_cases hh : i < b
  · exact hh
  · rw [if_neg hh] at h
    omega
theorem nm_end {lim i : Int} (h : (nm b Y lim i).1 = -1) (h0 : 0 ≤ i) : (nm b Y lim i).2.1 ≤ b := by
  unfold nm at h ⊢
  by_cases c1 : 49 ≤ sg b Y i ∧ sg b Y i ≤ 57
  · have g1 := sg_in (show 0 ≤ sg b Y i by omega)
    rw [if_neg (by omega)] at h ⊢
    by_cases c2 : 48 ≤ sg b Y (i + 1) ∧ sg b Y (i + 1) ≤ 57
    · have g2 := sg_in (show 0 ≤ sg b Y (i + 1) by omega)
      rw [if_neg (by omega)] at h ⊢
      by_cases c3 : lim < 10 * (sg b Y i - 48) + sg b Y (i + 1) - 48
      · rw [if_pos c3] at h
        have h : i + 1 = -1 := h
        omega
      · rw [if_neg c3] at h ⊢
        by_cases c4 : 48 ≤ sg b Y (i + 2) ∧ sg b Y (i + 2) ≤ 57
        · rw [if_neg (by omega)] at h
          have h : i + 2 = -1 := h
          omega
        · rw [if_pos c4]
          show i + 2 ≤ b
          omega
    · rw [if_pos c2]
      show i + 1 ≤ b
      omega
  · rw [if_pos c1] at h
    have h : i = -1 := h
    omega
theorem prd_b {j : Int} (h0 : 0 ≤ j) : ((prd b Y j).1 = -1 → j + 1 ≤ (prd b Y j).2.1 ∧ (prd b Y j).2.1 ≤ b) ∧ ((prd b Y j).1 = -1 ∨ (0 ≤ (prd b Y j).1 ∧ (prd b Y j).1 ≤ j + 10)) := by
  have n1 := nm_b b Y 39 h0
  have n2 := nm_b b Y 40 (show 0 ≤ (nm b Y 39 j).2.1 + 1 by omega)
  have n3 := nm_end (b := b) (Y := Y) (lim := 40) (i := (nm b Y 39 j).2.1 + 1)
  unfold prd
  by_cases c1 : (nm b Y 39 j).1 = -1
  · rw [if_pos c1]
    by_cases c2 : sg b Y (nm b Y 39 j).2.1 = 44
    · rw [if_pos c2]
      refine ⟨fun h => ⟨?_, n3 h (by omega)⟩, ?_⟩
      · show j + 1 ≤ (nm b Y 40 ((nm b Y 39 j).2.1 + 1)).2.1
        omega
      · show (nm b Y 40 ((nm b Y 39 j).2.1 + 1)).1 = -1 ∨ (0 ≤ (nm b Y 40 ((nm b Y 39 j).2.1 + 1)).1 ∧ (nm b Y 40 ((nm b Y 39 j).2.1 + 1)).1 ≤ j + 10)
        omega
    · rw [if_neg c2]
      refine ⟨fun h => ?_, ?_⟩
      · have h : (nm b Y 39 j).2.1 = -1 := h
        omega
      · show (nm b Y 39 j).2.1 = -1 ∨ (0 ≤ (nm b Y 39 j).2.1 ∧ (nm b Y 39 j).2.1 ≤ j + 10)
        omega
  · rw [if_neg c1]
    refine ⟨fun h => absurd h c1, ?_⟩
    show (nm b Y 39 j).1 = -1 ∨ (0 ≤ (nm b Y 39 j).1 ∧ (nm b Y 39 j).1 ≤ j + 10)
    omega
theorem ptS_b {i : Int} (h0 : 0 ≤ i) : ((ptS b Y i).1 = -1 → i + 1 ≤ (ptS b Y i).2.1 ∧ (ptS b Y i).2.1 ≤ b) ∧ ((ptS b Y i).1 = -1 ∨ (0 ≤ (ptS b Y i).1 ∧ (ptS b Y i).1 ≤ i + 11)) := by
  unfold ptS
  by_cases c43 : sg b Y i = 43
  · rw [if_pos c43]
    by_cases c : 97 ≤ sg b Y (i + 1) ∧ sg b Y (i + 1) ≤ 100
    · have g := sg_in (show 0 ≤ sg b Y (i + 1) by omega)
      have l := lr_b b Y (b - (i + 2)).toNat (i + 2) (by omega)
      rw [if_pos c]
      refine ⟨fun _ => ⟨?_, l.2⟩, Or.inl rfl⟩
      show i + 1 ≤ lr b Y (b - (i + 2)).toNat (i + 2)
      omega
    · rw [if_neg c]
      refine ⟨fun h => ?_, Or.inr ⟨?_, ?_⟩⟩
      · have h : i + 1 = -1 := h
        omega
      · show 0 ≤ i + 1
        omega
      · show i + 1 ≤ i + 11
        omega
  · rw [if_neg c43]
    by_cases c112 : sg b Y i = 112
    · rw [if_pos c112]
      by_cases c : 48 ≤ sg b Y (i + 1) ∧ sg b Y (i + 1) ≤ 50
      · have g := sg_in (show 0 ≤ sg b Y (i + 1) by omega)
        rw [if_pos c]
        refine ⟨fun _ => ⟨?_, ?_⟩, Or.inl rfl⟩
        · show i + 1 ≤ i + 2
          omega
        · show i + 2 ≤ b
          omega
      · rw [if_neg c]
        refine ⟨fun h => ?_, Or.inr ⟨?_, ?_⟩⟩
        · have h : i + 1 = -1 := h
          omega
        · show 0 ≤ i + 1
          omega
        · show i + 1 ≤ i + 11
          omega
    · rw [if_neg c112]
      by_cases c108 : sg b Y i = 108
      · rw [if_pos c108]
        by_cases c : 97 ≤ sg b Y (i + 1) ∧ sg b Y (i + 1) ≤ 100
        · have g := sg_in (show 0 ≤ sg b Y (i + 1) by omega)
          rw [if_pos c]
          refine ⟨fun _ => ⟨?_, ?_⟩, Or.inl rfl⟩
          · show i + 1 ≤ i + 2
            omega
          · show i + 2 ≤ b
            omega
        · rw [if_neg c]
          refine ⟨fun h => ?_, Or.inr ⟨?_, ?_⟩⟩
          · have h : i + 1 = -1 := h
            omega
          · show 0 ≤ i + 1
            omega
          · show i + 1 ≤ i + 11
            omega
      · rw [if_neg c108]
        by_cases c114 : sg b Y i = 114
        · rw [if_pos c114]
          have p := prd_b (b := b) (Y := Y) (show 0 ≤ i + 1 by omega)
          refine ⟨fun h => ?_, ?_⟩
          · have := p.1 h
            omega
          · have := p.2
            omega
        · rw [if_neg c114]
          by_cases ok : okS (sg b Y i) = 1
          · have g : i < b := by
              refine sg_in (Y := Y) ?_
              unfold okS at ok
              by_cases hh : sg b Y i = 43 ∨ sg b Y i = 45 ∨ sg b Y i = 112 ∨ sg b Y i = 117 ∨ sg b Y i = 101 ∨ sg b Y i = 108 ∨ sg b Y i = 114
              · omega
              · rw [if_neg hh] at ok
                omega
            rw [if_pos ok]
            refine ⟨fun _ => ⟨?_, ?_⟩, Or.inl rfl⟩
            · show i + 1 ≤ i + 1
              omega
            · show i + 1 ≤ b
              omega
          · rw [if_neg ok]
            refine ⟨fun h => ?_, Or.inr ⟨h0, ?_⟩⟩
            · have h : i = -1 := h
              omega
            · show i ≤ i + 11
              omega
