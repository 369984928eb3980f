/-! the automaton through numbers, and through a part of any kind -/
variable {b : Int} {Y : Int → Int}
theorem bh_0 (c : Int) : bh 0 c = bsC c := by simp [bh]
theorem bh_1 (c : Int) : bh 1 c = if 97 ≤ c ∧ c ≤ 100 then 2 else -1 := by simp [bh]
theorem bh_2 (c : Int) : bh 2 c = if 97 ≤ c ∧ c ≤ 100 then 2 else bpC c := by simp [bh]
theorem bh_3 (c : Int) : bh 3 c = if 48 ≤ c ∧ c ≤ 50 then 11 else -1 := by simp [bh]
theorem bh_4 (c : Int) : bh 4 c = if 97 ≤ c ∧ c ≤ 100 then 11 else -1 := by simp [bh]
theorem bh_5 (c : Int) : bh 5 c = if 49 ≤ c ∧ c ≤ 57 then (if 51 < c then 7 else 6) else -1 := by simp [bh]
theorem bh_6 (c : Int) : bh 6 c = if 48 ≤ c ∧ c ≤ 57 then 7 else bdC c := by simp [bh]
theorem bh_7 (c : Int) : bh 7 c = bdC c := by simp [bh]
theorem bh_8 (c : Int) : bh 8 c = if 49 ≤ c ∧ c ≤ 57 then (if c = 52 then 10 else if 51 < c then 11 else 9) else -1 := by simp [bh]
theorem bh_9 (c : Int) : bh 9 c = if 48 ≤ c ∧ c ≤ 57 then 11 else bpC c := by simp [bh]
theorem bh_10 (c : Int) : bh 10 c = if c = 48 then 11 else bpC c := by simp [bh]
theorem bpC_n {c : Int} (h : c ≠ 59) : bpC c = -1 := if_neg h
theorem bdC_n {c : Int} (h : c ≠ 44) : bdC c = -1 := if_neg h
theorem sg_Y {i : Int} (h : 0 ≤ sg b Y i) : i < b ∧ sg b Y i = Y i := ⟨sg_in h, if_pos (sg_in h)⟩
theorem sg_lt {i : Int} (h : i < b) : sg b Y i = Y i := if_pos h
def AN (b : Int) (Y : Int → Int) (s0 j : Int) (C : Int → Int) (f w e : Int) : Prop := (w = -1 → ∃ s, isEnd s = f ∧ (e < b → bh s (Y e) = C (Y e)) ∧ aut Y (b - j).toNat s0 j = aut Y (b - e).toNat s e ∧ fin Y (b - j).toNat s0 j = fin Y (b - e).toNat s e) ∧ (w ≠ -1 → aut Y (b - j).toNat s0 j = w ∧ isEnd (fin Y (b - j).toNat s0 j) = 0)
theorem an_go {i j s t f w e : Int} {C : Int → Int} (hi : i < b) (hj : j = i + 1) (h : bh s (Y i) = t) (ht : t ≠ -1) (hA : AN b Y t j C f w e) : AN b Y s i C f w e := by
  subst hj
  have r := aut_one hi h ht
  unfold AN at hA ⊢
  rw [r.1, r.2]
  exact hA
theorem an_no {i s f w e : Int} {C : Int → Int} (hi : i < b) (h : bh s (Y i) = -1) (h0 : 0 ≤ i) (hw : w = i) : AN b Y s i C f w e := by
  subst hw
  have r := aut_no hi h
  refine ⟨fun hh => by omega, fun _ => ⟨r.1, by rw [r.2]; exact isEnd_m1⟩⟩
theorem an_bad {i s f w e : Int} {C : Int → Int} (hi : i ≤ b) (h : i < b → bh s (Y i) = -1) (hs : isEnd s = 0) (h0 : 0 ≤ i) (hw : w = i) : AN b Y s i C f w e := by
  by_cases hib : i < b
  · exact an_no hib (h hib) h0 hw
  · subst hw
    have e : (b - w).toNat = 0 := by omega
    refine ⟨fun hh => by omega, fun _ => ?_⟩
    rw [e]
    exact ⟨rfl, hs⟩
theorem an_end {s f w e e2 : Int} {C : Int → Int} (hs : isEnd s = f) (h : e < b → bh s (Y e) = C (Y e)) (hw : w = -1) (he : e2 = e) : AN b Y s e C f w e2 := by
  subst he
  exact ⟨fun _ => ⟨s, hs, h, rfl, rfl⟩, fun hh => absurd hw hh⟩
/-- numbers -/
theorem aut_39 {j : Int} (h0 : 0 ≤ j) (hj : j ≤ b) : AN b Y 5 j bdC 0 (nm b Y 39 j).1 (nm b Y 39 j).2.1 := by
  by_cases c1 : 49 ≤ sg b Y j ∧ sg b Y j ≤ 57
  · obtain ⟨g1, e1⟩ := sg_Y (b := b) (Y := Y) (i := j) (by omega)
    have a1 : bh 5 (Y j) = if 51 < Y j then 7 else 6 := by rw [bh_5, if_pos (by omega)]
    by_cases c2 : 48 ≤ sg b Y (j + 1) ∧ sg b Y (j + 1) ≤ 57
    · obtain ⟨g2, e2⟩ := sg_Y (b := b) (Y := Y) (i := j + 1) (by omega)
      by_cases c3 : 39 < 10 * (sg b Y j - 48) + sg b Y (j + 1) - 48
      · have en : (nm b Y 39 j).1 = j + 1 ∧ (nm b Y 39 j).2.1 = j + 2 := by
          unfold nm
          rw [if_neg (by omega), if_neg (by omega), if_pos c3]
          exact ⟨rfl, rfl⟩
        rw [en.1, en.2]
        refine an_go g1 rfl (a1.trans (if_pos (by omega))) (by omega) (an_no g2 ?_ (by omega) rfl)
        rw [bh_7]
        exact bdC_n (by omega)
      · have a2 : bh 6 (Y (j + 1)) = 7 := by rw [bh_6, if_pos (by omega)]
        by_cases c4 : 48 ≤ sg b Y (j + 2) ∧ sg b Y (j + 2) ≤ 57
        · obtain ⟨g3, e3⟩ := sg_Y (b := b) (Y := Y) (i := j + 2) (by omega)
          have en : (nm b Y 39 j).1 = j + 2 ∧ (nm b Y 39 j).2.1 = j + 3 := by
            unfold nm
            rw [if_neg (by omega), if_neg (by omega), if_neg c3, if_neg (by omega)]
            exact ⟨rfl, rfl⟩
          rw [en.1, en.2]
          refine an_go g1 rfl (a1.trans (if_neg (by omega))) (by omega) (an_go (j := j + 2) g2 (by omega) a2 (by omega) (an_no g3 ?_ (by omega) rfl))
          rw [bh_7]
          exact bdC_n (by omega)
        · have en : (nm b Y 39 j).1 = -1 ∧ (nm b Y 39 j).2.1 = j + 2 := by
            unfold nm
            rw [if_neg (by omega), if_neg (by omega), if_neg c3, if_pos c4]
            exact ⟨rfl, rfl⟩
          rw [en.1, en.2]
          exact an_go g1 rfl (a1.trans (if_neg (by omega))) (by omega) (an_go (j := j + 2) g2 (by omega) a2 (by omega) (an_end (by decide) (fun _ => bh_7 _) rfl rfl))
    · have en : (nm b Y 39 j).1 = -1 ∧ (nm b Y 39 j).2.1 = j + 1 := by
        unfold nm
        rw [if_neg (by omega), if_pos c2]
        exact ⟨rfl, rfl⟩
      rw [en.1, en.2]
      by_cases c5 : 51 < Y j
      · exact an_go g1 rfl (a1.trans (if_pos c5)) (by omega) (an_end (by decide) (fun _ => bh_7 _) rfl rfl)
      · refine an_go g1 rfl (a1.trans (if_neg c5)) (by omega) (an_end (by decide) (fun hh => ?_) rfl rfl)
        rw [sg_lt hh] at c2
        rw [bh_6, if_neg c2]
  · have en : (nm b Y 39 j).1 = j ∧ (nm b Y 39 j).2.1 = j + 1 := by
      unfold nm
      rw [if_pos c1]
      exact ⟨rfl, rfl⟩
    rw [en.1, en.2]
    refine an_bad hj (fun hh => ?_) (by decide) h0 rfl
    rw [sg_lt hh] at c1
    rw [bh_5, if_neg c1]
theorem aut_40 {j : Int} (h0 : 0 ≤ j) (hj : j ≤ b) : AN b Y 8 j bpC 1 (nm b Y 40 j).1 (nm b Y 40 j).2.1 := by
  by_cases c1 : 49 ≤ sg b Y j ∧ sg b Y j ≤ 57
  · obtain ⟨g1, e1⟩ := sg_Y (b := b) (Y := Y) (i := j) (by omega)
    have a1 : bh 8 (Y j) = if Y j = 52 then 10 else if 51 < Y j then 11 else 9 := by rw [bh_8, if_pos (by omega)]
    by_cases c2 : 48 ≤ sg b Y (j + 1) ∧ sg b Y (j + 1) ≤ 57
    · obtain ⟨g2, e2⟩ := sg_Y (b := b) (Y := Y) (i := j + 1) (by omega)
      by_cases c3 : 40 < 10 * (sg b Y j - 48) + sg b Y (j + 1) - 48
      · have en : (nm b Y 40 j).1 = j + 1 ∧ (nm b Y 40 j).2.1 = j + 2 := by
          unfold nm
          rw [if_neg (by omega), if_neg (by omega), if_pos c3]
          exact ⟨rfl, rfl⟩
        rw [en.1, en.2]
        by_cases c5 : Y j = 52
        · refine an_go g1 rfl (a1.trans (if_pos c5)) (by omega) (an_no g2 ?_ (by omega) rfl)
          rw [bh_10, if_neg (by omega)]
          exact bpC_n (by omega)
        · refine an_go g1 rfl (a1.trans ((if_neg c5).trans (if_pos (by omega)))) (by omega) (an_no g2 ?_ (by omega) rfl)
          rw [bh_11]
          exact bpC_n (by omega)
      · have a2 : ∃ t, t ≠ -1 ∧ bh 8 (Y j) = t ∧ bh t (Y (j + 1)) = 11 := by
          by_cases c5 : Y j = 52
          · refine ⟨10, by omega, a1.trans (if_pos c5), ?_⟩
            rw [bh_10, if_pos (by omega)]
          · refine ⟨9, by omega, a1.trans ((if_neg c5).trans (if_neg (by omega))), ?_⟩
            rw [bh_9, if_pos (by omega)]
        obtain ⟨t, t1, t2, t3⟩ := a2
        by_cases c4 : 48 ≤ sg b Y (j + 2) ∧ sg b Y (j + 2) ≤ 57
        · obtain ⟨g3, e3⟩ := sg_Y (b := b) (Y := Y) (i := j + 2) (by omega)
          have en : (nm b Y 40 j).1 = j + 2 ∧ (nm b Y 40 j).2.1 = j + 3 := by
            unfold nm
            rw [if_neg (by omega), if_neg (by omega), if_neg c3, if_neg (by omega)]
            exact ⟨rfl, rfl⟩
          rw [en.1, en.2]
          refine an_go g1 rfl t2 t1 (an_go (j := j + 2) g2 (by omega) t3 (by omega) (an_no g3 ?_ (by omega) rfl))
          rw [bh_11]
          exact bpC_n (by omega)
        · have en : (nm b Y 40 j).1 = -1 ∧ (nm b Y 40 j).2.1 = j + 2 := by
            unfold nm
            rw [if_neg (by omega), if_neg (by omega), if_neg c3, if_pos c4]
            exact ⟨rfl, rfl⟩
          rw [en.1, en.2]
          exact an_go g1 rfl t2 t1 (an_go (j := j + 2) g2 (by omega) t3 (by omega) (an_end (by decide) (fun _ => bh_11 _) rfl rfl))
    · have en : (nm b Y 40 j).1 = -1 ∧ (nm b Y 40 j).2.1 = j + 1 := by
        unfold nm
        rw [if_neg (by omega), if_pos c2]
        exact ⟨rfl, rfl⟩
      rw [en.1, en.2]
      by_cases c5 : Y j = 52
      · refine an_go g1 rfl (a1.trans (if_pos c5)) (by omega) (an_end (by decide) (fun hh => ?_) rfl rfl)
        rw [sg_lt hh] at c2
        rw [bh_10, if_neg (by omega)]
      · by_cases c6 : 51 < Y j
        · exact an_go g1 rfl (a1.trans ((if_neg c5).trans (if_pos c6))) (by omega) (an_end (by decide) (fun _ => bh_11 _) rfl rfl)
        · refine an_go g1 rfl (a1.trans ((if_neg c5).trans (if_neg c6))) (by omega) (an_end (by decide) (fun hh => ?_) rfl rfl)
          rw [sg_lt hh] at c2
          rw [bh_9, if_neg c2]
  · have en : (nm b Y 40 j).1 = j ∧ (nm b Y 40 j).2.1 = j + 1 := by
      unfold nm
      rw [if_pos c1]
      exact ⟨rfl, rfl⟩
    rw [en.1, en.2]
    refine an_bad hj (fun hh => ?_) (by decide) h0 rfl
    rw [sg_lt hh] at c1
    rw [bh_8, if_neg c1]
theorem aut_prd {j : Int} (h0 : 0 ≤ j) (hj : j ≤ b) : AN b Y 5 j bpC 1 (prd b Y j).1 (prd b Y j).2.1 := by
  have r := aut_39 (b := b) (Y := Y) h0 hj
  have nb := nm_b b Y 39 h0
  have ne := nm_end (b := b) (Y := Y) (lim := 39) (i := j)
  unfold prd
  generalize hp : nm b Y 39 j = p at r nb ne ⊢
  obtain ⟨w, e, x⟩ := p
  dsimp only at r nb ne ⊢
  by_cases c1 : w = -1
  · rw [if_pos c1]
    have ne := ne c1 h0
    obtain ⟨s, s1, s2, s3, s4⟩ := r.1 c1
    by_cases c2 : sg b Y e = 44
    · rw [if_pos c2]
      dsimp only
      obtain ⟨g1, e1⟩ := sg_Y (b := b) (Y := Y) (i := e) (by omega)
      have a := an_go (C := bpC) (f := 1) g1 rfl ((s2 g1).trans (if_pos (by omega))) (by omega) (aut_40 (b := b) (Y := Y) (j := e + 1) (by omega) (by omega))
      unfold AN at a ⊢
      rw [s3, s4]
      exact a
    · rw [if_neg c2]
      dsimp only
      have a : AN b Y s e bpC 1 e (e + 1) := an_bad ne (fun hh => by
        rw [sg_lt hh] at c2
        exact (s2 hh).trans (bdC_n c2)) s1 (by omega) rfl
      unfold AN at a ⊢
      rw [s3, s4]
      exact a
  · rw [if_neg c1]
    exact ⟨fun hh => absurd hh c1, r.2⟩
/-- a part of any kind -/
theorem autp_at {i : Int} (h0 : 0 ≤ i) (hi : i ≤ b) : AN b Y 0 i bpC 1 (ptS b Y i).1 (ptS b Y i).2.1 := by
  unfold ptS
  by_cases c43 : sg b Y i = 43
  · obtain ⟨g1, e1⟩ := sg_Y (b := b) (Y := Y) (i := i) (by omega)
    have a1 : bh 0 (Y i) = 1 := by
      rw [bh_0, ← e1, c43]
      decide
    rw [if_pos c43]
    by_cases c : 97 ≤ sg b Y (i + 1) ∧ sg b Y (i + 1) ≤ 100
    · obtain ⟨g2, e2⟩ := sg_Y (b := b) (Y := Y) (i := i + 1) (by omega)
      rw [if_pos c]
      dsimp only
      have l := aut_letters (b := b) (Y := Y) (b - (i + 2)).toNat (i + 2) (by omega)
      refine an_go g1 rfl a1 (by omega) (an_go (j := i + 2) (t := 2) g2 (by omega) ?_ (by omega) ⟨fun _ => ⟨2, by decide, l.2.2, l.1, l.2.1⟩, fun hh => absurd rfl hh⟩)
      rw [bh_1, if_pos (by omega)]
    · rw [if_neg c]
      dsimp only
      refine an_go g1 rfl a1 (by omega) (an_bad (by omega) (fun hh => ?_) (by decide) (by omega) rfl)
      rw [sg_lt hh] at c
      rw [bh_1, if_neg c]
  · rw [if_neg c43]
    by_cases c112 : sg b Y i = 112
    · obtain ⟨g1, e1⟩ := sg_Y (b := b) (Y := Y) (i := i) (by omega)
      have a1 : bh 0 (Y i) = 3 := by
        rw [bh_0, ← e1, c112]
        decide
      rw [if_pos c112]
      dsimp only
      by_cases c : 48 ≤ sg b Y (i + 1) ∧ sg b Y (i + 1) ≤ 50
      · obtain ⟨g2, e2⟩ := sg_Y (b := b) (Y := Y) (i := i + 1) (by omega)
        rw [if_pos c]
        refine an_go g1 rfl a1 (by omega) (an_go (j := i + 2) (t := 11) g2 (by omega) ?_ (by omega) (an_end (by decide) (fun _ => bh_11 _) rfl rfl))
        rw [bh_3, if_pos (by omega)]
      · rw [if_neg c]
        refine an_go g1 rfl a1 (by omega) (an_bad (by omega) (fun hh => ?_) (by decide) (by omega) rfl)
        rw [sg_lt hh] at c
        rw [bh_3, if_neg c]
    · rw [if_neg c112]
      by_cases c108 : sg b Y i = 108
      · obtain ⟨g1, e1⟩ := sg_Y (b := b) (Y := Y) (i := i) (by omega)
        have a1 : bh 0 (Y i) = 4 := by
          rw [bh_0, ← e1, c108]
          decide
        rw [if_pos c108]
        dsimp only
        by_cases c : 97 ≤ sg b Y (i + 1) ∧ sg b Y (i + 1) ≤ 100
        · obtain ⟨g2, e2⟩ := sg_Y (b := b) (Y := Y) (i := i + 1) (by omega)
          rw [if_pos c]
          refine an_go g1 rfl a1 (by omega) (an_go (j := i + 2) (t := 11) g2 (by omega) ?_ (by omega) (an_end (by decide) (fun _ => bh_11 _) rfl rfl))
          rw [bh_4, if_pos (by omega)]
        · rw [if_neg c]
          refine an_go g1 rfl a1 (by omega) (an_bad (by omega) (fun hh => ?_) (by decide) (by omega) rfl)
          rw [sg_lt hh] at c
          rw [bh_4, if_neg c]
      · rw [if_neg c108]
        by_cases c114 : sg b Y i = 114
        · obtain ⟨g1, e1⟩ := sg_Y (b := b) (Y := Y) (i := i) (by omega)
          have a1 : bh 0 (Y i) = 5 := by
            rw [bh_0, ← e1, c114]
            decide
          rw [if_pos c114]
          exact an_go g1 rfl a1 (by omega) (aut_prd (by omega) (by omega))
        · rw [if_neg c114]
          dsimp only
          by_cases ok : okS (sg b Y i) = 1
          · rw [if_pos ok]
            have oo : sg b Y i = 45 ∨ sg b Y i = 117 ∨ sg b Y i = 101 := by
              unfold okS at ok
              by_cases hh : sg b Y i = 43 ∨ sg b Y i = 45 ∨ sg b Y i = 112 ∨ sg b Y i = 117 ∨ sg b Y i = 101 ∨ sg b Y i = 108 ∨ sg b Y i = 114
              · omega
              · rw [if_neg hh] at ok
                omega
            obtain ⟨g1, e1⟩ := sg_Y (b := b) (Y := Y) (i := i) (by omega)
            have a1 : bh 0 (Y i) = 11 := by
              rw [bh_0, ← e1]
              rcases oo with oo | oo | oo
              · rw [oo]
                decide
              · rw [oo]
                decide
              · rw [oo]
                decide
            exact an_go g1 rfl a1 (by omega) (an_end (by decide) (fun _ => bh_11 _) rfl rfl)
          · rw [if_neg ok]
            refine an_bad hi (fun hh => ?_) (by decide) h0 rfl
            have e1 : sg b Y i = Y i := sg_lt hh
            have no : ¬ (sg b Y i = 43 ∨ sg b Y i = 45 ∨ sg b Y i = 112 ∨ sg b Y i = 117 ∨ sg b Y i = 101 ∨ sg b Y i = 108 ∨ sg b Y i = 114) := fun h => ok (if_pos h)
            rw [bh_0]
            unfold bsC
            rw [if_neg (by omega), if_neg (by omega), if_neg (by omega), if_neg (by omega), if_neg (by omega), if_neg (by omega), if_neg (by omega)]
theorem aut_rd : ∀ (f : Nat) (i : Int), b + 1 - i ≤ f → 0 ≤ i → i ≤ b → aut Y (b - i).toNat 0 i = (if rdW b Y f i = -1 then b else rdW b Y f i) ∧ isEnd (fin Y (b - i).toNat 0 i) = (if rdW b Y f i = -1 then 1 else 0) := by
  intro f
  induction f with
  | zero =>
    intro i h1 h2 h3
    omega
  | succ f ih =>
    intro i h1 h2 h3
    push_cast at h1
    have a := autp_at (b := b) (Y := Y) h2 h3
    have pb := ptS_b (b := b) (Y := Y) h2
    unfold rdW
    generalize ptS b Y i = p at a pb ⊢
    obtain ⟨w, e, x⟩ := p
    dsimp only at a pb ⊢
    by_cases c1 : w = -1
    · obtain ⟨s, s1, s2, s3, s4⟩ := a.1 c1
      have pe := pb.1 c1
      have q := aut_end (b := b) (Y := Y) (s := s) (j := e) pe.2 s2
      rw [if_pos c1, s3, s4]
      by_cases c2 : b ≤ e
      · obtain ⟨q1, q2⟩ := q.1 (by omega)
        rw [if_pos c2, q1, q2, if_pos rfl, if_pos rfl]
        exact ⟨rfl, s1⟩
      · rw [if_neg c2]
        have e1 : sg b Y e = Y e := sg_lt (by omega)
        by_cases c3 : Y e = 59
        · obtain ⟨q1, q2⟩ := q.2.1 (by omega) c3
          rw [if_pos (e1.trans c3), q1, q2]
          exact ih (e + 1) (by omega) (by omega) (by omega)
        · obtain ⟨q1, q2⟩ := q.2.2 (by omega) c3
          rw [e1, if_neg c3, q1, q2, if_neg (by omega), if_neg (by omega)]
          exact ⟨rfl, isEnd_m1⟩
    · obtain ⟨q1, q2⟩ := a.2 c1
      rw [if_neg c1, if_neg c1, if_neg c1]
      exact ⟨q1, q2⟩
