/-! a part holds no end sign; the class finds its end, and its numbers -/
variable {b : Int} {Y : Int → Int}
def isDg (c : Int) : Prop := 48 ≤ c ∧ c ≤ 57
theorem nm_dig {lim j : Int} (h : (nm b Y lim j).1 = -1) (h0 : 0 ≤ j) (hl : 9 ≤ lim) : (j < (nm b Y lim j).2.1 ∧ (nm b Y lim j).2.1 ≤ b) ∧ (∀ k, j ≤ k → k < (nm b Y lim j).2.1 → isDg (Y k)) ∧ ((nm b Y lim j).2.1 < b → ¬ isDg (Y (nm b Y lim j).2.1)) ∧ (((nm b Y lim j).2.1 = j + 1 ∧ (nm b Y lim j).2.2 = Y j - 48) ∨ ((nm b Y lim j).2.1 = j + 2 ∧ (nm b Y lim j).2.2 = 10 * (Y j - 48) + Y (j + 1) - 48)) ∧ 1 ≤ (nm b Y lim j).2.2 ∧ (nm b Y lim j).2.2 ≤ lim := by
  by_cases c1 : 49 ≤ sg b Y j ∧ sg b Y j ≤ 57
  · obtain ⟨g1, e1⟩ := sg_Y (b := b) (Y := Y) (i := j) (by omega)
    by_cases c2 : 48 ≤ sg b Y (j + 1) ∧ sg b Y (j + 1) ≤ 57
    · obtain ⟨g2, e2⟩ := sg_Y (b := b) (Y := Y) (i := j + 1) (by omega)
      by_cases c3 : lim < 10 * (sg b Y j - 48) + sg b Y (j + 1) - 48
      · have en : (nm b Y lim j).1 = j + 1 := by
          unfold nm
          rw [if_neg (by omega), if_neg (by omega), if_pos c3]
        omega
      · by_cases c4 : 48 ≤ sg b Y (j + 2) ∧ sg b Y (j + 2) ≤ 57
        · have en : (nm b Y lim j).1 = j + 2 := by
            unfold nm
            rw [if_neg (by omega), if_neg (by omega), if_neg c3, if_neg (by omega)]
          omega
        · have en : (nm b Y lim j).2.1 = j + 2 ∧ (nm b Y lim j).2.2 = 10 * (sg b Y j - 48) + sg b Y (j + 1) - 48 := by
            unfold nm
            rw [if_neg (by omega), if_neg (by omega), if_neg c3, if_pos c4]
            exact ⟨rfl, rfl⟩
          rw [en.1, en.2]
          refine ⟨by omega, fun k h1 h2 => ?_, fun h1 h2 => ?_, Or.inr ⟨rfl, by omega⟩, by omega, by omega⟩
          · by_cases hk : k = j
            · subst hk
              exact ⟨by omega, by omega⟩
            · have hk : k = j + 1 := by omega
              subst hk
              exact ⟨by omega, by omega⟩
          · rw [sg_lt h1] at c4
            exact c4 h2
    · have en : (nm b Y lim j).2.1 = j + 1 ∧ (nm b Y lim j).2.2 = sg b Y j - 48 := by
        unfold nm
        rw [if_neg (by omega), if_pos c2]
        exact ⟨rfl, rfl⟩
      rw [en.1, en.2]
      refine ⟨by omega, fun k h1 h2 => ?_, fun h1 h2 => ?_, Or.inl ⟨rfl, by omega⟩, by omega, by omega⟩
      · have hk : k = j := by omega
        subst hk
        exact ⟨by omega, by omega⟩
      · rw [sg_lt h1] at c2
        exact c2 h2
  · have en : (nm b Y lim j).1 = j := by
      unfold nm
      rw [if_pos c1]
    omega
theorem eon_to : ∀ (f : Nat) (i e : Int), b - i = f → i ≤ e → e ≤ b → (∀ k, i ≤ k → k < e → isDg (Y k)) → (e < b → ¬ isDg (Y e)) → eon Y f i = e := by
  intro f
  induction f with
  | zero =>
    intro i e h1 h2 h3 h4 h5
    unfold eon
    omega
  | succ f ih =>
    intro i e h1 h2 h3 h4 h5
    push_cast at h1
    unfold eon
    by_cases c : i = e
    · subst c
      exact if_neg (h5 (by omega))
    · rw [if_pos (show 48 ≤ Y i ∧ Y i ≤ 57 from h4 i (by omega) (by omega))]
      exact ih (i + 1) e (by omega) (by omega) h3 (fun k h6 h7 => h4 k (by omega) h7) h5
theorem eop_to : ∀ (f : Nat) (i e : Int), b - i = f → i ≤ e → e ≤ b → (∀ k, i ≤ k → k < e → Y k ≠ 59) → (e < b → Y e = 59) → eop Y f i = e := by
  intro f
  induction f with
  | zero =>
    intro i e h1 h2 h3 h4 h5
    unfold eop
    omega
  | succ f ih =>
    intro i e h1 h2 h3 h4 h5
    push_cast at h1
    unfold eop
    by_cases c : i = e
    · subst c
      exact if_pos (h5 (by omega))
    · rw [if_neg (h4 i (by omega) (by omega))]
      exact ih (i + 1) e (by omega) (by omega) h3 (fun k h6 h7 => h4 k (by omega) h7) h5
theorem lr_let : ∀ (f : Nat) (i : Int), b - i = f → ∀ k, i ≤ k → k < lr b Y f i → 97 ≤ Y k ∧ Y k ≤ 100 := by
  intro f
  induction f with
  | zero =>
    intro i h k h1 h2
    unfold lr at h2
    omega
  | succ f ih =>
    intro i h k h1 h2
    push_cast at h
    unfold lr at h2
    by_cases c : 97 ≤ sg b Y i ∧ sg b Y i ≤ 100
    · rw [if_pos c] at h2
      by_cases hk : k = i
      · subst hk
        rw [sg_lt (by omega)] at c
        exact c
      · exact ih (i + 1) (by omega) k (by omega) h2
    · rw [if_neg c] at h2
      omega
/-- what is known of a good part: its signs, its numbers -/
theorem pt_59 {i : Int} (h : (ptS b Y i).1 = -1) (h0 : 0 ≤ i) : ∀ k, i ≤ k → k < (ptS b Y i).2.1 → Y k ≠ 59 := by
  intro k k0 k1
  unfold ptS at h k1
  by_cases c43 : sg b Y i = 43
  · obtain ⟨g1, e1⟩ := sg_Y (b := b) (Y := Y) (i := i) (by omega)
    rw [if_pos c43] at h k1
    by_cases c : 97 ≤ sg b Y (i + 1) ∧ sg b Y (i + 1) ≤ 100
    · obtain ⟨g2, e2⟩ := sg_Y (b := b) (Y := Y) (i := i + 1) (by omega)
      rw [if_pos c] at k1
      by_cases h1 : k = i
      · rw [h1]
        omega
      · by_cases h2 : k = i + 1
        · rw [h2]
          omega
        · have := lr_let (b := b) (Y := Y) (b - (i + 2)).toNat (i + 2) (by omega) k (by omega) k1
          omega
    · rw [if_neg c] at h
      have h : i + 1 = -1 := h
      omega
  · rw [if_neg c43] at h k1
    by_cases c112 : sg b Y i = 112
    · obtain ⟨g1, e1⟩ := sg_Y (b := b) (Y := Y) (i := i) (by omega)
      rw [if_pos c112] at h k1
      have k1 : k < i + 2 := k1
      by_cases c : 48 ≤ sg b Y (i + 1) ∧ sg b Y (i + 1) ≤ 50
      · obtain ⟨g2, e2⟩ := sg_Y (b := b) (Y := Y) (i := i + 1) (by omega)
        by_cases h1 : k = i
        · rw [h1]
          omega
        · rw [show k = i + 1 by omega]
          omega
      · have h : (if 48 ≤ sg b Y (i + 1) ∧ sg b Y (i + 1) ≤ 50 then -1 else i + 1) = -1 := h
        rw [if_neg c] at h
        omega
    · rw [if_neg c112] at h k1
      by_cases c108 : sg b Y i = 108
      · obtain ⟨g1, e1⟩ := sg_Y (b := b) (Y := Y) (i := i) (by omega)
        rw [if_pos c108] at h k1
        have k1 : k < i + 2 := k1
        by_cases c : 97 ≤ sg b Y (i + 1) ∧ sg b Y (i + 1) ≤ 100
        · obtain ⟨g2, e2⟩ := sg_Y (b := b) (Y := Y) (i := i + 1) (by omega)
          by_cases h1 : k = i
          · rw [h1]
            omega
          · rw [show k = i + 1 by omega]
            omega
        · have h : (if 97 ≤ sg b Y (i + 1) ∧ sg b Y (i + 1) ≤ 100 then -1 else i + 1) = -1 := h
          rw [if_neg c] at h
          omega
      · rw [if_neg c108] at h k1
        by_cases c114 : sg b Y i = 114
        · obtain ⟨g1, e1⟩ := sg_Y (b := b) (Y := Y) (i := i) (by omega)
          rw [if_pos c114] at h k1
          unfold prd at h k1
          have n1 := nm_dig (b := b) (Y := Y) (lim := 39) (j := i + 1)
          by_cases d1 : (nm b Y 39 (i + 1)).1 = -1
          · have n1 := n1 d1 (by omega) (by omega)
            rw [if_pos d1] at h k1
            by_cases d2 : sg b Y (nm b Y 39 (i + 1)).2.1 = 44
            · obtain ⟨g2, e2⟩ := sg_Y (b := b) (Y := Y) (i := (nm b Y 39 (i + 1)).2.1) (by omega)
              rw [if_pos d2] at h k1
              have n2 := nm_dig (b := b) (Y := Y) (lim := 40) (j := (nm b Y 39 (i + 1)).2.1 + 1) h (by omega) (by omega)
              have k1 : k < (nm b Y 40 ((nm b Y 39 (i + 1)).2.1 + 1)).2.1 := k1
              by_cases h1 : k = i
              · rw [h1]
                omega
              · by_cases h2 : k < (nm b Y 39 (i + 1)).2.1
                · have := n1.2.1 k (by omega) h2
                  unfold isDg at this
                  omega
                · by_cases h3 : k = (nm b Y 39 (i + 1)).2.1
                  · rw [h3]
                    omega
                  · have := n2.2.1 k (by omega) k1
                    unfold isDg at this
                    omega
            · rw [if_neg d2] at h
              have h : (nm b Y 39 (i + 1)).2.1 = -1 := h
              omega
          · rw [if_neg d1] at h
            exact absurd h d1
        · rw [if_neg c114] at h k1
          have k1 : k < i + 1 := k1
          have h : (if okS (sg b Y i) = 1 then -1 else i) = -1 := h
          by_cases ok : okS (sg b Y i) = 1
          · have oo : sg b Y i = 45 ∨ sg b Y i = 117 ∨ sg b Y i = 101 := by
              unfold okS at ok
              by_cases hh : sg b Y i = 43 ∨ sg b Y i = 45 ∨ sg b Y i = 112 ∨ sg b Y i = 117 ∨ sg b Y i = 101 ∨ sg b Y i = 108 ∨ sg b Y i = 114
              · omega
              · rw [if_neg hh] at ok
                omega
            obtain ⟨g1, e1⟩ := sg_Y (b := b) (Y := Y) (i := i) (by omega)
            rw [show k = i by omega]
            omega
          · rw [if_neg ok] at h
            omega
variable {μ : mMm} {A : AS}
theorem CI_WK (hC : CI μ.1 A) : WK μ.1 A.b A.Y := hC.2.2.2.2
theorem num_at {b : Int} {Y : Int → Int} {lim j : Int} (hK : WK μ.1 b Y) (hY : YB b Y) (h : (nm b Y lim j).1 = -1) (h0 : 0 ≤ j) (hl : 9 ≤ lim) : fX9_endOfNumber oS μ 59 (ii j) = some (ii (nm b Y lim j).2.1) ∧ fX9_number oS μ 59 (ii j) = some (ii (nm b Y lim j).2.2) := by
  have n := nm_dig h h0 hl
  have r := eon_to (b := b) (Y := Y) (b - j).toNat j (nm b Y lim j).2.1 (by omega) (by omega) n.1.2 n.2.1 n.2.2.1
  refine ⟨by rw [endOfNumber_at hK hY h0 (by omega), r], ?_⟩
  rcases n.2.2.2.1 with ⟨q1, q2⟩ | ⟨q1, q2⟩
  · rw [q2]
    exact number_1 hK hY h0 (by omega) (r.trans q1)
  · rw [q2]
    exact number_2 hK hY h0 (by omega) (r.trans q1)
theorem eop_at {b : Int} {Y : Int → Int} {i : Int} (hK : WK μ.1 b Y) (hY : YB b Y) (h : (ptS b Y i).1 = -1) (h0 : 0 ≤ i) (he : (ptS b Y i).2.1 < b → Y (ptS b Y i).2.1 = 59) : fX9_endOfPart oS μ 59 (ii i) = some (ii (ptS b Y i).2.1) := by
  have p := (ptS_b (b := b) (Y := Y) h0).1 h
  rw [endOfPart_at hK hY h0 (by omega), eop_to (b := b) (Y := Y) (b - i).toNat i (ptS b Y i).2.1 (by omega) (by omega) p.2 (pt_59 h h0) he]
theorem cFirstError (hA : AW A) (hC : CI μ.1 A) : fX10_firstError oS μ 0 = some (ii (if rdA A = -1 then A.b else rdA A)) := by
  have hY := AW_YB hA
  have g := hY.1
  have r := errorPlace_at (CI_WK hC) hY
  have q := (aut_rd (b := A.b) (Y := A.Y) (A.b + 1).toNat 0 (by omega) (by omega) (by omega)).1
  rw [show A.b - 0 = A.b by omega] at q
  rw [q] at r
  unfold fX10_firstError bX10_firstError
  simp (disch := omega) only [Option.bind_some, km1, k0, k1, k2, k3, k4, k5, k6, k7, k8, k9, k10, k11, k15, k16, k20, k32, k33, k39, k40, k43, k44, k45, k48, k49, k50, k51, k52, k57, k59, k60, k63, k64, k80, k97, k100, k101, k108, k112, k114, k117, k126, k130, k650, k100000, k1000000, ii_add, ii_sub, ii_neg, ii_mul, ii_lt, ii_le, ii_eq, if_true, if_false, if_pos, if_neg, gI_0, gI_1, gI_2, gI_4, gI_7, gI_15, gI_59, gI_61, gI_62, gI_66, gI_68, gI_71, gI_72, gI_74, gR_0_0, gR_0_1, gR_0_3, gR_0_4, gR_0_5, gR_0_6, gR_0_7, gR_0_8, gR_1_0, gR_1_1, gR_1_2, gR_2_0, gR_4_0, gR_4_1, gR_15_0, gR_59_0, gR_61_0, gR_61_1, gR_61_2, gR_62_0, gR_62_1, gR_62_2, gR_66_0, gR_66_1, gR_68_0, gR_68_1, gR_71_0, gR_72_0, gR_74_0, gR_74_1, gR_74_3, gR_74_5, gR_74_7, gR_74_8, gR_74_9, gR_74_15, ld_3, ld_5, ld_6, ld_60, ld_63, ld_64, ld_65, ld_67, ld_69, ld_70, ld_73, ld_75, ld_76, ld_77, ld_78, ld_79, ld_80, ld_82, st_3, st_5, st_6, st_60, st_63, st_64, st_65, st_67, st_69, st_70, st_73, st_75, st_76, st_77, st_78, st_79, st_80, st_82, aL_3, aL_5, aL_6, aL_60, aL_63, aL_64, aL_65, aL_67, aL_69, aL_70, aL_73, aL_75, aL_76, aL_77, aL_78, aL_79, aL_80, aL_82, pI_0, pI_1, pI_2, pI_4, pI_7, pI_15, pI_59, pI_61, pI_62, pI_66, pI_68, pI_71, pI_72, pI_74, ld_81, ld_16, aL_16, if_pos o0, r]
  rfl
theorem cComplete (hA : AW A) (hC : CI μ.1 A) : fX9_isComplete oS μ 59 = some (ii (if rdA A = -1 then 1 else 0)) := by
  have hY := AW_YB hA
  have g := hY.1
  have r := isComplete_at (CI_WK hC) hY
  have q := (aut_rd (b := A.b) (Y := A.Y) (A.b + 1).toNat 0 (by omega) (by omega) (by omega)).2
  rw [show A.b - 0 = A.b by omega] at q
  rw [q] at r
  exact r
