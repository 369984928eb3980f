/-! every part -/
variable {μ : mMm} {b : Int} {Y : Int → Int}
theorem mp_16 {m : Nat → Nat → Int32} {r w i c : Int} (hm : m 74 16 = ii r) : mp m r w i c 74 16 = ii r := by
  unfold mp
  simp (disch := omega) only [u2_off]
  exact (nx_F.2 16 (by omega) (by omega)).trans hm
theorem rpart_at (hB : BF μ.1 b Y) (hY : YB b Y) {i r : Int} (hw : WS μ.1 (-1) i) (h0 : 0 ≤ i) (h1 : i ≤ 60) (hm : μ.1 74 16 = ii r) (hr0 : 0 ≤ r) (hr : r ≤ 31) : ∃ m', fX11_readPart oS μ 74 = some (m', μ.2) ∧ WS m' (ptS b Y i).1 (ptS b Y i).2.1 ∧ QF r μ.1 m' ∧ m' 74 16 = ii (r + 1) ∧ ((ptS b Y i).1 = -1 → TD m' r (sg b Y i) (ptS b Y i).2.2.1 (ptS b Y i).2.2.2) := by
  have sb := sg_b (b := b) (Y := Y) hY h0
  by_cases c43 : sg b Y i = 43
  · have q := rpart_plus hB hY hw h0 h1 hm hr0 hr c43
    rw [c43]
    exact q
  · rw [rp_60 hB hY hw h0 h1 hm hr0 hr c43]
    unfold ptS
    rw [if_neg c43]
    by_cases c112 : sg b Y i = 112
    · have hok : okS (sg b Y i) = 1 := if_pos (by omega)
      rw [if_pos c112, hok, if_pos rfl, c112]
      have hQ := mp_F (m := μ.1) (w := -1) (i := i) (c := 112) hr0
      have hm1 := mp_16 (w := -1) (i := i) (c := 112) hm
      have hW1 : WS (mp μ.1 r (-1) i 112) (-1) (i + 1) := mp_W
      have e := rp_p (μ := (mp μ.1 r (-1) i 112, μ.2)) (BF_q hQ hB) hY hW1 (by omega) (by omega) hm1 hr0 hr
      rw [show i + 1 + 1 = i + 2 by omega] at e
      refine ⟨_, e, WS_16 nx_W, ((hQ.tr (QF_82 (by omega) hr0)).tr nx_F.q).tr QF_16, u2_at rfl rfl, fun _ => ⟨?_, fun _ => ?_, fun h => by omega⟩⟩
      · simp (disch := omega) only [u2_off]
        rw [nx_F.1 82 (by omega)]
        simp (disch := omega) only [u2_off]
        exact mp_c hr0
      · simp (disch := omega) only [u2_off]
        rw [nx_F.1 82 (by omega)]
        simp (disch := omega) only [u2_at]
    · rw [if_neg c112]
      by_cases c108 : sg b Y i = 108
      · have hok : okS (sg b Y i) = 1 := if_pos (by omega)
        rw [if_pos c108, hok, if_pos rfl, c108]
        have hQ := mp_F (m := μ.1) (w := -1) (i := i) (c := 108) hr0
        have hm1 := mp_16 (w := -1) (i := i) (c := 108) hm
        have hW1 : WS (mp μ.1 r (-1) i 108) (-1) (i + 1) := mp_W
        have e := rp_l (μ := (mp μ.1 r (-1) i 108, μ.2)) (BF_q hQ hB) hY hW1 (by omega) (by omega) hm1 hr0 hr
        rw [show i + 1 + 1 = i + 2 by omega] at e
        refine ⟨_, e, WS_16 nx_W, ((hQ.tr (QF_82 (by omega) hr0)).tr nx_F.q).tr QF_16, u2_at rfl rfl, fun _ => ⟨?_, fun _ => ?_, fun h => by omega⟩⟩
        · simp (disch := omega) only [u2_off]
          rw [nx_F.1 82 (by omega)]
          simp (disch := omega) only [u2_off]
          exact mp_c hr0
        · simp (disch := omega) only [u2_off]
          rw [nx_F.1 82 (by omega)]
          simp (disch := omega) only [u2_at]
      · rw [if_neg c108]
        by_cases c114 : sg b Y i = 114
        · have hok : okS (sg b Y i) = 1 := if_pos (by omega)
          rw [if_pos c114, hok, if_pos rfl, c114]
          have hQ := mp_F (m := μ.1) (w := -1) (i := i) (c := 114) hr0
          have hm1 := mp_16 (w := -1) (i := i) (c := 114) hm
          have hW1 : WS (mp μ.1 r (-1) i 114) (-1) (i + 1) := mp_W
          obtain ⟨m', e1, e2, e3, e4, e5, e6⟩ := rp_r (μ := (mp μ.1 r (-1) i 114, μ.2)) (BF_q hQ hB) hY hW1 (by omega) (by omega) hm1 hr0 hr
          exact ⟨m', e1, e2, hQ.tr e3, e4, fun h => ⟨e5.trans (mp_c hr0), fun _ => (e6 h).1, fun _ => (e6 h).2⟩⟩
        · rw [if_neg c114]
          have hQ := mp_F (m := μ.1) (w := if okS (sg b Y i) = 1 then -1 else i) (i := i) (c := sg b Y i) hr0
          have hm1 := mp_16 (w := if okS (sg b Y i) = 1 then -1 else i) (i := i) (c := sg b Y i) hm
          have e := rp_none (μ := (mp μ.1 r (if okS (sg b Y i) = 1 then -1 else i) i (sg b Y i), μ.2)) (c := sg b Y i) (x := 3 * r) hm1 sb.1 sb.2 c112 c108 c114
          refine ⟨_, e, WS_16 mp_W, hQ.tr QF_16, u2_at rfl rfl, fun _ => ⟨?_, fun h => by omega, fun h => by omega⟩⟩
          simp (disch := omega) only [u2_off]
          exact mp_c hr0
