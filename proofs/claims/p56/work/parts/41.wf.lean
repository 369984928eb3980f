/-! how the state changes -/
theorem upI_at {B : Int → Int} {k x j : Int} (h : j = k) : upI B k x j = x := if_pos h
theorem tx_n {v : Int → Int} {j x k : Int} (h : 10 + k ≠ j) : tx (upI v j x) k = tx v k := if_neg h
theorem tD_n {v : Int → Int} {j x t : Int} (h : 50 + 2 * t ≠ j) : tkD (upI v j x) t = tkD v t := if_neg h
theorem tV_n {v : Int → Int} {j x t : Int} (h : 51 + 2 * t ≠ j) : tkV (upI v j x) t = tkV v t := if_neg h
theorem tx_s {v : Int → Int} {j x k : Int} (h : 10 + k = j) : tx (upI v j x) k = x := if_pos h
theorem tD_s {v : Int → Int} {j x t : Int} (h : 50 + 2 * t = j) : tkD (upI v j x) t = x := if_pos h
theorem tV_s {v : Int → Int} {j x t : Int} (h : 51 + 2 * t = j) : tkV (upI v j x) t = x := if_pos h
theorem WF_of {v w : Int → Int} (h : WF v) (q0 : 0 ≤ w 0 ∧ w 0 ≤ 40) (q1 : 1 ≤ w 1 ∧ w 1 ≤ 32) (q2 : 2 ≤ w 2 ∧ w 2 ≤ 4) (q3 : 4 ≤ w 3 ∧ w 3 ≤ 9) (q4 : 1 ≤ w 4 ∧ w 4 ≤ 9) (q5 : 1 ≤ w 5 ∧ w 5 ≤ 20) (q6 : 0 ≤ w 6 ∧ w 6 ≤ 40) (h7 : w 7 = v 7) (h8 : w 8 = v 8) (h9 : w 9 = v 9) (ht : ∀ k, 0 ≤ k → k < w 0 → 0 ≤ tx w k ∧ tx w k ≤ 3) (hk : ∀ t, 0 ≤ t → t < w 6 → tkOk w t) : WF w := by
  have g := h.2.2.2.2.2.2.2.1
  rw [← h7, ← h8, ← h9] at g
  exact ⟨q0, q1, q2, q3, q4, q5, q6, g, ht, hk⟩
theorem RS_of {m m' : Nat → Nat → Int32} {v w : Int → Int} (h : RS m 1 v) (h1 : m' 1 = m 1) (h8 : w 8 = v 8) (h9 : w 9 = v 9) (q0 : m' 2 1 = ii (w 0)) (q1 : m' 7 0 = ii (w 1) ∧ m' 7 1 = ii (w 2) ∧ m' 7 2 = ii (w 3) ∧ m' 7 3 = ii (w 4) ∧ m' 7 4 = ii (w 5)) (q6 : m' 4 2 = ii (w 6)) (ht : ∀ k, 0 ≤ k → k < w 0 → m' 3 k.toNat = ii (tx w k)) (hk : ∀ t, 0 ≤ t → t < w 6 → m' 5 t.toNat = ii (tkD w t) ∧ m' 6 t.toNat = ii (tkV w t)) : RS m' 1 w := by
  have g := h.2.2.2.1
  rw [← h8, ← h9, ← h1] at g
  exact ⟨q0, q1, q6, g, ht, hk⟩
theorem WF_s1 {v : Int → Int} {x : Int} (h : WF v) (h0 : 1 ≤ x) (h1 : x ≤ 32) : WF (upI v 1 x) := by
  have g0 := wf_0 h
  have g1 := wf_1 h
  have g2 := wf_2 h
  have g3 := wf_3 h
  have g4 := wf_4 h
  have g5 := wf_5 h
  have g6 := wf_6 h
  refine WF_of h (by rw [upI_n (by omega)]; exact g0) (by rw [upI_at rfl]; exact ⟨h0, h1⟩) (by rw [upI_n (by omega)]; exact g2) (by rw [upI_n (by omega)]; exact g3) (by rw [upI_n (by omega)]; exact g4) (by rw [upI_n (by omega)]; exact g5) (by rw [upI_n (by omega)]; exact g6) (upI_n (by omega)) (upI_n (by omega)) (upI_n (by omega)) (fun k h2 h3 => ?_) (fun t h2 h3 => ?_)
  · rw [upI_n (by omega)] at h3
    rw [tx_n (by omega)]
    exact wf_t h h2 h3
  · rw [upI_n (by omega)] at h3
    unfold tkOk
    rw [tD_n (by omega), tV_n (by omega)]
    exact wf_k h h2 h3
theorem RS_s1 {m : Nat → Nat → Int32} {v : Int → Int} {x : Int} (h : RS m 1 v) : RS (u2 m 7 0 (ii x)) 1 (upI v 1 x) := by
  have hh := h
  obtain ⟨c0, ⟨c1, c2, c3, c4, c5⟩, c6, _, cl, ct⟩ := hh
  refine RS_of h (u2_offr (by omega)) (upI_n (by omega)) (upI_n (by omega)) (by simp (disch := omega) only [u2_offr, upI_n]; exact c0) ⟨by simp (disch := omega) only [u2_at, upI_at], by simp (disch := omega) only [u2_off, upI_n]; exact c2, by simp (disch := omega) only [u2_off, upI_n]; exact c3, by simp (disch := omega) only [u2_off, upI_n]; exact c4, by simp (disch := omega) only [u2_off, upI_n]; exact c5⟩ (by simp (disch := omega) only [u2_offr, upI_n]; exact c6) (fun k h2 h3 => ?_) (fun t h2 h3 => ?_)
  · rw [upI_n (by omega)] at h3
    simp (disch := omega) only [u2_offr, tx_n]
    exact cl k h2 h3
  · rw [upI_n (by omega)] at h3
    simp (disch := omega) only [u2_offr, tD_n, tV_n]
    exact ct t h2 h3
theorem WF_s2 {v : Int → Int} {x : Int} (h : WF v) (h0 : 2 ≤ x) (h1 : x ≤ 4) : WF (upI v 2 x) := by
  have g0 := wf_0 h
  have g1 := wf_1 h
  have g2 := wf_2 h
  have g3 := wf_3 h
  have g4 := wf_4 h
  have g5 := wf_5 h
  have g6 := wf_6 h
  refine WF_of h (by rw [upI_n (by omega)]; exact g0) (by rw [upI_n (by omega)]; exact g1) (by rw [upI_at rfl]; exact ⟨h0, h1⟩) (by rw [upI_n (by omega)]; exact g3) (by rw [upI_n (by omega)]; exact g4) (by rw [upI_n (by omega)]; exact g5) (by rw [upI_n (by omega)]; exact g6) (upI_n (by omega)) (upI_n (by omega)) (upI_n (by omega)) (fun k h2 h3 => ?_) (fun t h2 h3 => ?_)
  · rw [upI_n (by omega)] at h3
    rw [tx_n (by omega)]
    exact wf_t h h2 h3
  · rw [upI_n (by omega)] at h3
    unfold tkOk
    rw [tD_n (by omega), tV_n (by omega)]
    exact wf_k h h2 h3
theorem RS_s2 {m : Nat → Nat → Int32} {v : Int → Int} {x : Int} (h : RS m 1 v) : RS (u2 m 7 1 (ii x)) 1 (upI v 2 x) := by
  have hh := h
  obtain ⟨c0, ⟨c1, c2, c3, c4, c5⟩, c6, _, cl, ct⟩ := hh
  refine RS_of h (u2_offr (by omega)) (upI_n (by omega)) (upI_n (by omega)) (by simp (disch := omega) only [u2_offr, upI_n]; exact c0) ⟨by simp (disch := omega) only [u2_off, upI_n]; exact c1, by simp (disch := omega) only [u2_at, upI_at], by simp (disch := omega) only [u2_off, upI_n]; exact c3, by simp (disch := omega) only [u2_off, upI_n]; exact c4, by simp (disch := omega) only [u2_off, upI_n]; exact c5⟩ (by simp (disch := omega) only [u2_offr, upI_n]; exact c6) (fun k h2 h3 => ?_) (fun t h2 h3 => ?_)
  · rw [upI_n (by omega)] at h3
    simp (disch := omega) only [u2_offr, tx_n]
    exact cl k h2 h3
  · rw [upI_n (by omega)] at h3
    simp (disch := omega) only [u2_offr, tD_n, tV_n]
    exact ct t h2 h3
theorem WF_s3 {v : Int → Int} {x : Int} (h : WF v) (h0 : 4 ≤ x) (h1 : x ≤ 9) : WF (upI v 3 x) := by
  have g0 := wf_0 h
  have g1 := wf_1 h
  have g2 := wf_2 h
  have g3 := wf_3 h
  have g4 := wf_4 h
  have g5 := wf_5 h
  have g6 := wf_6 h
  refine WF_of h (by rw [upI_n (by omega)]; exact g0) (by rw [upI_n (by omega)]; exact g1) (by rw [upI_n (by omega)]; exact g2) (by rw [upI_at rfl]; exact ⟨h0, h1⟩) (by rw [upI_n (by omega)]; exact g4) (by rw [upI_n (by omega)]; exact g5) (by rw [upI_n (by omega)]; exact g6) (upI_n (by omega)) (upI_n (by omega)) (upI_n (by omega)) (fun k h2 h3 => ?_) (fun t h2 h3 => ?_)
  · rw [upI_n (by omega)] at h3
    rw [tx_n (by omega)]
    exact wf_t h h2 h3
  · rw [upI_n (by omega)] at h3
    unfold tkOk
    rw [tD_n (by omega), tV_n (by omega)]
    exact wf_k h h2 h3
theorem RS_s3 {m : Nat → Nat → Int32} {v : Int → Int} {x : Int} (h : RS m 1 v) : RS (u2 m 7 2 (ii x)) 1 (upI v 3 x) := by
  have hh := h
  obtain ⟨c0, ⟨c1, c2, c3, c4, c5⟩, c6, _, cl, ct⟩ := hh
  refine RS_of h (u2_offr (by omega)) (upI_n (by omega)) (upI_n (by omega)) (by simp (disch := omega) only [u2_offr, upI_n]; exact c0) ⟨by simp (disch := omega) only [u2_off, upI_n]; exact c1, by simp (disch := omega) only [u2_off, upI_n]; exact c2, by simp (disch := omega) only [u2_at, upI_at], by simp (disch := omega) only [u2_off, upI_n]; exact c4, by simp (disch := omega) only [u2_off, upI_n]; exact c5⟩ (by simp (disch := omega) only [u2_offr, upI_n]; exact c6) (fun k h2 h3 => ?_) (fun t h2 h3 => ?_)
  · rw [upI_n (by omega)] at h3
    simp (disch := omega) only [u2_offr, tx_n]
    exact cl k h2 h3
  · rw [upI_n (by omega)] at h3
    simp (disch := omega) only [u2_offr, tD_n, tV_n]
    exact ct t h2 h3
theorem WF_s4 {v : Int → Int} {x : Int} (h : WF v) (h0 : 1 ≤ x) (h1 : x ≤ 9) : WF (upI v 4 x) := by
  have g0 := wf_0 h
  have g1 := wf_1 h
  have g2 := wf_2 h
  have g3 := wf_3 h
  have g4 := wf_4 h
  have g5 := wf_5 h
  have g6 := wf_6 h
  refine WF_of h (by rw [upI_n (by omega)]; exact g0) (by rw [upI_n (by omega)]; exact g1) (by rw [upI_n (by omega)]; exact g2) (by rw [upI_n (by omega)]; exact g3) (by rw [upI_at rfl]; exact ⟨h0, h1⟩) (by rw [upI_n (by omega)]; exact g5) (by rw [upI_n (by omega)]; exact g6) (upI_n (by omega)) (upI_n (by omega)) (upI_n (by omega)) (fun k h2 h3 => ?_) (fun t h2 h3 => ?_)
  · rw [upI_n (by omega)] at h3
    rw [tx_n (by omega)]
    exact wf_t h h2 h3
  · rw [upI_n (by omega)] at h3
    unfold tkOk
    rw [tD_n (by omega), tV_n (by omega)]
    exact wf_k h h2 h3
theorem RS_s4 {m : Nat → Nat → Int32} {v : Int → Int} {x : Int} (h : RS m 1 v) : RS (u2 m 7 3 (ii x)) 1 (upI v 4 x) := by
  have hh := h
  obtain ⟨c0, ⟨c1, c2, c3, c4, c5⟩, c6, _, cl, ct⟩ := hh
  refine RS_of h (u2_offr (by omega)) (upI_n (by omega)) (upI_n (by omega)) (by simp (disch := omega) only [u2_offr, upI_n]; exact c0) ⟨by simp (disch := omega) only [u2_off, upI_n]; exact c1, by simp (disch := omega) only [u2_off, upI_n]; exact c2, by simp (disch := omega) only [u2_off, upI_n]; exact c3, by simp (disch := omega) only [u2_at, upI_at], by simp (disch := omega) only [u2_off, upI_n]; exact c5⟩ (by simp (disch := omega) only [u2_offr, upI_n]; exact c6) (fun k h2 h3 => ?_) (fun t h2 h3 => ?_)
  · rw [upI_n (by omega)] at h3
    simp (disch := omega) only [u2_offr, tx_n]
    exact cl k h2 h3
  · rw [upI_n (by omega)] at h3
    simp (disch := omega) only [u2_offr, tD_n, tV_n]
    exact ct t h2 h3
theorem WF_s5 {v : Int → Int} {x : Int} (h : WF v) (h0 : 1 ≤ x) (h1 : x ≤ 20) : WF (upI v 5 x) := by
  have g0 := wf_0 h
  have g1 := wf_1 h
  have g2 := wf_2 h
  have g3 := wf_3 h
  have g4 := wf_4 h
  have g5 := wf_5 h
  have g6 := wf_6 h
  refine WF_of h (by rw [upI_n (by omega)]; exact g0) (by rw [upI_n (by omega)]; exact g1) (by rw [upI_n (by omega)]; exact g2) (by rw [upI_n (by omega)]; exact g3) (by rw [upI_n (by omega)]; exact g4) (by rw [upI_at rfl]; exact ⟨h0, h1⟩) (by rw [upI_n (by omega)]; exact g6) (upI_n (by omega)) (upI_n (by omega)) (upI_n (by omega)) (fun k h2 h3 => ?_) (fun t h2 h3 => ?_)
  · rw [upI_n (by omega)] at h3
    rw [tx_n (by omega)]
    exact wf_t h h2 h3
  · rw [upI_n (by omega)] at h3
    unfold tkOk
    rw [tD_n (by omega), tV_n (by omega)]
    exact wf_k h h2 h3
theorem RS_s5 {m : Nat → Nat → Int32} {v : Int → Int} {x : Int} (h : RS m 1 v) : RS (u2 m 7 4 (ii x)) 1 (upI v 5 x) := by
  have hh := h
  obtain ⟨c0, ⟨c1, c2, c3, c4, c5⟩, c6, _, cl, ct⟩ := hh
  refine RS_of h (u2_offr (by omega)) (upI_n (by omega)) (upI_n (by omega)) (by simp (disch := omega) only [u2_offr, upI_n]; exact c0) ⟨by simp (disch := omega) only [u2_off, upI_n]; exact c1, by simp (disch := omega) only [u2_off, upI_n]; exact c2, by simp (disch := omega) only [u2_off, upI_n]; exact c3, by simp (disch := omega) only [u2_off, upI_n]; exact c4, by simp (disch := omega) only [u2_at, upI_at]⟩ (by simp (disch := omega) only [u2_offr, upI_n]; exact c6) (fun k h2 h3 => ?_) (fun t h2 h3 => ?_)
  · rw [upI_n (by omega)] at h3
    simp (disch := omega) only [u2_offr, tx_n]
    exact cl k h2 h3
  · rw [upI_n (by omega)] at h3
    simp (disch := omega) only [u2_offr, tD_n, tV_n]
    exact ct t h2 h3
