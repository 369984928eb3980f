theorem clr_n {v : Int → Int} {a c k : Int} (h : k < a ∨ a + c ≤ k) : clr v a c k = v k := if_neg (by omega)
theorem tx_c {v : Int → Int} {a c k : Int} (h : 10 + k < a ∨ a + c ≤ 10 + k) : tx (clr v a c) k = tx v k := clr_n h
theorem tD_c {v : Int → Int} {a c t : Int} (h : 50 + 2 * t < a ∨ a + c ≤ 50 + 2 * t) : tkD (clr v a c) t = tkD v t := clr_n h
theorem tV_c {v : Int → Int} {a c t : Int} (h : 51 + 2 * t < a ∨ a + c ≤ 51 + 2 * t) : tkV (clr v a c) t = tkV v t := clr_n h
theorem WF_put {v : Int → Int} {x : Int} (h : WF v) (hc : v 0 < 40) (h0 : 0 ≤ x) (h1 : x ≤ 3) : WF (upI (upI v (10 + v 0) x) 0 (v 0 + 1)) := by
  have g0 := wf_0 h
  have g1 := wf_1 h
  have g2 := wf_2 h
  have g3 := wf_3 h
  have g4 := wf_4 h
  have g5 := wf_5 h
  have g6 := wf_6 h
  refine WF_of h (by simp (disch := omega) only [upI_at]; omega) (by simp (disch := omega) only [upI_n, clr_n]; exact g1) (by simp (disch := omega) only [upI_n, clr_n]; exact g2) (by simp (disch := omega) only [upI_n, clr_n]; exact g3) (by simp (disch := omega) only [upI_n, clr_n]; exact g4) (by simp (disch := omega) only [upI_n, clr_n]; exact g5) (by simp (disch := omega) only [upI_n, clr_n]; exact g6) (by simp (disch := omega) only [upI_n, clr_n]) (by simp (disch := omega) only [upI_n, clr_n]) (by simp (disch := omega) only [upI_n, clr_n]) (fun k h2 h3 => ?_) (fun t h2 h3 => ?_)
  · simp (disch := omega) only [upI_at] at h3
    by_cases hk : k = v 0
    · rw [tx_n (by omega), tx_s (by omega)]
      exact ⟨h0, h1⟩
    · simp (disch := omega) only [tx_n]
      exact wf_t h h2 (by omega)
  · simp (disch := omega) only [upI_n, clr_n] at h3
    unfold tkOk
    simp (disch := omega) only [tD_n, tV_n, tD_c, tV_c]
    exact wf_k h h2 h3
theorem WF_rep {v : Int → Int} {x p : Int} (h : WF v) (hp0 : 0 ≤ p) (hp : p < v 0) (h0 : 0 ≤ x) (h1 : x ≤ 3) : WF (upI v (10 + p) x) := by
  have g0 := wf_0 h
  have g1 := wf_1 h
  have g2 := wf_2 h
  have g3 := wf_3 h
  have g4 := wf_4 h
  have g5 := wf_5 h
  have g6 := wf_6 h
  refine WF_of h (by simp (disch := omega) only [upI_n, clr_n]; exact g0) (by simp (disch := omega) only [upI_n, clr_n]; exact g1) (by simp (disch := omega) only [upI_n, clr_n]; exact g2) (by simp (disch := omega) only [upI_n, clr_n]; exact g3) (by simp (disch := omega) only [upI_n, clr_n]; exact g4) (by simp (disch := omega) only [upI_n, clr_n]; exact g5) (by simp (disch := omega) only [upI_n, clr_n]; exact g6) (by simp (disch := omega) only [upI_n, clr_n]) (by simp (disch := omega) only [upI_n, clr_n]) (by simp (disch := omega) only [upI_n, clr_n]) (fun k h2 h3 => ?_) (fun t h2 h3 => ?_)
  · simp (disch := omega) only [upI_n] at h3
    by_cases hk : k = p
    · rw [tx_s (by omega)]
      exact ⟨h0, h1⟩
    · simp (disch := omega) only [tx_n]
      exact wf_t h h2 (by omega)
  · simp (disch := omega) only [upI_n, clr_n] at h3
    unfold tkOk
    simp (disch := omega) only [tD_n, tV_n, tD_c, tV_c]
    exact wf_k h h2 h3
theorem WF_lcl {v : Int → Int} (h : WF v) : WF (clr (upI v 0 0) 10 40) := by
  have g0 := wf_0 h
  have g1 := wf_1 h
  have g2 := wf_2 h
  have g3 := wf_3 h
  have g4 := wf_4 h
  have g5 := wf_5 h
  have g6 := wf_6 h
  refine WF_of h (by simp (disch := omega) only [upI_at, clr_n]; omega) (by simp (disch := omega) only [upI_n, clr_n]; exact g1) (by simp (disch := omega) only [upI_n, clr_n]; exact g2) (by simp (disch := omega) only [upI_n, clr_n]; exact g3) (by simp (disch := omega) only [upI_n, clr_n]; exact g4) (by simp (disch := omega) only [upI_n, clr_n]; exact g5) (by simp (disch := omega) only [upI_n, clr_n]; exact g6) (by simp (disch := omega) only [upI_n, clr_n]) (by simp (disch := omega) only [upI_n, clr_n]) (by simp (disch := omega) only [upI_n, clr_n]) (fun k h2 h3 => ?_) (fun t h2 h3 => ?_)
  · simp (disch := omega) only [upI_at, clr_n] at h3
    omega
  · simp (disch := omega) only [upI_n, clr_n] at h3
    unfold tkOk
    simp (disch := omega) only [tD_n, tV_n, tD_c, tV_c]
    exact wf_k h h2 h3
theorem WF_scl {v : Int → Int} (h : WF v) : WF (clr (upI v 6 0) 50 80) := by
  have g0 := wf_0 h
  have g1 := wf_1 h
  have g2 := wf_2 h
  have g3 := wf_3 h
  have g4 := wf_4 h
  have g5 := wf_5 h
  have g6 := wf_6 h
  refine WF_of h (by simp (disch := omega) only [upI_n, clr_n]; exact g0) (by simp (disch := omega) only [upI_n, clr_n]; exact g1) (by simp (disch := omega) only [upI_n, clr_n]; exact g2) (by simp (disch := omega) only [upI_n, clr_n]; exact g3) (by simp (disch := omega) only [upI_n, clr_n]; exact g4) (by simp (disch := omega) only [upI_n, clr_n]; exact g5) (by simp (disch := omega) only [upI_at, clr_n]; omega) (by simp (disch := omega) only [upI_n, clr_n]) (by simp (disch := omega) only [upI_n, clr_n]) (by simp (disch := omega) only [upI_n, clr_n]) (fun k h2 h3 => ?_) (fun t h2 h3 => ?_)
  · simp (disch := omega) only [upI_n, clr_n] at h3
    simp (disch := omega) only [tx_n, tx_c]
    exact wf_t h h2 h3
  · simp (disch := omega) only [upI_at, clr_n] at h3
    omega
theorem WF_sput {v : Int → Int} {d x : Int} (h : WF v) (hc : v 6 < 40) (hok : 0 ≤ d ∧ d ≤ 39 ∧ (d = 0 → 0 ≤ x ∧ x ≤ 3) ∧ (d ≠ 0 → 1 ≤ x ∧ x ≤ 40)) : WF (upI (upI (upI v (50 + 2 * v 6) d) (50 + 2 * v 6 + 1) x) 6 (v 6 + 1)) := by
  have g0 := wf_0 h
  have g1 := wf_1 h
  have g2 := wf_2 h
  have g3 := wf_3 h
  have g4 := wf_4 h
  have g5 := wf_5 h
  have g6 := wf_6 h
  refine WF_of h (by simp (disch := omega) only [upI_n, clr_n]; exact g0) (by simp (disch := omega) only [upI_n, clr_n]; exact g1) (by simp (disch := omega) only [upI_n, clr_n]; exact g2) (by simp (disch := omega) only [upI_n, clr_n]; exact g3) (by simp (disch := omega) only [upI_n, clr_n]; exact g4) (by simp (disch := omega) only [upI_n, clr_n]; exact g5) (by simp (disch := omega) only [upI_at]; omega) (by simp (disch := omega) only [upI_n, clr_n]) (by simp (disch := omega) only [upI_n, clr_n]) (by simp (disch := omega) only [upI_n, clr_n]) (fun k h2 h3 => ?_) (fun t h2 h3 => ?_)
  · simp (disch := omega) only [upI_n, clr_n] at h3
    simp (disch := omega) only [tx_n, tx_c]
    exact wf_t h h2 h3
  · simp (disch := omega) only [upI_at] at h3
    by_cases hk : t = v 6
    · have e1 : tkD (upI (upI (upI v (50 + 2 * v 6) d) (50 + 2 * v 6 + 1) x) 6 (v 6 + 1)) t = d := by rw [tD_n (by omega), tD_n (by omega), tD_s (by omega)]
      have e2 : tkV (upI (upI (upI v (50 + 2 * v 6) d) (50 + 2 * v 6 + 1) x) 6 (v 6 + 1)) t = x := by rw [tV_n (by omega), tV_s (by omega)]
      unfold tkOk
      rw [e1, e2]
      exact hok
    · unfold tkOk
      simp (disch := omega) only [tD_n, tV_n]
      exact wf_k h h2 (by omega)
theorem WF_slast {v : Int → Int} (h : WF v) (hc : 0 < v 6) : WF (upI (upI (upI v 6 (v 6 - 1)) (50 + 2 * (v 6 - 1)) 0) (50 + 2 * (v 6 - 1) + 1) 0) := by
  have g0 := wf_0 h
  have g1 := wf_1 h
  have g2 := wf_2 h
  have g3 := wf_3 h
  have g4 := wf_4 h
  have g5 := wf_5 h
  have g6 := wf_6 h
  refine WF_of h (by simp (disch := omega) only [upI_n, clr_n]; exact g0) (by simp (disch := omega) only [upI_n, clr_n]; exact g1) (by simp (disch := omega) only [upI_n, clr_n]; exact g2) (by simp (disch := omega) only [upI_n, clr_n]; exact g3) (by simp (disch := omega) only [upI_n, clr_n]; exact g4) (by simp (disch := omega) only [upI_n, clr_n]; exact g5) (by simp (disch := omega) only [upI_n, upI_at]; omega) (by simp (disch := omega) only [upI_n, clr_n]) (by simp (disch := omega) only [upI_n, clr_n]) (by simp (disch := omega) only [upI_n, clr_n]) (fun k h2 h3 => ?_) (fun t h2 h3 => ?_)
  · simp (disch := omega) only [upI_n] at h3
    simp (disch := omega) only [tx_n]
    exact wf_t h h2 h3
  · simp (disch := omega) only [upI_n, upI_at] at h3
    unfold tkOk
    simp (disch := omega) only [tD_n, tV_n]
    exact wf_k h h2 (by omega)
theorem RS_put {m : Nat → Nat → Int32} {v : Int → Int} {x : Int} (h : RS m 1 v) (hW : WF v) (hc : v 0 < 40) : RS (u2 (u2 m 3 (v 0).toNat (ii x)) 2 1 (ii (v 0 + 1))) 1 (upI (upI v (10 + v 0) x) 0 (v 0 + 1)) := by
  have hh := h
  obtain ⟨c0, ⟨c1, c2, c3, c4, c5⟩, c6, _, cl, ct⟩ := hh
  have g0 := wf_0 hW
  have g6 := wf_6 hW
  refine RS_of h (by simp (disch := omega) only [u2_offr]) (by simp (disch := omega) only [upI_n, clr_n]) (by simp (disch := omega) only [upI_n, clr_n]) (by simp (disch := omega) only [u2_at, upI_at]) ⟨by simp (disch := omega) only [u2_off, u2_offr, upI_n, clr_n]; exact c1, by simp (disch := omega) only [u2_off, u2_offr, upI_n, clr_n]; exact c2, by simp (disch := omega) only [u2_off, u2_offr, upI_n, clr_n]; exact c3, by simp (disch := omega) only [u2_off, u2_offr, upI_n, clr_n]; exact c4, by simp (disch := omega) only [u2_off, u2_offr, upI_n, clr_n]; exact c5⟩ (by simp (disch := omega) only [u2_off, u2_offr, upI_n, clr_n]; exact c6) (fun k h2 h3 => ?_) (fun t h2 h3 => ?_)
  · simp (disch := omega) only [upI_at] at h3
    by_cases hk : k = v 0
    · rw [tx_n (by omega), tx_s (by omega)]
      simp (disch := omega) only [u2_off, u2_at]
    · simp (disch := omega) only [u2_off, tx_n]
      exact cl k h2 (by omega)
  · simp (disch := omega) only [upI_n, clr_n] at h3
    simp (disch := omega) only [u2_offr, tD_n, tV_n, tD_c, tV_c]
    exact ct t h2 h3
theorem RS_rep {m : Nat → Nat → Int32} {v : Int → Int} {x p : Int} (h : RS m 1 v) (hW : WF v) (hp0 : 0 ≤ p) (hp : p < v 0) : RS (u2 m 3 p.toNat (ii x)) 1 (upI v (10 + p) x) := by
  have hh := h
  obtain ⟨c0, ⟨c1, c2, c3, c4, c5⟩, c6, _, cl, ct⟩ := hh
  have g0 := wf_0 hW
  have g6 := wf_6 hW
  refine RS_of h (by simp (disch := omega) only [u2_offr]) (by simp (disch := omega) only [upI_n, clr_n]) (by simp (disch := omega) only [upI_n, clr_n]) (by simp (disch := omega) only [u2_off, u2_offr, upI_n, clr_n]; exact c0) ⟨by simp (disch := omega) only [u2_off, u2_offr, upI_n, clr_n]; exact c1, by simp (disch := omega) only [u2_off, u2_offr, upI_n, clr_n]; exact c2, by simp (disch := omega) only [u2_off, u2_offr, upI_n, clr_n]; exact c3, by simp (disch := omega) only [u2_off, u2_offr, upI_n, clr_n]; exact c4, by simp (disch := omega) only [u2_off, u2_offr, upI_n, clr_n]; exact c5⟩ (by simp (disch := omega) only [u2_off, u2_offr, upI_n, clr_n]; exact c6) (fun k h2 h3 => ?_) (fun t h2 h3 => ?_)
  · simp (disch := omega) only [upI_n] at h3
    by_cases hk : k = p
    · rw [tx_s (by omega)]
      simp (disch := omega) only [u2_at]
    · simp (disch := omega) only [u2_off, tx_n]
      exact cl k h2 (by omega)
  · simp (disch := omega) only [upI_n, clr_n] at h3
    simp (disch := omega) only [u2_offr, tD_n, tV_n, tD_c, tV_c]
    exact ct t h2 h3
theorem RS_lcl {m : Nat → Nat → Int32} {v : Int → Int} (h : RS m 1 v) (hW : WF v) : RS (u2 m 2 1 (ii 0)) 1 (clr (upI v 0 0) 10 40) := by
  have hh := h
  obtain ⟨c0, ⟨c1, c2, c3, c4, c5⟩, c6, _, cl, ct⟩ := hh
  have g0 := wf_0 hW
  have g6 := wf_6 hW
  refine RS_of h (by simp (disch := omega) only [u2_offr]) (by simp (disch := omega) only [upI_n, clr_n]) (by simp (disch := omega) only [upI_n, clr_n]) (by simp (disch := omega) only [u2_at, upI_at, clr_n]) ⟨by simp (disch := omega) only [u2_off, u2_offr, upI_n, clr_n]; exact c1, by simp (disch := omega) only [u2_off, u2_offr, upI_n, clr_n]; exact c2, by simp (disch := omega) only [u2_off, u2_offr, upI_n, clr_n]; exact c3, by simp (disch := omega) only [u2_off, u2_offr, upI_n, clr_n]; exact c4, by simp (disch := omega) only [u2_off, u2_offr, upI_n, clr_n]; exact c5⟩ (by simp (disch := omega) only [u2_off, u2_offr, upI_n, clr_n]; exact c6) (fun k h2 h3 => ?_) (fun t h2 h3 => ?_)
  · simp (disch := omega) only [upI_at, clr_n] at h3
    omega
  · simp (disch := omega) only [upI_n, clr_n] at h3
    simp (disch := omega) only [u2_offr, tD_n, tV_n, tD_c, tV_c]
    exact ct t h2 h3
theorem RS_scl {m : Nat → Nat → Int32} {v : Int → Int} (h : RS m 1 v) (hW : WF v) : RS (u2 m 4 2 (ii 0)) 1 (clr (upI v 6 0) 50 80) := by
  have hh := h
  obtain ⟨c0, ⟨c1, c2, c3, c4, c5⟩, c6, _, cl, ct⟩ := hh
  have g0 := wf_0 hW
  have g6 := wf_6 hW
  refine RS_of h (by simp (disch := omega) only [u2_offr]) (by simp (disch := omega) only [upI_n, clr_n]) (by simp (disch := omega) only [upI_n, clr_n]) (by simp (disch := omega) only [u2_off, u2_offr, upI_n, clr_n]; exact c0) ⟨by simp (disch := omega) only [u2_off, u2_offr, upI_n, clr_n]; exact c1, by simp (disch := omega) only [u2_off, u2_offr, upI_n, clr_n]; exact c2, by simp (disch := omega) only [u2_off, u2_offr, upI_n, clr_n]; exact c3, by simp (disch := omega) only [u2_off, u2_offr, upI_n, clr_n]; exact c4, by simp (disch := omega) only [u2_off, u2_offr, upI_n, clr_n]; exact c5⟩ (by simp (disch := omega) only [u2_at, upI_at, clr_n]) (fun k h2 h3 => ?_) (fun t h2 h3 => ?_)
  · simp (disch := omega) only [upI_n, clr_n] at h3
    simp (disch := omega) only [u2_offr, tx_n, tx_c]
    exact cl k h2 h3
  · simp (disch := omega) only [upI_at, clr_n] at h3
    omega
theorem RS_sput {m : Nat → Nat → Int32} {v : Int → Int} {d x : Int} (h : RS m 1 v) (hW : WF v) : RS (u2 (u2 (u2 m 5 (v 6).toNat (ii d)) 6 (v 6).toNat (ii x)) 4 2 (ii (v 6 + 1))) 1 (upI (upI (upI v (50 + 2 * v 6) d) (50 + 2 * v 6 + 1) x) 6 (v 6 + 1)) := by
  have hh := h
  obtain ⟨c0, ⟨c1, c2, c3, c4, c5⟩, c6, _, cl, ct⟩ := hh
  have g0 := wf_0 hW
  have g6 := wf_6 hW
  refine RS_of h (by simp (disch := omega) only [u2_offr]) (by simp (disch := omega) only [upI_n, clr_n]) (by simp (disch := omega) only [upI_n, clr_n]) (by simp (disch := omega) only [u2_off, u2_offr, upI_n, clr_n]; exact c0) ⟨by simp (disch := omega) only [u2_off, u2_offr, upI_n, clr_n]; exact c1, by simp (disch := omega) only [u2_off, u2_offr, upI_n, clr_n]; exact c2, by simp (disch := omega) only [u2_off, u2_offr, upI_n, clr_n]; exact c3, by simp (disch := omega) only [u2_off, u2_offr, upI_n, clr_n]; exact c4, by simp (disch := omega) only [u2_off, u2_offr, upI_n, clr_n]; exact c5⟩ (by simp (disch := omega) only [u2_at, upI_at]) (fun k h2 h3 => ?_) (fun t h2 h3 => ?_)
  · simp (disch := omega) only [upI_n, clr_n] at h3
    simp (disch := omega) only [u2_offr, tx_n, tx_c]
    exact cl k h2 h3
  · simp (disch := omega) only [upI_at] at h3
    by_cases hk : t = v 6
    · rw [tD_n (by omega), tD_n (by omega), tD_s (by omega), tV_n (by omega), tV_s (by omega)]
      simp (disch := omega) only [u2_off, u2_offr, u2_at]
      exact ⟨True.intro, True.intro⟩
    · simp (disch := omega) only [u2_off, tD_n, tV_n]
      exact ct t h2 (by omega)
theorem RS_slast {m : Nat → Nat → Int32} {v : Int → Int} (h : RS m 1 v) (hW : WF v) (hc : 0 < v 6) : RS (u2 m 4 2 (ii (v 6 - 1))) 1 (upI (upI (upI v 6 (v 6 - 1)) (50 + 2 * (v 6 - 1)) 0) (50 + 2 * (v 6 - 1) + 1) 0) := by
  have hh := h
  obtain ⟨c0, ⟨c1, c2, c3, c4, c5⟩, c6, _, cl, ct⟩ := hh
  have g0 := wf_0 hW
  have g6 := wf_6 hW
  refine RS_of h (by simp (disch := omega) only [u2_offr]) (by simp (disch := omega) only [upI_n, clr_n]) (by simp (disch := omega) only [upI_n, clr_n]) (by simp (disch := omega) only [u2_off, u2_offr, upI_n, clr_n]; exact c0) ⟨by simp (disch := omega) only [u2_off, u2_offr, upI_n, clr_n]; exact c1, by simp (disch := omega) only [u2_off, u2_offr, upI_n, clr_n]; exact c2, by simp (disch := omega) only [u2_off, u2_offr, upI_n, clr_n]; exact c3, by simp (disch := omega) only [u2_off, u2_offr, upI_n, clr_n]; exact c4, by simp (disch := omega) only [u2_off, u2_offr, upI_n, clr_n]; exact c5⟩ (by simp (disch := omega) only [u2_at, upI_n, upI_at]) (fun k h2 h3 => ?_) (fun t h2 h3 => ?_)
  · simp (disch := omega) only [upI_n] at h3
    simp (disch := omega) only [u2_offr, tx_n]
    exact cl k h2 h3
  · simp (disch := omega) only [upI_n, upI_at] at h3
    simp (disch := omega) only [u2_offr, tD_n, tV_n]
    exact ct t h2 (by omega)
