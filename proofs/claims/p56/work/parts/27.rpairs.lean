/-! the reference's pairs -/
theorem nP_i {v : Int → Int} (hW : WF v) : (nP v : Int) = (if v 0 = 0 then 0 else v 0 - 1) ∧ (nP v : Int) ≤ 39 := by
  have h0 := wf_0 hW
  unfold nP
  split <;> omega