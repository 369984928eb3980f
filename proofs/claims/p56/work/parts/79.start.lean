/-! the start -/
def A0 : AS := (fun k => if k = 1 then 16 else if k = 2 then 3 else if k = 3 then 8 else if k = 4 then 3 else if k = 5 then 5 else 0, 0, fun _ _ => 0, 0, fun _ => 0, 0, fun _ => 0)
theorem WF_0 : WF A0.v := by
  refine ⟨?_, ?_, ?_, ?_, ?_, ?_, ?_, ?_, fun k h0 h1 => ?_, fun t h0 h1 => ?_⟩
  · show (0 : Int) ≤ 0 ∧ (0 : Int) ≤ 40
    omega
  · show (1 : Int) ≤ 16 ∧ (16 : Int) ≤ 32
    omega
  · show (2 : Int) ≤ 3 ∧ (3 : Int) ≤ 4
    omega
  · show (4 : Int) ≤ 8 ∧ (8 : Int) ≤ 9
    omega
  · show (1 : Int) ≤ 3 ∧ (3 : Int) ≤ 9
    omega
  · show (1 : Int) ≤ 5 ∧ (5 : Int) ≤ 20
    omega
  · show (0 : Int) ≤ 0 ∧ (0 : Int) ≤ 40
    omega
  · show (0 : Int) ≤ 0 ∧ (0 : Int) ≤ 4 ∧ (0 : Int) = (if (0 : Int) = 0 then 0 else 1) ∧ (0 : Int) ≤ 0 ∧ (0 : Int) ≤ 60 ∧ ((0 : Int) = 0 → (0 : Int) = 0)
    exact ⟨by omega, by omega, rfl, by omega, by omega, fun _ => rfl⟩
  · have h1 : k < 0 := h1
    omega
  · have h1 : t < 0 := h1
    omega
theorem AW_0 : AW A0 := by
  refine ⟨WF_0, ?_, fun i hi => ?_, Or.inl rfl, ?_, fun j h0 h1 => ?_⟩
  · show (0 : Int) ≤ 0 ∧ (0 : Int) ≤ 6
    omega
  · have hi : (i : Int) < 0 := hi
    omega
  · show (0 : Int) ≤ 0 ∧ (0 : Int) ≤ 60
    omega
  · have h1 : j < 0 := h1
    omega
set_option maxRecDepth 100000 in
theorem st_c : oM.1 2 1 = ii 0 ∧ (oM.1 7 0 = ii 16 ∧ oM.1 7 1 = ii 3 ∧ oM.1 7 2 = ii 8 ∧ oM.1 7 3 = ii 3 ∧ oM.1 7 4 = ii 5) ∧ oM.1 4 2 = ii 0 ∧ (oM.1 1 3 = ii 0 ∧ oM.1 1 4 = ii 0) ∧ oM.1 15 2 = ii 0 ∧ oM.1 15 1 = ii 0 ∧ oM.1 0 2 = ii 0 ∧ oM.1 59 1 = ii 0 := by decide +kernel
theorem CI_0 : CI oM.1 A0 := by
  have h := st_c
  refine ⟨⟨h.1, h.2.1, h.2.2.1, h.2.2.2.1, fun k h0 h1 => ?_, fun t h0 h1 => ?_⟩, ⟨0, h.2.2.2.2.1, h.2.2.2.2.2.1, ?_, by omega, fun i hi => ?_⟩, h.2.2.2.2.2.2.1, fun hs => ?_, h.2.2.2.2.2.2.2, fun j h0 h1 => ?_⟩
  · have h1 : k < 0 := h1
    omega
  · have h1 : t < 0 := h1
    omega
  · show (0 : Int) ≤ 0 ∧ (0 : Int) ≤ 6
    omega
  · have hi : (i : Int) < 0 := hi
    omega
  · have hs : (0 : Int) = 1 := hs
    omega
  · have h1 : j < 0 := h1
    omega