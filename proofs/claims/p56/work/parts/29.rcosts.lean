/-! the reference's least costs from the end -/
theorem RZ_fr {m m' : Nat → Nat → Int32} {v : Int → Int} (h : m' 75 = m 75) (hR : RZ m v) : RZ m' v := by
  unfold RZ at hR ⊢
  rw [h]
  exact hR