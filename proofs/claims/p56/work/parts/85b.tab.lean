/-! .. all of them -/
set_option maxRecDepth 20000 in
theorem wu_100 : ∀ w ∈ wsX100, w ∈ lw_tbl := by decide +kernel
set_option maxRecDepth 20000 in
theorem wu_70 : ∀ w ∈ wsX70, w ∈ lw_tbl := by decide +kernel
set_option maxRecDepth 20000 in
theorem wu_10 : ∀ w ∈ wsX10, w ∈ lw_tbl := by decide +kernel
set_option maxRecDepth 20000 in
theorem wu_90 : ∀ w ∈ wsX90, w ∈ lw_tbl := by decide +kernel
set_option maxRecDepth 20000 in
theorem wu_30 : ∀ w ∈ wsX30, w ∈ lw_tbl := by decide +kernel
set_option maxRecDepth 20000 in
theorem wu_40 : ∀ w ∈ wsX40, w ∈ lw_tbl := by decide +kernel
set_option maxRecDepth 20000 in
theorem wu_50 : ∀ w ∈ wsX50, w ∈ lw_tbl := by decide +kernel
set_option maxRecDepth 20000 in
theorem wu_80 : ∀ w ∈ wsX80, w ∈ lw_tbl := by decide +kernel
set_option maxRecDepth 20000 in
theorem wu_20 : ∀ w ∈ wsX20, w ∈ lw_tbl := by decide +kernel
set_option maxRecDepth 20000 in
theorem wu_60 : ∀ w ∈ wsX60, w ∈ lw_tbl := by decide +kernel
set_option maxRecDepth 20000 in
theorem wu_0 : ∀ w ∈ wsX00, w ∈ lw_tbl := by decide +kernel
theorem wsL_law_in0 : ∀ w ∈ wsL_law0, w ∈ lw_tbl := by
  intro w h
  unfold wsL_law0 at h
  rcases List.mem_append.mp h with h | h
  case inr => cases h
  rcases List.mem_append.mp h with h | h
  case inr => exact wu_0 w h
  rcases List.mem_append.mp h with h | h
  case inr => exact wu_60 w h
  rcases List.mem_append.mp h with h | h
  case inr => exact wu_20 w h
  rcases List.mem_append.mp h with h | h
  case inr => exact wu_80 w h
  rcases List.mem_append.mp h with h | h
  case inr => exact wu_50 w h
  rcases List.mem_append.mp h with h | h
  case inr => exact wu_40 w h
  rcases List.mem_append.mp h with h | h
  case inr => exact wu_30 w h
  rcases List.mem_append.mp h with h | h
  case inr => exact wu_90 w h
  rcases List.mem_append.mp h with h | h
  case inr => exact wu_10 w h
  rcases List.mem_append.mp h with h | h
  case inr => exact wu_70 w h
  rcases List.mem_append.mp h with h | h
  case inr => exact wu_100 w h
  rcases List.mem_append.mp h with h | h
  · exact wi_1 w h
  rcases List.mem_append.mp h with h | h
  · exact wi_2 w h
  rcases List.mem_append.mp h with h | h
  · exact wi_3 w h
  rcases List.mem_append.mp h with h | h
  · exact wi_4 w h
  rcases List.mem_append.mp h with h | h
  · exact wi_5 w h
  rcases List.mem_append.mp h with h | h
  · exact wi_6 w h
  rcases List.mem_append.mp h with h | h
  · exact wi_7 w h
  rcases List.mem_append.mp h with h | h
  · exact wi_8 w h
  rcases List.mem_append.mp h with h | h
  · exact wi_9 w h
  rcases List.mem_append.mp h with h | h
  · exact wi_10 w h
  rcases List.mem_append.mp h with h | h
  · exact wi_11 w h
  rcases List.mem_append.mp h with h | h
  · exact wi_12 w h
  rcases List.mem_append.mp h with h | h
  · exact wi_13 w h
  rcases List.mem_append.mp h with h | h
  · exact wi_14 w h
  rcases List.mem_append.mp h with h | h
  · exact wi_15 w h
  rcases List.mem_append.mp h with h | h
  · exact wi_16 w h
  rcases List.mem_append.mp h with h | h
  · exact wi_17 w h
  rcases List.mem_append.mp h with h | h
  · exact wi_18 w h
  rcases List.mem_append.mp h with h | h
  · exact wi_19 w h
  rcases List.mem_append.mp h with h | h
  · exact wi_20 w h
  rcases List.mem_append.mp h with h | h
  · exact wi_21 w h
  rcases List.mem_append.mp h with h | h
  · exact wi_22 w h
  rcases List.mem_append.mp h with h | h
  · exact wi_23 w h
  rcases List.mem_append.mp h with h | h
  · exact wi_24 w h
  exact wi_25 w h
set_option maxRecDepth 20000 in
theorem wsL_law_x0 : ∀ w ∈ (vx_atS RX10 85 "java/lang/IllegalArgumentException" ["java/lang/RuntimeException", "java/lang/Exception"]).filter goodWord, w ∈ lw_tbl := by decide +kernel
set_option maxRecDepth 20000 in
theorem wsL_law_x1 : ∀ w ∈ (vx_atS RX10 98 "java/lang/IllegalStateException" ["java/lang/RuntimeException", "java/lang/Exception"]).filter goodWord, w ∈ lw_tbl := by decide +kernel
set_option maxRecDepth 20000 in
theorem wsL_law_x2 : ∀ w ∈ (vx_atS RX10 114 "java/lang/IndexOutOfBoundsException" ["java/lang/RuntimeException", "java/lang/Exception"]).filter goodWord, w ∈ lw_tbl := by decide +kernel
theorem wsL_law_in : ∀ w ∈ wsL_law, w ∈ lw_tbl := fun w h => (List.mem_append.mp h).elim (fun h => (List.mem_append.mp h).elim (fun h => (List.mem_append.mp h).elim (fun h => wsL_law_in0 w h) (fun h => wsL_law_x0 w h)) (fun h => wsL_law_x1 w h)) (fun h => wsL_law_x2 w h)
