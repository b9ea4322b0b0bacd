set_option maxRecDepth 20000 in
theorem inL_wsX20 : ∀ w ∈ wsX20, w ∈ lw_tbl := by decide +kernel
set_option maxRecDepth 20000 in
theorem inL_wsX70 : ∀ w ∈ wsX70, w ∈ lw_tbl := by decide +kernel
set_option maxRecDepth 20000 in
theorem inL_wsX60 : ∀ w ∈ wsX60, w ∈ lw_tbl := by decide +kernel
set_option maxRecDepth 20000 in
theorem inL_wsX10 : ∀ w ∈ wsX10, w ∈ lw_tbl := by decide +kernel
set_option maxRecDepth 20000 in
theorem inL_wsX40 : ∀ w ∈ wsX40, w ∈ lw_tbl := by decide +kernel
set_option maxRecDepth 20000 in
theorem inL_wsX80 : ∀ w ∈ wsX80, w ∈ lw_tbl := by decide +kernel
theorem wsL_law_in : ∀ w ∈ wsL_law, w ∈ lw_tbl := by
  intro w h
  unfold wsL_law at h
  rcases List.mem_append.mp h with h | h
  case inr => cases h
  rcases List.mem_append.mp h with h | h
  case inr => exact inL_wsX80 w h
  rcases List.mem_append.mp h with h | h
  case inr => exact inL_wsX40 w h
  rcases List.mem_append.mp h with h | h
  case inr => exact inL_wsX10 w h
  rcases List.mem_append.mp h with h | h
  case inr => exact inL_wsX60 w h
  rcases List.mem_append.mp h with h | h
  case inr => exact inL_wsX70 w h
  rcases List.mem_append.mp h with h | h
  case inr => exact inL_wsX20 w h
  rcases List.mem_append.mp h with h | h
  case inr => exact inL_wsX30 w h
  rcases List.mem_append.mp h with h | h
  case inr => exact inL_wsX50 w h
  rcases List.mem_append.mp h with h | h
  case inr => exact inL_wsX100 w h
  rcases List.mem_append.mp h with h | h
  case inl => exact (inL_1 w h).1
  rcases List.mem_append.mp h with h | h
  case inl => exact (inL_2 w h).1
  rcases List.mem_append.mp h with h | h
  case inl => exact (inL_3 w h).1
  rcases List.mem_append.mp h with h | h
  case inl => exact (inL_4 w h).1
  rcases List.mem_append.mp h with h | h
  case inl => exact (inL_5 w h).1
  rcases List.mem_append.mp h with h | h
  case inl => exact (inL_6 w h).1
  rcases List.mem_append.mp h with h | h
  case inl => exact (inL_7 w h).1
  rcases List.mem_append.mp h with h | h
  case inl => exact (inL_8 w h).1
  rcases List.mem_append.mp h with h | h
  case inl => exact (inL_9 w h).1
  rcases List.mem_append.mp h with h | h
  case inl => exact (inL_10 w h).1
  rcases List.mem_append.mp h with h | h
  case inl => exact (inL_11 w h).1
  rcases List.mem_append.mp h with h | h
  case inl => exact (inL_12 w h).1
  rcases List.mem_append.mp h with h | h
  case inl => exact (inL_13 w h).1
  rcases List.mem_append.mp h with h | h
  case inl => exact (inL_14 w h).1
  rcases List.mem_append.mp h with h | h
  case inl => exact (inL_15 w h).1
  rcases List.mem_append.mp h with h | h
  case inl => exact (inL_16 w h).1
  rcases List.mem_append.mp h with h | h
  case inl => exact (inL_17 w h).1
  rcases List.mem_append.mp h with h | h
  case inl => exact (inL_18 w h).1
  rcases List.mem_append.mp h with h | h
  case inl => exact (inL_19 w h).1
  rcases List.mem_append.mp h with h | h
  case inl => exact (inL_20 w h).1
  rcases List.mem_append.mp h with h | h
  case inl => exact (inL_21 w h).1
  rcases List.mem_append.mp h with h | h
  case inl => exact (inL_22 w h).1
  rcases List.mem_append.mp h with h | h
  case inl => exact (inL_23 w h).1
  rcases List.mem_append.mp h with h | h
  case inl => exact (inL_24 w h).1
  exact (inL_25 w h).1
theorem inX10 : ∀ w ∈ wsX100, w ∈ lw_tbl := inL_wsX100
theorem inX5 : ∀ w ∈ wsX50, w ∈ lw_tbl := inL_wsX50
theorem inX3 : ∀ w ∈ wsX30, w ∈ lw_tbl := inL_wsX30
theorem inX2 : ∀ w ∈ wsX20, w ∈ lw_tbl := inL_wsX20
theorem inX7 : ∀ w ∈ wsX70, w ∈ lw_tbl := inL_wsX70
theorem inX6 : ∀ w ∈ wsX60, w ∈ lw_tbl := inL_wsX60
theorem inX1 : ∀ w ∈ wsX10, w ∈ lw_tbl := inL_wsX10
theorem inX4 : ∀ w ∈ wsX40, w ∈ lw_tbl := inL_wsX40
theorem inX8 : ∀ w ∈ wsX80, w ∈ lw_tbl := inL_wsX80
