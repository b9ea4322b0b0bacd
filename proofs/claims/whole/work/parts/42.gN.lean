theorem ggL_law_X10_fault : GoodIn wsL_law wsX10_fault := by
  intro w h
  unfold wsX10_fault at h
  rcases List.mem_cons.mp h with h | h
  · rw [h]; exact gc_X10_fault_0 _ (List.mem_singleton.mpr rfl)
  rcases List.mem_append.mp h with h | h
  case inr => exact gc_X10_fault_wsX70 w h
  rcases List.mem_append.mp h with h | h
  case inr => exact gc_X10_fault_wsX80 w h
  rcases List.mem_append.mp h with h | h
  case inr => exact gc_X10_fault_wsX40 w h
  rcases List.mem_append.mp h with h | h
  case inr => exact gc_X10_fault_wsX10 w h
  rcases List.mem_append.mp h with h | h
  case inr => exact gc_X10_fault_wsX60 w h
  rcases List.mem_append.mp h with h | h
  case inr => exact gc_X10_fault_wsX50 w h
  rcases List.mem_append.mp h with h | h
  case inr => exact gc_X10_fault_wsX100 w h
  rcases List.mem_append.mp h with h | h
  case inl => exact gc_X10_fault_wsX10_fault_r1 w h
  rcases List.mem_append.mp h with h | h
  case inl => exact gc_X10_fault_wsX10_fault_r2 w h
  rcases List.mem_append.mp h with h | h
  case inl => exact gc_X10_fault_wsX10_fault_r3 w h
  rcases List.mem_append.mp h with h | h
  case inl => exact gc_X10_fault_wsX10_fault_r4 w h
  rcases List.mem_append.mp h with h | h
  case inl => exact gc_X10_fault_wsX10_fault_r5 w h
  rcases List.mem_append.mp h with h | h
  case inl => exact gc_X10_fault_wsX10_fault_r6 w h
  rcases List.mem_append.mp h with h | h
  case inl => exact gc_X10_fault_wsX10_fault_r7 w h
  rcases List.mem_append.mp h with h | h
  case inl => exact gc_X10_fault_wsX10_fault_r8 w h
  rcases List.mem_append.mp h with h | h
  case inl => exact gc_X10_fault_wsX10_fault_r9 w h
  rcases List.mem_append.mp h with h | h
  case inl => exact gc_X10_fault_wsX10_fault_r10 w h
  rcases List.mem_append.mp h with h | h
  case inl => exact gc_X10_fault_wsX10_fault_r11 w h
  rcases List.mem_append.mp h with h | h
  case inl => exact gc_X10_fault_wsX10_fault_r12 w h
  rcases List.mem_append.mp h with h | h
  case inl => exact gc_X10_fault_wsX10_fault_r13 w h
  rcases List.mem_append.mp h with h | h
  case inl => exact gc_X10_fault_wsX10_fault_r14 w h
  exact gc_X10_fault_wsX10_fault_r15 w h
set_option maxRecDepth 20000 in
theorem gL_law_X10_fault : GoodIn wsL_law (wsV RL 124 RX10 yX10_fault wsX10_fault) := goodIn_app (goodIn_of _ (by decide +kernel)) ggL_law_X10_fault
theorem ggL_law_X11_fault : GoodIn wsL_law wsX11_fault := by
  intro w h
  unfold wsX11_fault at h
  rcases List.mem_cons.mp h with h | h
  · rw [h]; exact gc_X11_fault_0 _ (List.mem_singleton.mpr rfl)
  rcases List.mem_append.mp h with h | h
  case inr => exact gc_X11_fault_wsX110 w h
  rcases List.mem_append.mp h with h | h
  case inl => exact gc_X11_fault_wsX11_fault_r1 w h
  rcases List.mem_append.mp h with h | h
  case inl => exact gc_X11_fault_wsX11_fault_r2 w h
  rcases List.mem_append.mp h with h | h
  case inl => exact gc_X11_fault_wsX11_fault_r3 w h
  rcases List.mem_append.mp h with h | h
  case inl => exact gc_X11_fault_wsX11_fault_r4 w h
  rcases List.mem_append.mp h with h | h
  case inl => exact gc_X11_fault_wsX11_fault_r5 w h
  rcases List.mem_append.mp h with h | h
  case inl => exact gc_X11_fault_wsX11_fault_r6 w h
  rcases List.mem_append.mp h with h | h
  case inl => exact gc_X11_fault_wsX11_fault_r7 w h
  exact gc_X11_fault_wsX11_fault_r8 w h
set_option maxRecDepth 20000 in
theorem gL_law_X11_fault : GoodIn wsL_law (wsV RL 127 RX11 yX11_fault wsX11_fault) := goodIn_app (goodIn_of _ (by decide +kernel)) ggL_law_X11_fault
theorem ggL_law_X10_play : GoodIn wsL_law wsX10_play := by
  intro w h
  unfold wsX10_play at h
  rcases List.mem_cons.mp h with h | h
  · rw [h]; exact gc_X10_play_0 _ (List.mem_singleton.mpr rfl)
  rcases List.mem_append.mp h with h | h
  case inr => exact gc_X10_play_wsX30 w h
  rcases List.mem_append.mp h with h | h
  case inr => exact gc_X10_play_wsX80 w h
  rcases List.mem_append.mp h with h | h
  case inr => exact gc_X10_play_wsX40 w h
  rcases List.mem_append.mp h with h | h
  case inr => exact gc_X10_play_wsX10 w h
  rcases List.mem_append.mp h with h | h
  case inr => exact gc_X10_play_wsX60 w h
  rcases List.mem_append.mp h with h | h
  case inr => exact gc_X10_play_wsX50 w h
  rcases List.mem_append.mp h with h | h
  case inr => exact gc_X10_play_wsX70 w h
  rcases List.mem_append.mp h with h | h
  case inr => exact gc_X10_play_wsX100 w h
  rcases List.mem_append.mp h with h | h
  case inl => exact gc_X10_play_wsX10_play_r1 w h
  rcases List.mem_append.mp h with h | h
  case inl => exact gc_X10_play_wsX10_play_r2 w h
  rcases List.mem_append.mp h with h | h
  case inl => exact gc_X10_play_wsX10_play_r3 w h
  rcases List.mem_append.mp h with h | h
  case inl => exact gc_X10_play_wsX10_play_r4 w h
  rcases List.mem_append.mp h with h | h
  case inl => exact gc_X10_play_wsX10_play_r5 w h
  rcases List.mem_append.mp h with h | h
  case inl => exact gc_X10_play_wsX10_play_r6 w h
  rcases List.mem_append.mp h with h | h
  case inl => exact gc_X10_play_wsX10_play_r7 w h
  rcases List.mem_append.mp h with h | h
  case inl => exact gc_X10_play_wsX10_play_r8 w h
  rcases List.mem_append.mp h with h | h
  case inl => exact gc_X10_play_wsX10_play_r9 w h
  rcases List.mem_append.mp h with h | h
  case inl => exact gc_X10_play_wsX10_play_r10 w h
  rcases List.mem_append.mp h with h | h
  case inl => exact gc_X10_play_wsX10_play_r11 w h
  rcases List.mem_append.mp h with h | h
  case inl => exact gc_X10_play_wsX10_play_r12 w h
  rcases List.mem_append.mp h with h | h
  case inl => exact gc_X10_play_wsX10_play_r13 w h
  rcases List.mem_append.mp h with h | h
  case inl => exact gc_X10_play_wsX10_play_r14 w h
  exact gc_X10_play_wsX10_play_r15 w h
set_option maxRecDepth 20000 in
theorem gL_law_X10_play : GoodIn wsL_law (wsV RL 128 RX10 yX10_play wsX10_play) := goodIn_app (goodIn_of _ (by decide +kernel)) ggL_law_X10_play
theorem ggL_law_X11_play : GoodIn wsL_law wsX11_play := by
  intro w h
  unfold wsX11_play at h
  rcases List.mem_cons.mp h with h | h
  · rw [h]; exact gc_X11_play_0 _ (List.mem_singleton.mpr rfl)
  rcases List.mem_append.mp h with h | h
  case inr => exact gc_X11_play_wsX110 w h
  rcases List.mem_append.mp h with h | h
  case inl => exact gc_X11_play_wsX11_play_r1 w h
  rcases List.mem_append.mp h with h | h
  case inl => exact gc_X11_play_wsX11_play_r2 w h
  rcases List.mem_append.mp h with h | h
  case inl => exact gc_X11_play_wsX11_play_r3 w h
  rcases List.mem_append.mp h with h | h
  case inl => exact gc_X11_play_wsX11_play_r4 w h
  rcases List.mem_append.mp h with h | h
  case inl => exact gc_X11_play_wsX11_play_r5 w h
  rcases List.mem_append.mp h with h | h
  case inl => exact gc_X11_play_wsX11_play_r6 w h
  rcases List.mem_append.mp h with h | h
  case inl => exact gc_X11_play_wsX11_play_r7 w h
  exact gc_X11_play_wsX11_play_r8 w h
set_option maxRecDepth 20000 in
theorem gL_law_X11_play : GoodIn wsL_law (wsV RL 131 RX11 yX11_play wsX11_play) := goodIn_app (goodIn_of _ (by decide +kernel)) ggL_law_X11_play
