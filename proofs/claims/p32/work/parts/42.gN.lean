theorem ggL_brings_X10_bicycle : GoodIn wsL_brings wsX10_bicycle := by
  intro w h
  unfold wsX10_bicycle at h
  rcases List.mem_cons.mp h with h | h
  · rw [h]; exact gc_brings_X10_bicycle_0 _ (List.mem_singleton.mpr rfl)
  rcases List.mem_append.mp h with h | h
  case inr => exact gc_brings_X10_bicycle_wsX30 w h
  rcases List.mem_append.mp h with h | h
  case inr => exact gc_brings_X10_bicycle_wsX80 w h
  rcases List.mem_append.mp h with h | h
  case inr => exact gc_brings_X10_bicycle_wsX40 w h
  rcases List.mem_append.mp h with h | h
  case inr => exact gc_brings_X10_bicycle_wsX10 w h
  rcases List.mem_append.mp h with h | h
  case inr => exact gc_brings_X10_bicycle_wsX60 w h
  rcases List.mem_append.mp h with h | h
  case inr => exact gc_brings_X10_bicycle_wsX50 w h
  rcases List.mem_append.mp h with h | h
  case inr => exact gc_brings_X10_bicycle_wsX100 w h
  rcases List.mem_append.mp h with h | h
  case inl => exact gc_brings_X10_bicycle_wsX10_bicycle_r1 w h
  rcases List.mem_append.mp h with h | h
  case inl => exact gc_brings_X10_bicycle_wsX10_bicycle_r2 w h
  rcases List.mem_append.mp h with h | h
  case inl => exact gc_brings_X10_bicycle_wsX10_bicycle_r3 w h
  rcases List.mem_append.mp h with h | h
  case inl => exact gc_brings_X10_bicycle_wsX10_bicycle_r4 w h
  exact gc_brings_X10_bicycle_wsX10_bicycle_r5 w h
theorem ggL_rides_X10_rent : GoodIn wsL_rides wsX10_rent := by
  intro w h
  unfold wsX10_rent at h
  rcases List.mem_cons.mp h with h | h
  · rw [h]; exact gc_rides_X10_rent_0 _ (List.mem_singleton.mpr rfl)
  rcases List.mem_append.mp h with h | h
  case inr => exact gc_rides_X10_rent_wsX30 w h
  rcases List.mem_append.mp h with h | h
  case inr => exact gc_rides_X10_rent_wsX80 w h
  rcases List.mem_append.mp h with h | h
  case inr => exact gc_rides_X10_rent_wsX40 w h
  rcases List.mem_append.mp h with h | h
  case inr => exact gc_rides_X10_rent_wsX10 w h
  rcases List.mem_append.mp h with h | h
  case inr => exact gc_rides_X10_rent_wsX60 w h
  rcases List.mem_append.mp h with h | h
  case inr => exact gc_rides_X10_rent_wsX50 w h
  rcases List.mem_append.mp h with h | h
  case inr => exact gc_rides_X10_rent_wsX100 w h
  rcases List.mem_append.mp h with h | h
  case inl => exact gc_rides_X10_rent_wsX10_rent_r1 w h
  rcases List.mem_append.mp h with h | h
  case inl => exact gc_rides_X10_rent_wsX10_rent_r2 w h
  rcases List.mem_append.mp h with h | h
  case inl => exact gc_rides_X10_rent_wsX10_rent_r3 w h
  rcases List.mem_append.mp h with h | h
  case inl => exact gc_rides_X10_rent_wsX10_rent_r4 w h
  rcases List.mem_append.mp h with h | h
  case inl => exact gc_rides_X10_rent_wsX10_rent_r5 w h
  exact gc_rides_X10_rent_wsX10_rent_r6 w h
theorem ggL_rides_X10_back : GoodIn wsL_rides wsX10_back := by
  intro w h
  unfold wsX10_back at h
  rcases List.mem_cons.mp h with h | h
  · rw [h]; exact gc_rides_X10_back_0 _ (List.mem_singleton.mpr rfl)
  rcases List.mem_append.mp h with h | h
  case inr => exact gc_rides_X10_back_wsX30 w h
  rcases List.mem_append.mp h with h | h
  case inr => exact gc_rides_X10_back_wsX80 w h
  rcases List.mem_append.mp h with h | h
  case inr => exact gc_rides_X10_back_wsX40 w h
  rcases List.mem_append.mp h with h | h
  case inr => exact gc_rides_X10_back_wsX10 w h
  rcases List.mem_append.mp h with h | h
  case inr => exact gc_rides_X10_back_wsX60 w h
  rcases List.mem_append.mp h with h | h
  case inr => exact gc_rides_X10_back_wsX50 w h
  rcases List.mem_append.mp h with h | h
  case inr => exact gc_rides_X10_back_wsX100 w h
  rcases List.mem_append.mp h with h | h
  case inl => exact gc_rides_X10_back_wsX10_back_r1 w h
  rcases List.mem_append.mp h with h | h
  case inl => exact gc_rides_X10_back_wsX10_back_r2 w h
  rcases List.mem_append.mp h with h | h
  case inl => exact gc_rides_X10_back_wsX10_back_r3 w h
  rcases List.mem_append.mp h with h | h
  case inl => exact gc_rides_X10_back_wsX10_back_r4 w h
  rcases List.mem_append.mp h with h | h
  case inl => exact gc_rides_X10_back_wsX10_back_r5 w h
  exact gc_rides_X10_back_wsX10_back_r6 w h
theorem ggL_rides_X10_full : GoodIn wsL_rides wsX10_full := by
  intro w h
  unfold wsX10_full at h
  rcases List.mem_cons.mp h with h | h
  · rw [h]; exact gc_rides_X10_full_0 _ (List.mem_singleton.mpr rfl)
  rcases List.mem_append.mp h with h | h
  case inr => exact gc_rides_X10_full_wsX30 w h
  rcases List.mem_append.mp h with h | h
  case inr => exact gc_rides_X10_full_wsX80 w h
  rcases List.mem_append.mp h with h | h
  case inr => exact gc_rides_X10_full_wsX40 w h
  rcases List.mem_append.mp h with h | h
  case inr => exact gc_rides_X10_full_wsX10 w h
  rcases List.mem_append.mp h with h | h
  case inr => exact gc_rides_X10_full_wsX60 w h
  rcases List.mem_append.mp h with h | h
  case inr => exact gc_rides_X10_full_wsX50 w h
  rcases List.mem_append.mp h with h | h
  case inr => exact gc_rides_X10_full_wsX100 w h
  rcases List.mem_append.mp h with h | h
  case inl => exact gc_rides_X10_full_wsX10_full_r1 w h
  rcases List.mem_append.mp h with h | h
  case inl => exact gc_rides_X10_full_wsX10_full_r2 w h
  rcases List.mem_append.mp h with h | h
  case inl => exact gc_rides_X10_full_wsX10_full_r3 w h
  rcases List.mem_append.mp h with h | h
  case inl => exact gc_rides_X10_full_wsX10_full_r4 w h
  exact gc_rides_X10_full_wsX10_full_r5 w h
theorem ggL_drives_X10_take : GoodIn wsL_drives wsX10_take := by
  intro w h
  unfold wsX10_take at h
  rcases List.mem_cons.mp h with h | h
  · rw [h]; exact gc_drives_X10_take_0 _ (List.mem_singleton.mpr rfl)
  rcases List.mem_append.mp h with h | h
  case inr => exact gc_drives_X10_take_wsX30 w h
  rcases List.mem_append.mp h with h | h
  case inr => exact gc_drives_X10_take_wsX80 w h
  rcases List.mem_append.mp h with h | h
  case inr => exact gc_drives_X10_take_wsX40 w h
  rcases List.mem_append.mp h with h | h
  case inr => exact gc_drives_X10_take_wsX10 w h
  rcases List.mem_append.mp h with h | h
  case inr => exact gc_drives_X10_take_wsX60 w h
  rcases List.mem_append.mp h with h | h
  case inr => exact gc_drives_X10_take_wsX50 w h
  rcases List.mem_append.mp h with h | h
  case inr => exact gc_drives_X10_take_wsX100 w h
  rcases List.mem_append.mp h with h | h
  case inl => exact gc_drives_X10_take_wsX10_take_r1 w h
  rcases List.mem_append.mp h with h | h
  case inl => exact gc_drives_X10_take_wsX10_take_r2 w h
  rcases List.mem_append.mp h with h | h
  case inl => exact gc_drives_X10_take_wsX10_take_r3 w h
  rcases List.mem_append.mp h with h | h
  case inl => exact gc_drives_X10_take_wsX10_take_r4 w h
  exact gc_drives_X10_take_wsX10_take_r5 w h
theorem ggL_drives_X10_put : GoodIn wsL_drives wsX10_put := by
  intro w h
  unfold wsX10_put at h
  rcases List.mem_cons.mp h with h | h
  · rw [h]; exact gc_drives_X10_put_0 _ (List.mem_singleton.mpr rfl)
  rcases List.mem_append.mp h with h | h
  case inr => exact gc_drives_X10_put_wsX30 w h
  rcases List.mem_append.mp h with h | h
  case inr => exact gc_drives_X10_put_wsX80 w h
  rcases List.mem_append.mp h with h | h
  case inr => exact gc_drives_X10_put_wsX40 w h
  rcases List.mem_append.mp h with h | h
  case inr => exact gc_drives_X10_put_wsX10 w h
  rcases List.mem_append.mp h with h | h
  case inr => exact gc_drives_X10_put_wsX60 w h
  rcases List.mem_append.mp h with h | h
  case inr => exact gc_drives_X10_put_wsX50 w h
  rcases List.mem_append.mp h with h | h
  case inr => exact gc_drives_X10_put_wsX100 w h
  rcases List.mem_append.mp h with h | h
  case inl => exact gc_drives_X10_put_wsX10_put_r1 w h
  rcases List.mem_append.mp h with h | h
  case inl => exact gc_drives_X10_put_wsX10_put_r2 w h
  rcases List.mem_append.mp h with h | h
  case inl => exact gc_drives_X10_put_wsX10_put_r3 w h
  rcases List.mem_append.mp h with h | h
  case inl => exact gc_drives_X10_put_wsX10_put_r4 w h
  rcases List.mem_append.mp h with h | h
  case inl => exact gc_drives_X10_put_wsX10_put_r5 w h
  exact gc_drives_X10_put_wsX10_put_r6 w h
theorem ggL_drives_X10_mend : GoodIn wsL_drives wsX10_mend := by
  intro w h
  unfold wsX10_mend at h
  rcases List.mem_cons.mp h with h | h
  · rw [h]; exact gc_drives_X10_mend_0 _ (List.mem_singleton.mpr rfl)
  rcases List.mem_append.mp h with h | h
  case inr => exact gc_drives_X10_mend_wsX30 w h
  rcases List.mem_append.mp h with h | h
  case inr => exact gc_drives_X10_mend_wsX80 w h
  rcases List.mem_append.mp h with h | h
  case inr => exact gc_drives_X10_mend_wsX40 w h
  rcases List.mem_append.mp h with h | h
  case inr => exact gc_drives_X10_mend_wsX10 w h
  rcases List.mem_append.mp h with h | h
  case inr => exact gc_drives_X10_mend_wsX60 w h
  rcases List.mem_append.mp h with h | h
  case inr => exact gc_drives_X10_mend_wsX50 w h
  rcases List.mem_append.mp h with h | h
  case inr => exact gc_drives_X10_mend_wsX100 w h
  rcases List.mem_append.mp h with h | h
  case inl => exact gc_drives_X10_mend_wsX10_mend_r1 w h
  rcases List.mem_append.mp h with h | h
  case inl => exact gc_drives_X10_mend_wsX10_mend_r2 w h
  rcases List.mem_append.mp h with h | h
  case inl => exact gc_drives_X10_mend_wsX10_mend_r3 w h
  rcases List.mem_append.mp h with h | h
  case inl => exact gc_drives_X10_mend_wsX10_mend_r4 w h
  exact gc_drives_X10_mend_wsX10_mend_r5 w h
theorem ggL_drives_X10_go : GoodIn wsL_drives wsX10_go := by
  intro w h
  unfold wsX10_go at h
  rcases List.mem_cons.mp h with h | h
  · rw [h]; exact gc_drives_X10_go_0 _ (List.mem_singleton.mpr rfl)
  rcases List.mem_append.mp h with h | h
  case inr => exact gc_drives_X10_go_wsX30 w h
  rcases List.mem_append.mp h with h | h
  case inr => exact gc_drives_X10_go_wsX80 w h
  rcases List.mem_append.mp h with h | h
  case inr => exact gc_drives_X10_go_wsX40 w h
  rcases List.mem_append.mp h with h | h
  case inr => exact gc_drives_X10_go_wsX10 w h
  rcases List.mem_append.mp h with h | h
  case inr => exact gc_drives_X10_go_wsX60 w h
  rcases List.mem_append.mp h with h | h
  case inr => exact gc_drives_X10_go_wsX50 w h
  rcases List.mem_append.mp h with h | h
  case inr => exact gc_drives_X10_go_wsX100 w h
  rcases List.mem_append.mp h with h | h
  case inl => exact gc_drives_X10_go_wsX10_go_r1 w h
  rcases List.mem_append.mp h with h | h
  case inl => exact gc_drives_X10_go_wsX10_go_r2 w h
  rcases List.mem_append.mp h with h | h
  case inl => exact gc_drives_X10_go_wsX10_go_r3 w h
  rcases List.mem_append.mp h with h | h
  case inl => exact gc_drives_X10_go_wsX10_go_r4 w h
  exact gc_drives_X10_go_wsX10_go_r5 w h
theorem ggL_pauses_X10_pause : GoodIn wsL_pauses wsX10_pause := by
  intro w h
  unfold wsX10_pause at h
  rcases List.mem_cons.mp h with h | h
  · rw [h]; exact gc_pauses_X10_pause_0 _ (List.mem_singleton.mpr rfl)
  rcases List.mem_append.mp h with h | h
  case inr => exact gc_pauses_X10_pause_wsX30 w h
  rcases List.mem_append.mp h with h | h
  case inr => exact gc_pauses_X10_pause_wsX80 w h
  rcases List.mem_append.mp h with h | h
  case inr => exact gc_pauses_X10_pause_wsX40 w h
  rcases List.mem_append.mp h with h | h
  case inr => exact gc_pauses_X10_pause_wsX10 w h
  rcases List.mem_append.mp h with h | h
  case inr => exact gc_pauses_X10_pause_wsX60 w h
  rcases List.mem_append.mp h with h | h
  case inr => exact gc_pauses_X10_pause_wsX50 w h
  rcases List.mem_append.mp h with h | h
  case inr => exact gc_pauses_X10_pause_wsX100 w h
  rcases List.mem_append.mp h with h | h
  case inl => exact gc_pauses_X10_pause_wsX10_pause_r1 w h
  rcases List.mem_append.mp h with h | h
  case inl => exact gc_pauses_X10_pause_wsX10_pause_r2 w h
  rcases List.mem_append.mp h with h | h
  case inl => exact gc_pauses_X10_pause_wsX10_pause_r3 w h
  rcases List.mem_append.mp h with h | h
  case inl => exact gc_pauses_X10_pause_wsX10_pause_r4 w h
  rcases List.mem_append.mp h with h | h
  case inl => exact gc_pauses_X10_pause_wsX10_pause_r5 w h
  exact gc_pauses_X10_pause_wsX10_pause_r6 w h
theorem ggL_acts_L_brings : GoodIn wsL_acts wsL_brings := by
  intro w h
  unfold wsL_brings at h
  rcases List.mem_cons.mp h with h | h
  · rw [h]; exact gc_acts_L_brings_0 _ (List.mem_singleton.mpr rfl)
  rcases List.mem_append.mp h with h | h
  case inr => exact gc_acts_L_brings_wsX30 w h
  rcases List.mem_append.mp h with h | h
  case inr => exact gc_acts_L_brings_wsX80 w h
  rcases List.mem_append.mp h with h | h
  case inr => exact gc_acts_L_brings_wsX40 w h
  rcases List.mem_append.mp h with h | h
  case inr => exact gc_acts_L_brings_wsX10 w h
  rcases List.mem_append.mp h with h | h
  case inr => exact gc_acts_L_brings_wsX60 w h
  rcases List.mem_append.mp h with h | h
  case inr => exact gc_acts_L_brings_wsX50 w h
  rcases List.mem_append.mp h with h | h
  case inr => exact gc_acts_L_brings_wsX100 w h
  rcases List.mem_append.mp h with h | h
  case inl => exact gc_acts_L_brings_wsL_brings_r1 w h
  rcases List.mem_append.mp h with h | h
  case inl => exact gc_acts_L_brings_wsL_brings_r2 w h
  rcases List.mem_append.mp h with h | h
  case inl => exact gc_acts_L_brings_wsL_brings_r3 w h
  rcases List.mem_append.mp h with h | h
  case inl => exact gc_acts_L_brings_wsL_brings_r4 w h
  rcases List.mem_append.mp h with h | h
  case inl => exact gc_acts_L_brings_wsL_brings_r5 w h
  rcases List.mem_append.mp h with h | h
  case inl => exact gc_acts_L_brings_wsL_brings_r6 w h
  exact gc_acts_L_brings_wsL_brings_r7 w h
theorem ggL_acts_L_rides : GoodIn wsL_acts wsL_rides := by
  intro w h
  unfold wsL_rides at h
  rcases List.mem_cons.mp h with h | h
  · rw [h]; exact gc_acts_L_rides_0 _ (List.mem_singleton.mpr rfl)
  rcases List.mem_append.mp h with h | h
  case inr => exact gc_acts_L_rides_wsX30 w h
  rcases List.mem_append.mp h with h | h
  case inr => exact gc_acts_L_rides_wsX80 w h
  rcases List.mem_append.mp h with h | h
  case inr => exact gc_acts_L_rides_wsX40 w h
  rcases List.mem_append.mp h with h | h
  case inr => exact gc_acts_L_rides_wsX10 w h
  rcases List.mem_append.mp h with h | h
  case inr => exact gc_acts_L_rides_wsX60 w h
  rcases List.mem_append.mp h with h | h
  case inr => exact gc_acts_L_rides_wsX50 w h
  rcases List.mem_append.mp h with h | h
  case inr => exact gc_acts_L_rides_wsX100 w h
  rcases List.mem_append.mp h with h | h
  case inl => exact gc_acts_L_rides_wsL_rides_r1 w h
  rcases List.mem_append.mp h with h | h
  case inl => exact gc_acts_L_rides_wsL_rides_r2 w h
  rcases List.mem_append.mp h with h | h
  case inl => exact gc_acts_L_rides_wsL_rides_r3 w h
  rcases List.mem_append.mp h with h | h
  case inl => exact gc_acts_L_rides_wsL_rides_r4 w h
  rcases List.mem_append.mp h with h | h
  case inl => exact gc_acts_L_rides_wsL_rides_r5 w h
  rcases List.mem_append.mp h with h | h
  case inl => exact gc_acts_L_rides_wsL_rides_r6 w h
  rcases List.mem_append.mp h with h | h
  case inl => exact gc_acts_L_rides_wsL_rides_r7 w h
  rcases List.mem_append.mp h with h | h
  case inl => exact gc_acts_L_rides_wsL_rides_r8 w h
  exact gc_acts_L_rides_wsL_rides_r9 w h
theorem ggL_acts_L_drives : GoodIn wsL_acts wsL_drives := by
  intro w h
  unfold wsL_drives at h
  rcases List.mem_cons.mp h with h | h
  · rw [h]; exact gc_acts_L_drives_0 _ (List.mem_singleton.mpr rfl)
  rcases List.mem_append.mp h with h | h
  case inr => exact gc_acts_L_drives_wsX30 w h
  rcases List.mem_append.mp h with h | h
  case inr => exact gc_acts_L_drives_wsX80 w h
  rcases List.mem_append.mp h with h | h
  case inr => exact gc_acts_L_drives_wsX40 w h
  rcases List.mem_append.mp h with h | h
  case inr => exact gc_acts_L_drives_wsX10 w h
  rcases List.mem_append.mp h with h | h
  case inr => exact gc_acts_L_drives_wsX60 w h
  rcases List.mem_append.mp h with h | h
  case inr => exact gc_acts_L_drives_wsX50 w h
  rcases List.mem_append.mp h with h | h
  case inr => exact gc_acts_L_drives_wsX100 w h
  rcases List.mem_append.mp h with h | h
  case inl => exact gc_acts_L_drives_wsL_drives_r1 w h
  rcases List.mem_append.mp h with h | h
  case inl => exact gc_acts_L_drives_wsL_drives_r2 w h
  rcases List.mem_append.mp h with h | h
  case inl => exact gc_acts_L_drives_wsL_drives_r3 w h
  rcases List.mem_append.mp h with h | h
  case inl => exact gc_acts_L_drives_wsL_drives_r4 w h
  rcases List.mem_append.mp h with h | h
  case inl => exact gc_acts_L_drives_wsL_drives_r5 w h
  rcases List.mem_append.mp h with h | h
  case inl => exact gc_acts_L_drives_wsL_drives_r6 w h
  rcases List.mem_append.mp h with h | h
  case inl => exact gc_acts_L_drives_wsL_drives_r7 w h
  exact gc_acts_L_drives_wsL_drives_r8 w h
theorem ggL_acts_L_pauses : GoodIn wsL_acts wsL_pauses := by
  intro w h
  unfold wsL_pauses at h
  rcases List.mem_cons.mp h with h | h
  · rw [h]; exact gc_acts_L_pauses_0 _ (List.mem_singleton.mpr rfl)
  rcases List.mem_append.mp h with h | h
  case inr => exact gc_acts_L_pauses_wsX30 w h
  rcases List.mem_append.mp h with h | h
  case inr => exact gc_acts_L_pauses_wsX80 w h
  rcases List.mem_append.mp h with h | h
  case inr => exact gc_acts_L_pauses_wsX40 w h
  rcases List.mem_append.mp h with h | h
  case inr => exact gc_acts_L_pauses_wsX10 w h
  rcases List.mem_append.mp h with h | h
  case inr => exact gc_acts_L_pauses_wsX60 w h
  rcases List.mem_append.mp h with h | h
  case inr => exact gc_acts_L_pauses_wsX50 w h
  rcases List.mem_append.mp h with h | h
  case inr => exact gc_acts_L_pauses_wsX100 w h
  rcases List.mem_append.mp h with h | h
  case inl => exact gc_acts_L_pauses_wsL_pauses_r1 w h
  rcases List.mem_append.mp h with h | h
  case inl => exact gc_acts_L_pauses_wsL_pauses_r2 w h
  rcases List.mem_append.mp h with h | h
  case inl => exact gc_acts_L_pauses_wsL_pauses_r3 w h
  rcases List.mem_append.mp h with h | h
  case inl => exact gc_acts_L_pauses_wsL_pauses_r4 w h
  rcases List.mem_append.mp h with h | h
  case inl => exact gc_acts_L_pauses_wsL_pauses_r5 w h
  exact gc_acts_L_pauses_wsL_pauses_r6 w h
theorem ggL_isSo_L_areBicycles : GoodIn wsL_isSo wsL_areBicycles := by
  intro w h
  unfold wsL_areBicycles at h
  rcases List.mem_cons.mp h with h | h
  · rw [h]; exact gc_isSo_L_areBicycles_0 _ (List.mem_singleton.mpr rfl)
  rcases List.mem_append.mp h with h | h
  case inr => exact gc_isSo_L_areBicycles_wsX70 w h
  rcases List.mem_append.mp h with h | h
  case inr => exact gc_isSo_L_areBicycles_wsX30 w h
  rcases List.mem_append.mp h with h | h
  case inr => exact gc_isSo_L_areBicycles_wsX80 w h
  rcases List.mem_append.mp h with h | h
  case inr => exact gc_isSo_L_areBicycles_wsX40 w h
  rcases List.mem_append.mp h with h | h
  case inr => exact gc_isSo_L_areBicycles_wsX60 w h
  rcases List.mem_append.mp h with h | h
  case inr => exact gc_isSo_L_areBicycles_wsX10 w h
  rcases List.mem_append.mp h with h | h
  case inr => exact gc_isSo_L_areBicycles_wsX50 w h
  rcases List.mem_append.mp h with h | h
  case inr => exact gc_isSo_L_areBicycles_wsX100 w h
  rcases List.mem_append.mp h with h | h
  case inl => exact gc_isSo_L_areBicycles_wsL_areBicycles_r1 w h
  rcases List.mem_append.mp h with h | h
  case inl => exact gc_isSo_L_areBicycles_wsL_areBicycles_r2 w h
  rcases List.mem_append.mp h with h | h
  case inl => exact gc_isSo_L_areBicycles_wsL_areBicycles_r3 w h
  rcases List.mem_append.mp h with h | h
  case inl => exact gc_isSo_L_areBicycles_wsL_areBicycles_r4 w h
  exact gc_isSo_L_areBicycles_wsL_areBicycles_r5 w h
theorem ggL_isSo_L_areRiders : GoodIn wsL_isSo wsL_areRiders := by
  intro w h
  unfold wsL_areRiders at h
  rcases List.mem_cons.mp h with h | h
  · rw [h]; exact gc_isSo_L_areRiders_0 _ (List.mem_singleton.mpr rfl)
  rcases List.mem_append.mp h with h | h
  case inr => exact gc_isSo_L_areRiders_wsX70 w h
  rcases List.mem_append.mp h with h | h
  case inr => exact gc_isSo_L_areRiders_wsX30 w h
  rcases List.mem_append.mp h with h | h
  case inr => exact gc_isSo_L_areRiders_wsX80 w h
  rcases List.mem_append.mp h with h | h
  case inr => exact gc_isSo_L_areRiders_wsX20 w h
  rcases List.mem_append.mp h with h | h
  case inr => exact gc_isSo_L_areRiders_wsX10 w h
  rcases List.mem_append.mp h with h | h
  case inr => exact gc_isSo_L_areRiders_wsX60 w h
  rcases List.mem_append.mp h with h | h
  case inr => exact gc_isSo_L_areRiders_wsX40 w h
  rcases List.mem_append.mp h with h | h
  case inr => exact gc_isSo_L_areRiders_wsX50 w h
  rcases List.mem_append.mp h with h | h
  case inr => exact gc_isSo_L_areRiders_wsX100 w h
  rcases List.mem_append.mp h with h | h
  case inl => exact gc_isSo_L_areRiders_wsL_areRiders_r1 w h
  rcases List.mem_append.mp h with h | h
  case inl => exact gc_isSo_L_areRiders_wsL_areRiders_r2 w h
  rcases List.mem_append.mp h with h | h
  case inl => exact gc_isSo_L_areRiders_wsL_areRiders_r3 w h
  rcases List.mem_append.mp h with h | h
  case inl => exact gc_isSo_L_areRiders_wsL_areRiders_r4 w h
  rcases List.mem_append.mp h with h | h
  case inl => exact gc_isSo_L_areRiders_wsL_areRiders_r5 w h
  rcases List.mem_append.mp h with h | h
  case inl => exact gc_isSo_L_areRiders_wsL_areRiders_r6 w h
  exact gc_isSo_L_areRiders_wsL_areRiders_r7 w h
theorem ggL_law_X10_init : GoodIn wsL_law wsX10_init := by
  intro w h
  unfold wsX10_init at h
  rcases List.mem_cons.mp h with h | h
  · rw [h]; exact gc_law_X10_init_0 _ (List.mem_singleton.mpr rfl)
  rcases List.mem_append.mp h with h | h
  case inr => exact gc_law_X10_init_wsX80 w h
  rcases List.mem_append.mp h with h | h
  case inr => exact gc_law_X10_init_wsX40 w h
  rcases List.mem_append.mp h with h | h
  case inr => exact gc_law_X10_init_wsX10 w h
  rcases List.mem_append.mp h with h | h
  case inr => exact gc_law_X10_init_wsX60 w h
  rcases List.mem_append.mp h with h | h
  case inr => exact gc_law_X10_init_wsX70 w h
  rcases List.mem_append.mp h with h | h
  case inr => exact gc_law_X10_init_wsX20 w h
  rcases List.mem_append.mp h with h | h
  case inr => exact gc_law_X10_init_wsX30 w h
  rcases List.mem_append.mp h with h | h
  case inr => exact gc_law_X10_init_wsX100 w h
  rcases List.mem_append.mp h with h | h
  case inr => exact gc_law_X10_init_wsX50 w h
  rcases List.mem_append.mp h with h | h
  case inl => exact gc_law_X10_init_wsX10_init_r1 w h
  rcases List.mem_append.mp h with h | h
  case inl => exact gc_law_X10_init_wsX10_init_r2 w h
  rcases List.mem_append.mp h with h | h
  case inl => exact gc_law_X10_init_wsX10_init_r3 w h
  rcases List.mem_append.mp h with h | h
  case inl => exact gc_law_X10_init_wsX10_init_r4 w h
  exact gc_law_X10_init_wsX10_init_r5 w h
theorem ggL_law_L_isSo : GoodIn wsL_law wsL_isSo := by
  intro w h
  unfold wsL_isSo at h
  rcases List.mem_cons.mp h with h | h
  · rw [h]; exact gc_law_L_isSo_0 _ (List.mem_singleton.mpr rfl)
  rcases List.mem_append.mp h with h | h
  case inr => exact gc_law_L_isSo_wsX20 w h
  rcases List.mem_append.mp h with h | h
  case inr => exact gc_law_L_isSo_wsX70 w h
  rcases List.mem_append.mp h with h | h
  case inr => exact gc_law_L_isSo_wsX30 w h
  rcases List.mem_append.mp h with h | h
  case inr => exact gc_law_L_isSo_wsX80 w h
  rcases List.mem_append.mp h with h | h
  case inr => exact gc_law_L_isSo_wsX40 w h
  rcases List.mem_append.mp h with h | h
  case inr => exact gc_law_L_isSo_wsX60 w h
  rcases List.mem_append.mp h with h | h
  case inr => exact gc_law_L_isSo_wsX10 w h
  rcases List.mem_append.mp h with h | h
  case inr => exact gc_law_L_isSo_wsX50 w h
  rcases List.mem_append.mp h with h | h
  case inr => exact gc_law_L_isSo_wsX100 w h
  rcases List.mem_append.mp h with h | h
  case inl => exact gc_law_L_isSo_wsL_isSo_r1 w h
  rcases List.mem_append.mp h with h | h
  case inl => exact gc_law_L_isSo_wsL_isSo_r2 w h
  rcases List.mem_append.mp h with h | h
  case inl => exact gc_law_L_isSo_wsL_isSo_r3 w h
  rcases List.mem_append.mp h with h | h
  case inl => exact gc_law_L_isSo_wsL_isSo_r4 w h
  rcases List.mem_append.mp h with h | h
  case inl => exact gc_law_L_isSo_wsL_isSo_r5 w h
  rcases List.mem_append.mp h with h | h
  case inl => exact gc_law_L_isSo_wsL_isSo_r6 w h
  rcases List.mem_append.mp h with h | h
  case inl => exact gc_law_L_isSo_wsL_isSo_r7 w h
  rcases List.mem_append.mp h with h | h
  case inl => exact gc_law_L_isSo_wsL_isSo_r8 w h
  exact gc_law_L_isSo_wsL_isSo_r9 w h
theorem ggL_law_L_acts : GoodIn wsL_law wsL_acts := by
  intro w h
  unfold wsL_acts at h
  rcases List.mem_cons.mp h with h | h
  · rw [h]; exact gc_law_L_acts_0 _ (List.mem_singleton.mpr rfl)
  rcases List.mem_append.mp h with h | h
  case inr => exact gc_law_L_acts_wsX30 w h
  rcases List.mem_append.mp h with h | h
  case inr => exact gc_law_L_acts_wsX80 w h
  rcases List.mem_append.mp h with h | h
  case inr => exact gc_law_L_acts_wsX40 w h
  rcases List.mem_append.mp h with h | h
  case inr => exact gc_law_L_acts_wsX10 w h
  rcases List.mem_append.mp h with h | h
  case inr => exact gc_law_L_acts_wsX60 w h
  rcases List.mem_append.mp h with h | h
  case inr => exact gc_law_L_acts_wsX50 w h
  rcases List.mem_append.mp h with h | h
  case inr => exact gc_law_L_acts_wsX100 w h
  rcases List.mem_append.mp h with h | h
  case inl => exact gc_law_L_acts_wsL_acts_r1 w h
  rcases List.mem_append.mp h with h | h
  case inl => exact gc_law_L_acts_wsL_acts_r2 w h
  rcases List.mem_append.mp h with h | h
  case inl => exact gc_law_L_acts_wsL_acts_r3 w h
  rcases List.mem_append.mp h with h | h
  case inl => exact gc_law_L_acts_wsL_acts_r4 w h
  rcases List.mem_append.mp h with h | h
  case inl => exact gc_law_L_acts_wsL_acts_r5 w h
  rcases List.mem_append.mp h with h | h
  case inl => exact gc_law_L_acts_wsL_acts_r6 w h
  rcases List.mem_append.mp h with h | h
  case inl => exact gc_law_L_acts_wsL_acts_r7 w h
  rcases List.mem_append.mp h with h | h
  case inl => exact gc_law_L_acts_wsL_acts_r8 w h
  rcases List.mem_append.mp h with h | h
  case inl => exact gc_law_L_acts_wsL_acts_r9 w h
  rcases List.mem_append.mp h with h | h
  case inl => exact gc_law_L_acts_wsL_acts_r10 w h
  rcases List.mem_append.mp h with h | h
  case inl => exact gc_law_L_acts_wsL_acts_r11 w h
  rcases List.mem_append.mp h with h | h
  case inl => exact gc_law_L_acts_wsL_acts_r12 w h
  rcases List.mem_append.mp h with h | h
  case inl => exact gc_law_L_acts_wsL_acts_r13 w h
  rcases List.mem_append.mp h with h | h
  case inl => exact gc_law_L_acts_wsL_acts_r14 w h
  rcases List.mem_append.mp h with h | h
  case inl => exact gc_law_L_acts_wsL_acts_r15 w h
  exact gc_law_L_acts_wsL_acts_r16 w h
set_option maxRecDepth 20000 in
theorem gL_brings_X10_bicycle : GoodIn wsL_brings (wsV RL 25 RX10 yX10_bicycle wsX10_bicycle) := goodIn_app (goodIn_of _ (by decide +kernel)) ggL_brings_X10_bicycle
set_option maxRecDepth 20000 in
theorem gL_rides_X10_rent : GoodIn wsL_rides (wsV RL 39 RX10 yX10_rent wsX10_rent) := goodIn_app (goodIn_of _ (by decide +kernel)) ggL_rides_X10_rent
set_option maxRecDepth 20000 in
theorem gL_rides_X10_back : GoodIn wsL_rides (wsV RL 42 RX10 yX10_back wsX10_back) := goodIn_app (goodIn_of _ (by decide +kernel)) ggL_rides_X10_back
set_option maxRecDepth 20000 in
theorem gL_rides_X10_full : GoodIn wsL_rides (wsV RL 49 RX10 yX10_full wsX10_full) := goodIn_app (goodIn_of _ (by decide +kernel)) ggL_rides_X10_full
set_option maxRecDepth 20000 in
theorem gL_drives_X10_take : GoodIn wsL_drives (wsV RL 55 RX10 yX10_take wsX10_take) := goodIn_app (goodIn_of _ (by decide +kernel)) ggL_drives_X10_take
set_option maxRecDepth 20000 in
theorem gL_drives_X10_put : GoodIn wsL_drives (wsV RL 58 RX10 yX10_put wsX10_put) := goodIn_app (goodIn_of _ (by decide +kernel)) ggL_drives_X10_put
set_option maxRecDepth 20000 in
theorem gL_drives_X10_mend : GoodIn wsL_drives (wsV RL 61 RX10 yX10_mend wsX10_mend) := goodIn_app (goodIn_of _ (by decide +kernel)) ggL_drives_X10_mend
set_option maxRecDepth 20000 in
theorem gL_drives_X10_go : GoodIn wsL_drives (wsV RL 64 RX10 yX10_go wsX10_go) := goodIn_app (goodIn_of _ (by decide +kernel)) ggL_drives_X10_go
set_option maxRecDepth 20000 in
theorem gL_pauses_X10_pause : GoodIn wsL_pauses (wsV RL 71 RX10 yX10_pause wsX10_pause) := goodIn_app (goodIn_of _ (by decide +kernel)) ggL_pauses_X10_pause
set_option maxRecDepth 20000 in
theorem gL_acts_L_brings : GoodIn wsL_acts (va_wsS RL 78 yL_brings wsL_brings) := goodIn_app (goodIn_of _ (by decide +kernel)) ggL_acts_L_brings
set_option maxRecDepth 20000 in
theorem gL_acts_L_rides : GoodIn wsL_acts (va_wsS RL 82 yL_rides wsL_rides) := goodIn_app (goodIn_of _ (by decide +kernel)) ggL_acts_L_rides
set_option maxRecDepth 20000 in
theorem gL_acts_L_drives : GoodIn wsL_acts (va_wsS RL 86 yL_drives wsL_drives) := goodIn_app (goodIn_of _ (by decide +kernel)) ggL_acts_L_drives
set_option maxRecDepth 20000 in
theorem gL_acts_L_pauses : GoodIn wsL_acts (va_wsS RL 90 yL_pauses wsL_pauses) := goodIn_app (goodIn_of _ (by decide +kernel)) ggL_acts_L_pauses
set_option maxRecDepth 20000 in
theorem gL_isSo_L_areBicycles : GoodIn wsL_isSo (va_wsS RL 112 yL_areBicycles wsL_areBicycles) := goodIn_app (goodIn_of _ (by decide +kernel)) ggL_isSo_L_areBicycles
set_option maxRecDepth 20000 in
theorem gL_isSo_L_areRiders : GoodIn wsL_isSo (va_wsS RL 116 yL_areRiders wsL_areRiders) := goodIn_app (goodIn_of _ (by decide +kernel)) ggL_isSo_L_areRiders
set_option maxRecDepth 20000 in
theorem gL_law_X10_init : GoodIn wsL_law (wsX10_init) := ggL_law_X10_init
set_option maxRecDepth 20000 in
theorem gL_law_L_isSo : GoodIn wsL_law (va_wsS RL 123 yL_isSo wsL_isSo) := goodIn_app (goodIn_of _ (by decide +kernel)) ggL_law_L_isSo
set_option maxRecDepth 20000 in
theorem gL_law_L_acts : GoodIn wsL_law (va_wsS RL 131 yL_acts wsL_acts) := goodIn_app (goodIn_of _ (by decide +kernel)) ggL_law_L_acts
