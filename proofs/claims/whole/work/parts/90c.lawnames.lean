theorem inWX7 : ∀ w ∈ wsX70, w ∈ lw_tbl := by decide +kernel
theorem inWX8 : ∀ w ∈ wsX80, w ∈ lw_tbl := by decide +kernel
theorem inWX2 : ∀ w ∈ wsX20, w ∈ lw_tbl := by decide +kernel
theorem inWX4 : ∀ w ∈ wsX40, w ∈ lw_tbl := by decide +kernel
theorem inWX0 : ∀ w ∈ wsX00, w ∈ lw_tbl := by decide +kernel
theorem inWX5 : ∀ w ∈ wsX50, w ∈ lw_tbl := by decide +kernel
theorem inWX1 : ∀ w ∈ wsX10, w ∈ lw_tbl := by decide +kernel
theorem inWX6 : ∀ w ∈ wsX60, w ∈ lw_tbl := by decide +kernel
theorem inWX3 : ∀ w ∈ wsX30, w ∈ lw_tbl := by decide +kernel
theorem wsL_law_in0 : ∀ w ∈ wsL_law0, w ∈ lw_tbl := by
  intro w h
  unfold wsL_law0 at h
  rw [List.append_nil] at h
  simp only [List.mem_append] at h
  rcases h with (((((((((h | h | h | h | h | h | h | h | h | h | h | h | h | h | h | h | h | h | h | h | h | h | h | h | h | h | h | h | h | h | h | h | h | h | h | h | h | h) | h) | h) | h) | h) | h) | h) | h) | h) | h
  · exact wsL_in_r1 w h
  · exact wsL_in_r2 w h
  · exact wsL_in_r3 w h
  · exact wsL_in_r4 w h
  · exact wsL_in_r5 w h
  · exact wsL_in_r6 w h
  · exact wsL_in_r7 w h
  · exact wsL_in_r8 w h
  · exact wsL_in_r9 w h
  · exact wsL_in_r10 w h
  · exact wsL_in_r11 w h
  · exact wsL_in_r12 w h
  · exact wsL_in_r13 w h
  · exact wsL_in_r14 w h
  · exact wsL_in_r15 w h
  · exact wsL_in_r16 w h
  · exact wsL_in_r17 w h
  · exact wsL_in_r18 w h
  · exact wsL_in_r19 w h
  · exact wsL_in_r20 w h
  · exact wsL_in_r21 w h
  · exact wsL_in_r22 w h
  · exact wsL_in_r23 w h
  · exact wsL_in_r24 w h
  · exact wsL_in_r25 w h
  · exact wsL_in_r26 w h
  · exact wsL_in_r27 w h
  · exact wsL_in_r28 w h
  · exact wsL_in_r29 w h
  · exact wsL_in_r30 w h
  · exact wsL_in_r31 w h
  · exact wsL_in_r32 w h
  · exact wsL_in_r33 w h
  · exact wsL_in_r34 w h
  · exact wsL_in_r35 w h
  · exact wsL_in_r36 w h
  · exact wsL_in_r37 w h
  · exact wsL_in_r38 w h
  · exact inWX7 w h
  · exact inWX8 w h
  · exact inWX2 w h
  · exact inWX4 w h
  · exact inWX0 w h
  · exact inWX5 w h
  · exact inWX1 w h
  · exact inWX6 w h
  · exact inWX3 w h
theorem wsL_law_x0 : ∀ w ∈ (vx_atS RX7 256 "java/lang/IndexOutOfBoundsException" ["java/lang/RuntimeException", "java/lang/Exception"]).filter goodWord, w ∈ lw_tbl := by decide +kernel
theorem wsL_law_x1 : ∀ w ∈ atNX.filter goodWord, w ∈ lw_tbl := by decide +kernel
theorem wsL_law_in : ∀ w ∈ ws2L_law, w ∈ lw_tbl := fun w h => (List.mem_append.mp h).elim (fun h => (List.mem_append.mp h).elim (fun h => wsL_law_in0 w h) (fun h => wsL_law_x0 w h)) (fun h => wsL_law_x1 w h)
