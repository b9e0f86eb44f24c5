theorem wsL_law_in : ∀ w ∈ wsL_law, w ∈ lw_tbl := by
  intro w h
  unfold wsL_law at h
  simp only [List.mem_append, List.not_mem_nil, or_false] at h
  rcases h with ((((((((((((h | h | h | h | h | h | h | h | h | h | h | h | h | h | h | h | h | h | h | h | h | h | h | h | h | h | h | h | h | h | h | h | h | h | h | h | h | h | h | h | h) | h) | h) | h) | h) | h) | h) | h) | h) | h) | h) | h) | h
  · exact li_wsL_law_r1 w h
  · exact li_wsL_law_r2 w h
  · exact li_wsL_law_r3 w h
  · exact li_wsL_law_r4 w h
  · exact li_wsL_law_r5 w h
  · exact li_wsL_law_r6 w h
  · exact li_wsL_law_r7 w h
  · exact li_wsL_law_r8 w h
  · exact li_wsL_law_r9 w h
  · exact li_wsL_law_r10 w h
  · exact li_wsL_law_r11 w h
  · exact li_wsL_law_r12 w h
  · exact li_wsL_law_r13 w h
  · exact li_wsL_law_r14 w h
  · exact li_wsL_law_r15 w h
  · exact li_wsL_law_r16 w h
  · exact li_wsL_law_r17 w h
  · exact li_wsL_law_r18 w h
  · exact li_wsL_law_r19 w h
  · exact li_wsL_law_r20 w h
  · exact li_wsL_law_r21 w h
  · exact li_wsL_law_r22 w h
  · exact li_wsL_law_r23 w h
  · exact li_wsL_law_r24 w h
  · exact li_wsL_law_r25 w h
  · exact li_wsL_law_r26 w h
  · exact li_wsL_law_r27 w h
  · exact li_wsL_law_r28 w h
  · exact li_wsL_law_r29 w h
  · exact li_wsL_law_r30 w h
  · exact li_wsL_law_r31 w h
  · exact li_wsL_law_r32 w h
  · exact li_wsL_law_r33 w h
  · exact li_wsL_law_r34 w h
  · exact li_wsL_law_r35 w h
  · exact li_wsL_law_r36 w h
  · exact li_wsL_law_r37 w h
  · exact li_wsL_law_r38 w h
  · exact li_wsL_law_r39 w h
  · exact li_wsL_law_r40 w h
  · exact li_wsL_law_r41 w h
  · exact li_wsX100 w h
  · exact li_wsX110 w h
  · exact li_wsX90 w h
  · exact li_wsX60 w h
  · exact li_wsX20 w h
  · exact li_wsX10 w h
  · exact li_wsX70 w h
  · exact li_wsX40 w h
  · exact li_wsX30 w h
  · exact li_wsX80 w h
  · exact li_wsX50 w h
  · exact li_wsX00 w h
