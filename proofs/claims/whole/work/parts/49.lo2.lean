theorem gL_lawT_L_out : GoodIn wsL_lawT (va_wsS RL 126 yL_out wsL_outT) := by
  intro w hw
  have h0 := gL_law_L_out
  unfold va_wsS at hw h0
  rcases List.mem_append.mp hw with h | h
  · exact goodIn_apl h0 w (List.mem_append_left _ h)
  · rcases List.mem_cons.mp h with h | h
    · exact goodIn_apl h0 w (List.mem_append_right _ (by rw [h]; exact List.mem_cons_self))
    · rcases List.mem_append.mp h with h | h
      · exact goodIn_apl h0 w (List.mem_append_right _ (List.mem_cons_of_mem _ h))
      · exact ⟨List.mem_append_right _ h, good_of_word (List.mem_filter.mp h).2⟩
theorem gLT_law_L_open : GoodIn wsL_law (va_wsS RL 109 yL_open wsL_openT) := by
  intro w hw
  have h0 := gL_law_L_open
  unfold va_wsS at hw h0
  rcases List.mem_append.mp hw with h | h
  · exact h0 w (List.mem_append_left _ h)
  · rcases List.mem_cons.mp h with h | h
    · exact h0 w (List.mem_append_right _ (by rw [h]; exact List.mem_cons_self))
    · rcases List.mem_append.mp h with h | h
      · exact h0 w (List.mem_append_right _ (List.mem_cons_of_mem _ h))
      · have hB : ∀ w ∈ ([.classLink RL 41 "java/lang/IllegalArgumentException", .classLink RL 26 "java/lang/IllegalStateException", .classLink RL 13 "java/lang/UnsupportedOperationException"] : List Cond), w ∈ wsL_law ∧ goodWord w = true := by decide +kernel
        exact ⟨(hB w h).1, good_of_word (hB w h).2⟩
theorem gLT_law_L_apply : GoodIn wsL_law (va_wsS RL 118 yL_apply wsL_applyT) := by
  intro w hw
  have h0 := gL_law_L_apply
  unfold va_wsS at hw h0
  rcases List.mem_append.mp hw with h | h
  · exact h0 w (List.mem_append_left _ h)
  · rcases List.mem_cons.mp h with h | h
    · exact h0 w (List.mem_append_right _ (by rw [h]; exact List.mem_cons_self))
    · rcases List.mem_append.mp h with h | h
      · exact h0 w (List.mem_append_right _ (List.mem_cons_of_mem _ h))
      · have hB : ∀ w ∈ ([.classLink RL 26 "java/lang/IllegalStateException", .classLink RL 13 "java/lang/UnsupportedOperationException"] : List Cond), w ∈ wsL_law ∧ goodWord w = true := by decide +kernel
        exact ⟨(hB w h).1, good_of_word (hB w h).2⟩
