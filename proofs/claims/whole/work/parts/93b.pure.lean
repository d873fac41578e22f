/-! the law's words, by pieces -/
def lwC : List (List Cond) := [wsL_law_r1, wsL_law_r2, wsL_law_r3, wsL_law_r4, wsL_law_r5, wsL_law_r6, wsL_law_r7, wsL_law_r8, wsL_law_r9, wsL_law_r10, wsL_law_r11, wsL_law_r12, wsL_law_r13, wsL_law_r14, wsL_law_r15, wsL_law_r16, wsL_law_r17, wsL_law_r18, wsL_law_r19, wsL_law_r20, wsL_law_r21, wsL_law_r22, wsL_law_r23, wsL_law_r24, wsL_law_r25, wsL_law_r26, wsL_law_r27, wsL_law_r28, wsL_law_r29, wsL_law_r30, wsL_law_r31, wsL_law_r32, wsL_law_r33, wsL_law_r34, wsL_law_r35, wsL_law_r36, wsL_law_r37, wsL_law_r38, wsX40, wsX50, wsX30, wsX20, wsX10, wsX00]
theorem lwC_in : ∀ c ∈ lwC, ∀ w ∈ c, w ∈ wsL_law := by
  have e : wsL_law = lwC.flatten := by
    simp only [wsL_law, lwC, List.flatten_cons, List.flatten_nil, List.append_assoc, List.append_nil]
  intro c hc w hw
  rw [e]
  exact List.mem_flatten.mpr ⟨c, hc, hw⟩
theorem mem_c (ws : List Cond) (ps : List (Nat × Nat)) (hp : ws = ps.filterMap (fun i => lwC[i.1]?.bind (fun c => c[i.2]?))) : ∀ w ∈ ws, w ∈ wsL_law := by
  intro w hw
  rw [hp] at hw
  obtain ⟨i, -, hi⟩ := List.mem_filterMap.mp hw
  obtain ⟨c, h1, h2⟩ := Option.bind_eq_some_iff.mp hi
  exact lwC_in c (List.mem_of_getElem? h1) w (List.mem_of_getElem? h2)
