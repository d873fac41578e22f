/-! the law's words, by pieces -/
def lwC : List (List Cond) := [wsL_law_r1, wsL_law_r2, wsL_law_r3, wsL_law_r4, wsL_law_r5, wsL_law_r6, wsL_law_r7, wsL_law_r8, wsL_law_r9, wsL_law_r10, wsL_law_r11, wsL_law_r12, wsL_law_r13, wsL_law_r14, wsL_law_r15, wsL_law_r16, wsL_law_r17, wsL_law_r18, wsL_law_r19, wsL_law_r20, wsL_law_r21, wsL_law_r22, wsL_law_r23, wsL_law_r24, wsL_law_r25, wsL_law_r26, wsL_law_r27, wsL_law_r28, wsL_law_r29, wsL_law_r30, wsL_law_r31, wsL_law_r32, wsL_law_r33, wsL_law_r34, wsL_law_r35, wsL_law_r36, wsL_law_r37, wsL_law_r38, wsL_law_r39, wsX40, wsX50, wsX30, wsX20, wsX10, wsX00]
theorem lwC_in : ∀ c ∈ lwC, ∀ w ∈ c, w ∈ wsL_law := by
  have e : wsL_law = lwC.flatten := by
    simp only [wsL_law, lwC, List.flatten_cons, List.flatten_nil, List.append_assoc, List.append_nil]
  intro c hc w hw
  rw [e]
  exact List.mem_flatten.mpr ⟨c, hc, hw⟩
theorem mem_c (ws : List Cond) (ps : List (Nat × Nat)) (hp : ws = ps.filterMap (fun i => lwC[i.1]?.bind (fun c => c[i.2]?))) : ∀ w ∈ ws, w ∈ wsL_law := by
  intro w hw
  rw [hp] at hw
  obtain ⟨i, -, hi⟩ := List.mem_filterMap.mp hw
  obtain ⟨c, h1, h2⟩ := Option.bind_eq_some_iff.mp hi
  exact lwC_in c (List.mem_of_getElem? h1) w (List.mem_of_getElem? h2)
set_option maxRecDepth 100000 in
set_option maxHeartbeats 4000000 in
theorem mL_X4_init_h : ∀ w ∈ ([.code yX4_init cX4_init 2 none] : List Cond), w ∈ wsL_law := mem_c _ [(0, 9)] rfl
set_option maxRecDepth 100000 in
set_option maxHeartbeats 4000000 in
theorem mL_X4_init_r1 : ∀ w ∈ wsX4_init_r1, w ∈ wsL_law := mem_c _ [(0, 10), (0, 11), (0, 12), (0, 13), (0, 14), (0, 15), (0, 16), (0, 17), (0, 18), (0, 19), (0, 20), (0, 21), (0, 22), (0, 23), (1, 0), (1, 1), (1, 2), (1, 3), (1, 4), (1, 5), (1, 6), (1, 7), (1, 8), (1, 9)] rfl
set_option maxRecDepth 100000 in
set_option maxHeartbeats 4000000 in
theorem mL_X4_init_r2 : ∀ w ∈ wsX4_init_r2, w ∈ wsL_law := mem_c _ [(1, 10), (1, 11), (1, 12), (1, 13), (1, 14), (1, 15), (1, 16), (1, 17), (1, 18), (1, 19), (1, 20), (1, 21), (1, 22), (1, 23), (2, 0), (2, 1), (2, 2), (2, 3), (2, 4), (2, 5), (2, 6), (2, 7), (2, 8), (2, 9)] rfl
set_option maxRecDepth 100000 in
set_option maxHeartbeats 4000000 in
theorem mL_X4_init_r3 : ∀ w ∈ wsX4_init_r3, w ∈ wsL_law := mem_c _ [(2, 10), (2, 11), (2, 12), (2, 13), (2, 14), (2, 15), (2, 16), (2, 17), (2, 18), (2, 19), (2, 20), (2, 21), (2, 22), (2, 23), (3, 0), (3, 1), (3, 2), (3, 3), (3, 4), (3, 5), (3, 6), (3, 7), (3, 8), (3, 9)] rfl
set_option maxRecDepth 100000 in
set_option maxHeartbeats 4000000 in
theorem mL_X4_init_r4 : ∀ w ∈ wsX4_init_r4, w ∈ wsL_law := mem_c _ [(3, 10), (3, 11), (3, 12), (3, 13), (3, 14), (3, 15), (3, 16), (3, 17), (3, 18), (3, 19), (3, 20), (3, 21), (3, 22), (3, 23), (4, 0), (4, 1), (4, 2), (4, 3), (4, 4), (4, 5), (4, 6), (4, 7), (4, 8), (4, 9)] rfl
set_option maxRecDepth 100000 in
set_option maxHeartbeats 4000000 in
theorem mL_X4_init_r5 : ∀ w ∈ wsX4_init_r5, w ∈ wsL_law := mem_c _ [(4, 10), (4, 11), (4, 12), (4, 13), (4, 14), (4, 15), (4, 16), (4, 17), (4, 18), (4, 19), (4, 20), (4, 21)] rfl
