/-! a callee's world as a part of a greater one, group by group: no cell is looked at -/
def Rep (b a b' a' : va_W) : Prop := List.Sublist a b ∧ b'.map Prod.fst = b.map Prod.fst ∧ ∀ q ∈ b', q ∈ a' ∨ (q ∈ b ∧ ((b.map Prod.fst).Nodup → q.1 ∉ a.map Prod.fst))
theorem rp_all {g g' : va_W} (h : g'.map Prod.fst = g.map Prod.fst) : Rep g g g' g' := ⟨List.Sublist.refl _, h, fun q hq => Or.inl hq⟩
theorem rp_none {g : va_W} : Rep g [] g [] := ⟨List.nil_sublist _, rfl, fun q hq => Or.inr ⟨hq, fun _ h => by simp at h⟩⟩
theorem rp_keep {b a b' a' g g' : va_W} (h : Rep b a b' a') (hg : g'.map Prod.fst = g.map Prod.fst) : Rep (b ++ g) (a ++ g) (b' ++ g') (a' ++ g') := by
  obtain ⟨h1, h2, h3⟩ := h
  refine ⟨h1.append (List.Sublist.refl g), by rw [List.map_append, List.map_append, h2, hg], fun q hq => ?_⟩
  rcases List.mem_append.mp hq with hq | hq
  · rcases h3 q hq with h | ⟨h, hn⟩
    · exact Or.inl (List.mem_append_left _ h)
    · refine Or.inr ⟨List.mem_append_left _ h, fun nd => ?_⟩
      rw [List.map_append] at nd ⊢
      obtain ⟨n1, n2, n3⟩ := List.nodup_append.mp nd
      intro z
      rcases List.mem_append.mp z with z | z
      · exact hn n1 z
      · exact n3 q.1 (List.mem_map_of_mem h) q.1 z rfl
  · exact Or.inl (List.mem_append_right _ hq)
theorem rp_drop {b a b' a' g : va_W} (h : Rep b a b' a') : Rep (b ++ g) a (b' ++ g) a' := by
  obtain ⟨h1, h2, h3⟩ := h
  refine ⟨h1.trans (List.sublist_append_left b g), by rw [List.map_append, List.map_append, h2], fun q hq => ?_⟩
  rcases List.mem_append.mp hq with hq | hq
  · rcases h3 q hq with h | ⟨h, hn⟩
    · exact Or.inl h
    · refine Or.inr ⟨List.mem_append_left _ h, fun nd => ?_⟩
      rw [List.map_append] at nd
      exact hn (List.nodup_append.mp nd).1
  · refine Or.inr ⟨List.mem_append_right _ hq, fun nd z => ?_⟩
    rw [List.map_append] at nd
    obtain ⟨n1, n2, n3⟩ := List.nodup_append.mp nd
    exact n3 q.1 ((h1.map Prod.fst).subset z) q.1 (List.mem_map_of_mem hq) rfl
