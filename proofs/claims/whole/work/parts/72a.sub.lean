/-! a callee's world as a part of a greater one, group by group: no cell is looked at -/
def Rep (b a b' a' : va_W) : Prop := List.Sublist a b ∧ b'.map Prod.fst = b.map Prod.fst ∧ ∀ q ∈ b', q ∈ a' ∨ (q ∈ b ∧ ((b.map Prod.fst).Nodup → q.1 ∉ a.map Prod.fst))
theorem rp_all {g g' : va_W} (h : g'.map Prod.fst = g.map Prod.fst) : Rep g g g' g' := ⟨List.Sublist.refl _, h, fun q hq => Or.inl hq⟩
theorem rp_none {g : va_W} : Rep g [] g [] := ⟨List.nil_sublist _, rfl, fun q hq => Or.inr ⟨hq, fun _ h => by simp at h⟩⟩
theorem rp_keep {b a b' a' g g' : va_W} (h : Rep b a b' a') (hg : g'.map Prod.fst = g.map Prod.fst) : Rep (b ++ g) (a ++ g) (b' ++ g') (a' ++ g') := by
  obtain ⟨h1, h2, h3⟩ := h
  refine ⟨h1.append (List.Sublist.refl g), by rw [List.map_append, List.map_append, h2, hg], fun q hq => ?_⟩
  rcases List.mem_append.mp hq with hq | hq
  · rcases h3 q hq with h | ⟨h, hn⟩
    · exact Or.inl (List.mem_append_left _ h)
    · refine Or.inr ⟨List.mem_append_left _ h, fun nd => ?_⟩
      rw [List.map_append] at nd ⊢
      obtain ⟨n1, n2, n3⟩ := List.nodup_append.mp nd
      intro z
      rcases List.mem_append.mp z with z | z
      · exact hn n1 z
      · exact n3 q.1 (List.mem_map_of_mem h) q.1 z rfl
  · exact Or.inl (List.mem_append_right _ hq)
theorem rp_drop {b a b' a' g : va_W} (h : Rep b a b' a') : Rep (b ++ g) a (b' ++ g) a' := by
  obtain ⟨h1, h2, h3⟩ := h
  refine ⟨h1.trans (List.sublist_append_left b g), by rw [List.map_append, List.map_append, h2], fun q hq => ?_⟩
  rcases List.mem_append.mp hq with hq | hq
  · rcases h3 q hq with h | ⟨h, hn⟩
    · exact Or.inl h
    · refine Or.inr ⟨List.mem_append_left _ h, fun nd => ?_⟩
      rw [List.map_append] at nd
      exact hn (List.nodup_append.mp nd).1
  · refine Or.inr ⟨List.mem_append_right _ hq, fun nd z => ?_⟩
    rw [List.map_append] at nd
    obtain ⟨n1, n2, n3⟩ := List.nodup_append.mp nd
    exact n3 q.1 ((h1.map Prod.fst).subset z) q.1 (List.mem_map_of_mem hq) rfl
theorem P_sub {D : va_G} {cl : List vw_C} {a b : va_W} {H : Heap} (h : List.Sublist a b) (hP : va_P D cl b H) : va_P D cl a H := by
  intro k q hq
  obtain ⟨j, hj⟩ := List.getElem?_of_mem (h.subset (List.mem_of_getElem? hq))
  exact hP j q hj
theorem D_nd {A : Nat → Prop} : ∀ {ws : va_W}, va_D A ws → (ws.map Prod.fst).Nodup
  | [], _ => List.nodup_nil
  | x :: xs, hD => by
    rw [List.map_cons, List.nodup_cons]
    refine ⟨fun h => ?_, D_nd (A := A) ⟨fun i j p q hi hj e => ?_, fun k q hk => hD.2 (k + 1) q (by simpa using hk)⟩⟩
    · obtain ⟨y, hy, e⟩ := List.mem_map.mp h
      obtain ⟨j, hj⟩ := List.getElem?_of_mem hy
      have := hD.1 0 (j + 1) x y rfl (by simpa using hj) e.symm
      omega
    · have := hD.1 (i + 1) (j + 1) p q (by simpa using hi) (by simpa using hj) e
      omega
theorem nd_D {A : Nat → Prop} {ws : va_W} (hn : (ws.map Prod.fst).Nodup) (hA : ∀ q ∈ ws, A q.1) : va_D A ws := by
  refine ⟨fun i j p q hi hj e => ?_, fun k q hk => hA q (List.mem_of_getElem? hk)⟩
  have hl : i < (ws.map Prod.fst).length := by rw [List.length_map]; exact (List.getElem?_eq_some_iff.mp hi).1
  refine (List.getElem?_inj hl hn).mp ?_
  rw [List.getElem?_map, List.getElem?_map, hi, hj]
  exact congrArg some e
theorem D_sub {A : Nat → Prop} {a b : va_W} (h : List.Sublist a b) (hD : va_D A b) : va_D A a := nd_D ((h.map Prod.fst).nodup (D_nd hD)) (fun q hq => by
  obtain ⟨j, hj⟩ := List.getElem?_of_mem (h.subset hq)
  exact hD.2 j q hj)
/-- behind a call of a method whose world is part of ours -/
theorem Rep.back {A : Nat → Prop} {D : va_G} {cl : List vw_C} {b a b' a' : va_W} {H H1 : Heap} (h : Rep b a b' a') (hP : va_P D cl b H) (hD : va_D A b) (hk : ∀ q : Nat, q < H.size → ¬ va_A a H.size q → H1[q]? = H[q]?) (hP1 : va_P D cl a' H1) : va_P D cl b' H1 := by
  intro k q hq
  rcases h.2.2 q (List.mem_of_getElem? hq) with z | ⟨z, hn⟩
  · obtain ⟨j, hj⟩ := List.getElem?_of_mem z
    exact hP1 j q hj
  · obtain ⟨j, hj⟩ := List.getElem?_of_mem z
    refine (hP j q hj).kept (hk q.1 (hP j q hj).lt ?_)
    rintro (⟨k2, e, h2⟩ | h2)
    · exact hn (D_nd hD) (List.mem_map.mpr ⟨(q.1, e), List.mem_of_getElem? h2, rfl⟩)
    · have := (hP j q hj).lt
      omega
theorem Rep.free {A : Nat → Prop} {b a b' a' : va_W} {H0 H : Heap} {locs : List Loc} (h : Rep b a b' a') (hD : va_D A b) (hS : va_S A H0 H locs) (hA : ∀ q, H0.size ≤ q → A q) : ∀ q, va_A a H.size q → A q := own_A (D_sub h.1 hD) hS hA
