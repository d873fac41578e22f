/-! a method's call on the front part of a world, the rest not looked at -/
theorem set_mid {α : Type} (x q : α) (t : List α) : ∀ p : List α, (p ++ x :: t).set p.length q = p ++ q :: t
  | [] => rfl
  | a :: p => congrArg (a :: ·) (set_mid x q t p)
theorem putAll_fr {wr : va_W} : ∀ (w1 pre wc : va_W), wc.length = w1.length → putAll (pre ++ (wc ++ wr)) (List.range' pre.length wc.length) w1 = pre ++ (w1 ++ wr) := by
  intro w1
  induction w1 with
  | nil =>
    intro pre wc h
    have : wc = [] := List.length_eq_zero_iff.mp h
    subst this
    rfl
  | cons q w1 ih =>
    intro pre wc h
    cases wc with
    | nil => simp at h
    | cons x wc =>
      have h' : wc.length = w1.length := by simpa using h
      have e : (pre ++ (x :: wc ++ wr)).set pre.length q = (pre ++ [q]) ++ (wc ++ wr) := by
        refine (set_mid x q (wc ++ wr) pre).trans ?_
        simp
      have := ih (pre ++ [q]) wc h'
      rw [List.length_append] at this
      show putAll ((pre ++ (x :: wc ++ wr)).set pre.length q) (List.range' (pre.length + 1) wc.length) w1 = _
      rw [e]
      have this' : putAll ((pre ++ [q]) ++ (wc ++ wr)) (List.range' (pre.length + 1) wc.length) w1 = (pre ++ [q]) ++ (w1 ++ wr) := this
      rw [this']
      simp
theorem putAll_front {wc wr w1 : va_W} (h : wc.length = w1.length) : putAll (wc ++ wr) (List.range wc.length) w1 = w1 ++ wr := by
  have := putAll_fr (wr := wr) w1 [] wc h
  rw [List.range_eq_range']
  exact this
theorem D_same {A : Nat → Prop} {wc wr w1 : va_W} (h : va_D A (wc ++ wr)) (e : w1.map Prod.fst = wc.map Prod.fst) : va_D A (w1 ++ wr) := by
  rw [D_iff] at h ⊢
  refine ⟨?_, fun q hq => ?_⟩
  · rw [List.map_append, e, ← List.map_append]; exact h.1
  · rcases List.mem_append.mp hq with hq | hq
    · have : q.1 ∈ wc.map Prod.fst := by rw [← e]; exact List.mem_map_of_mem hq
      obtain ⟨q', h1, h2⟩ := List.mem_map.mp this
      rw [← h2]
      exact h.2 q' (List.mem_append_left _ h1)
    · exact h.2 q (List.mem_append_right _ hq)
section
variable {p : Program} {l : Launch} {e : Env} {R : Room} {s : State} {m : MethodId} {args : Array Value} {below : List Frame} {meth : Method} {c : Code} {H : Heap} {locs : List Loc} {cells slots : Nat} {Q : State → Prop}
variable {pc : Nat} {ls : Array Slot} {rest st0 : List Value} {A : Nat → Prop} {H0 : Heap} {D : va_G} {Y : Nat → ClassId} {wc wr w1 : va_W} {a : Array Value}
theorem cl_w {r : Int32} (hr : va_Run p l e R s m args below meth c H locs cells slots 0 0 (F0 m pc ls st0) rest (qiW r D w1 (va_A wc H.size) a) (va_A wc H.size)) (hP : va_P D vwCl (wc ++ wr) H) (hD : va_D A (wc ++ wr)) (hS : va_S A H0 H locs) (hA : ∀ q, H0.size ≤ q → A q) (he : w1.map Prod.fst = wc.map Prod.fst)
    (kk : ∀ (H1 : Heap) (locs1 : List Loc), va_P D vwCl (w1 ++ wr) H1 → va_D A (w1 ++ wr) → va_S A H0 H1 locs1 → W p l e R s m args below meth c H1 locs1 cells slots Q (F0 m (pc + 3) ls (.int r :: rest))) : W p l e R s m args below meth c H locs cells slots Q (F0 m pc ls st0) := by
  have hl : wc.length = w1.length := by
    have := congrArg List.length he
    simpa using this.symm
  exact cl_i hr hP hD hS hA (List.range wc.length) fr_C hl (putAll_front hl) (fun H1 locs1 hP1 hS1 => kk H1 locs1 hP1 (D_same hD he) hS1)
theorem pcW_FV {As : List Value} {b ci : Nat} {q : vw_C} {fs : List Value} {wt : va_W} (hK : va_K D vwCl (tysW Y) s) (hP : va_P D vwCl (((b, .inr (ci, fs)) :: wt) ++ wr) H) (hD : va_D A (((b, .inr (ci, fs)) :: wt) ++ wr)) (hc : vwCl[ci]? = some q) : PreV s H q.1 b (pcW (.ref b :: As) H.size D Y ((b, .inr (ci, fs)) :: wt)) As := pcW_V hK hP hD (List.range ((b, .inr (ci, fs)) :: wt).length) (nd_of List.nodup_range) fr_C hc (q0 := 0) rfl
end
