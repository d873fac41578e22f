/-! a world behind a call, cell by cell: what the callee's world has now, or what was there before -/
def Upd (ws : va_W) (is : List Nat) (w1 : va_W) : Nat → va_W → Prop
  | _, [] => True
  | k, q :: qs => ((ws[k]? = some q ∧ k ∉ is) ∨ q ∈ w1) ∧ Upd ws is w1 (k + 1) qs
theorem up_nil {ws : va_W} {is : List Nat} {w1 : va_W} {k : Nat} : Upd ws is w1 k [] := trivial
theorem up_old {ws : va_W} {is : List Nat} {w1 : va_W} {k : Nat} {q : Nat × va_E} {qs : va_W} (h : ws[k]? = some q) (n : is.contains k = false) (t : Upd ws is w1 (k + 1) qs) : Upd ws is w1 k (q :: qs) := ⟨Or.inl ⟨h, fun z => by rw [List.contains_iff_mem.mpr z] at n; cases n⟩, t⟩
theorem up_new (j : Nat) {ws : va_W} {is : List Nat} {w1 : va_W} {k : Nat} {q : Nat × va_E} {qs : va_W} (h : w1[j]? = some q) (t : Upd ws is w1 (k + 1) qs) : Upd ws is w1 k (q :: qs) := ⟨Or.inr (List.mem_of_getElem? h), t⟩
theorem Upd.at {ws : va_W} {is : List Nat} {w1 : va_W} : ∀ {w2 : va_W} {b : Nat}, Upd ws is w1 b w2 → ∀ (k : Nat) (q : Nat × va_E), w2[k]? = some q → (ws[b + k]? = some q ∧ b + k ∉ is) ∨ q ∈ w1
  | [], _, _, k, q, h => by simp at h
  | x :: xs, b, hU, 0, q, h => by
    cases h
    exact hU.1
  | x :: xs, b, hU, k + 1, q, h => by
    have := Upd.at hU.2 k q (by simpa using h)
    rw [show b + (k + 1) = b + 1 + k by omega]
    exact this
theorem back_U {A : Nat → Prop} {D : va_G} {cl : List vw_C} {ws wc w1 w2 : va_W} {H H1 : Heap} (hP : va_P D cl ws H) (hD : va_D A ws) (is : List Nat) (hC : is.map (fun i => ws[i]?) = wc.map some) (hU : Upd ws is w1 0 w2) (hk : ∀ q : Nat, q < H.size → ¬ va_A wc H.size q → H1[q]? = H[q]?) (hP1 : va_P D cl w1 H1) : va_P D cl w2 H1 := by
  intro k q hq
  rcases hU.at k q hq with ⟨h, hn⟩ | h
  · rw [Nat.zero_add] at h hn
    refine (hP k q h).kept (hk q.1 (hP k q h).lt ?_)
    rintro (⟨k2, e, h2⟩ | h2)
    · have h1 : (is.map (fun i => ws[i]?))[k2]? = some (some (q.1, e)) := by rw [hC, List.getElem?_map, h2]; rfl
      rw [List.getElem?_map] at h1
      cases hi : is[k2]? with
      | none => rw [hi] at h1; cases h1
      | some j =>
        rw [hi] at h1
        have hj : ws[j]? = some (q.1, e) := Option.some.inj h1
        have := hD.1 k j q (q.1, e) h hj rfl
        subst this
        exact hn (List.mem_of_getElem? hi)
    · have := (hP k q h).lt
      omega
  · obtain ⟨j, hj⟩ := List.getElem?_of_mem h
    exact hP1 j q hj
section NBU
variable {p : Program} {l : Launch} {e : Env} {R : Room} {s : State} {m : MethodId} {args : Array Value} {below : List Frame} {meth : Method} {c : Code} {H : Heap} {locs : List Loc} {cells slots : Nat} {Q : State → Prop}
variable {pc : Nat} {ls : Array Slot} {rest st0 : List Value} {A : Nat → Prop} {H0 : Heap} {D : va_G} {Y : Nat → ClassId} {ws wc w1 w2 : va_W} {a : Array Value}
theorem cm_i {r : Int32} (hr : va_Run p l e R s m args below meth c H locs cells slots 0 0 (F0 m pc ls st0) rest (qiW r D w1 (va_A wc H.size) a) (va_A wc H.size)) (hP : va_P D vwCl ws H) (hD : va_D A ws) (hS : va_S A H0 H locs) (hA : ∀ q, H0.size ≤ q → A q) (is : List Nat) (hC : is.map (fun i => ws[i]?) = wc.map some) (hU : Upd ws is w1 0 w2)
    (kk : ∀ (H1 : Heap) (locs1 : List Loc), va_P D vwCl w2 H1 → va_S A H0 H1 locs1 → W p l e R s m args below meth c H1 locs1 cells slots Q (F0 m (pc + 3) ls (.int r :: rest))) : W p l e R s m args below meth c H locs cells slots Q (F0 m pc ls st0) := by
  have hF := va_free hD hS hA is hC
  refine va_calli hr hS (fun q _ h => hF q h) hF (fun r' u t H1 locs1 ht _ hw hB _ hk hS1 => ?_)
  subst hw
  rw [ht] at hB
  exact kk H1 locs1 (back_U hP hD is hC hU hk hB) hS1
theorem cm_l {r : Int64} (hr : va_Run p l e R s m args below meth c H locs cells slots 0 0 (F0 m pc ls st0) rest (qlW r D w1 (va_A wc H.size) a) (va_A wc H.size)) (hP : va_P D vwCl ws H) (hD : va_D A ws) (hS : va_S A H0 H locs) (hA : ∀ q, H0.size ≤ q → A q) (is : List Nat) (hC : is.map (fun i => ws[i]?) = wc.map some) (hU : Upd ws is w1 0 w2)
    (kk : ∀ (H1 : Heap) (locs1 : List Loc), va_P D vwCl w2 H1 → va_S A H0 H1 locs1 → W p l e R s m args below meth c H1 locs1 cells slots Q (F0 m (pc + 3) ls (.long r :: rest))) : W p l e R s m args below meth c H locs cells slots Q (F0 m pc ls st0) := by
  have hF := va_free hD hS hA is hC
  refine va_calll hr hS (fun q _ h => hF q h) hF (fun r' u t H1 locs1 ht _ hw hB _ hk hS1 => ?_)
  subst hw
  rw [ht] at hB
  exact kk H1 locs1 (back_U hP hD is hC hU hk hB) hS1
theorem cm_v (hr : va_Run p l e R s m args below meth c H locs cells slots 0 0 (F0 m pc ls st0) rest (qvW D w1 (va_A wc H.size) a) (va_A wc H.size)) (hP : va_P D vwCl ws H) (hD : va_D A ws) (hS : va_S A H0 H locs) (hA : ∀ q, H0.size ≤ q → A q) (is : List Nat) (hC : is.map (fun i => ws[i]?) = wc.map some) (hU : Upd ws is w1 0 w2)
    (kk : ∀ (H1 : Heap) (locs1 : List Loc), va_P D vwCl w2 H1 → va_S A H0 H1 locs1 → W p l e R s m args below meth c H1 locs1 cells slots Q (F0 m (pc + 3) ls rest)) : W p l e R s m args below meth c H locs cells slots Q (F0 m pc ls st0) := by
  have hF := va_free hD hS hA is hC
  refine va_callv hr hS (fun q _ h => hF q h) hF (fun u t H1 locs1 ht _ _ hB _ hk hS1 => ?_)
  rw [ht] at hB
  exact kk H1 locs1 (back_U hP hD is hC hU hk hB) hS1
end NBU
