/-! ===== the pure side: what a method's walk computes, as a function into Option: none where the machine would throw, or where a loop's count runs out ===== -/
abbrev GS : Type := Nat → Nat → Int32
/-- a number field j of the group's object (its row 0) is put -/
def up2 (g : GS) (k j : Nat) (v : Int32) : GS := fun a => bif Nat.beq a k then (fun b => bif Nat.beq b j then v else g a b) else g a
/-- an array (row k of the group) is put as a whole -/
def upA (g : GS) (k : Nat) (f : Nat → Int32) : GS := fun a => bif Nat.beq a k then f else g a
def nm {α β : Type} (e : α) (k : α → Option β) : Option β := k e
def chkI {β : Type} (i : Int32) (n : Nat) (k : Option β) : Option β := if i < 0 ∨ n ≤ i.toNatClampNeg then none else k
def chkZ {β : Type} (y : Int32) (k : Option β) : Option β := if y = 0 then none else k
def chkB {β : Type} (x : Int32) (k : Option β) : Option β := if x = 0 ∨ x = 1 then k else none
def chkC {β : Type} (sp dp n : Int32) (n0 n1 : Nat) (k : Option β) : Option β := if sp < 0 ∨ dp < 0 ∨ n < 0 ∨ n0 < sp.toNatClampNeg + n.toNatClampNeg ∨ n1 < dp.toNatClampNeg + n.toNatClampNeg then none else k
def bnd {α β : Type} (o : Option α) (k : α → Option β) : Option β := match o with
  | none => none
  | some a => k a
def jn {α β : Type} (k : α → Option β) (b : (α → Option β) → Option β) : Option β := b k
def lp {σ β : Type} (f : (σ → Option β) → σ → Option β) : Nat → σ → Option β
  | 0 => fun _ => none
  | n + 1 => fun s => f (lp f n) s
theorem FU_ex : ∃ n : Nat, 1000000000000 ≤ n := ⟨1000000000000, Nat.le_refl _⟩
/-- a loop's count: at least so great; no more is known of it, so that nothing ever counts it down -/
noncomputable def FU : Nat := Classical.choose FU_ex
theorem FU_ge : 1000000000000 ≤ FU := Classical.choose_spec FU_ex
theorem nm_at {α β : Type} {e x : α} {k : α → Option β} {r : β} (h : nm e k = some r) (hx : x = e) : k x = some r := hx ▸ h
theorem chkI_at {β : Type} {i : Int32} {n : Nat} {k : Option β} {r : β} (h : chkI i n k = some r) : vp_in i n ∧ k = some r := by
  unfold chkI at h
  split at h
  · cases h
  · exact ⟨by assumption, h⟩
theorem chkZ_at {β : Type} {y : Int32} {k : Option β} {r : β} (h : chkZ y k = some r) : (¬ y = 0) ∧ k = some r := by
  unfold chkZ at h
  split at h
  · cases h
  · exact ⟨by assumption, h⟩
theorem chkB_at {β : Type} {x : Int32} {k : Option β} {r : β} (h : chkB x k = some r) : narrow .boolean (.int x) = .int x ∧ k = some r := by
  unfold chkB at h
  split at h
  · rename_i q
    rcases q with rfl | rfl <;> exact ⟨rfl, h⟩
  · cases h
theorem chkC_at {β : Type} {sp dp n : Int32} {n0 n1 : Nat} {k : Option β} {r : β} (h : chkC sp dp n n0 n1 k = some r) : (¬ sp < 0) ∧ (¬ dp < 0) ∧ (¬ n < 0) ∧ sp.toNatClampNeg + n.toNatClampNeg ≤ n0 ∧ dp.toNatClampNeg + n.toNatClampNeg ≤ n1 ∧ k = some r := by
  unfold chkC at h
  split at h
  · cases h
  · rename_i q
    refine ⟨fun z => q (Or.inl z), fun z => q (Or.inr (Or.inl z)), fun z => q (Or.inr (Or.inr (Or.inl z))), ?_, ?_, h⟩
    · exact Nat.le_of_not_lt fun z => q (Or.inr (Or.inr (Or.inr (Or.inl z))))
    · exact Nat.le_of_not_lt fun z => q (Or.inr (Or.inr (Or.inr (Or.inr z))))
theorem bnd_at {α β : Type} {o : Option α} {k : α → Option β} {r : β} (h : bnd o k = some r) : ∃ a, o = some a ∧ k a = some r := by
  cases o with
  | none => cases h
  | some a => exact ⟨a, rfl, h⟩
theorem if_at_pos {c : Prop} {β : Type} {x : Decidable c} {a b : Option β} {r : β} (h : @ite _ c x a b = some r) (hc : c) : a = some r := by
  rw [if_pos hc] at h
  exact h
theorem if_at_neg {c : Prop} {β : Type} {x : Decidable c} {a b : Option β} {r : β} (h : @ite _ c x a b = some r) (hc : ¬ c) : b = some r := by
  rw [if_neg hc] at h
  exact h
theorem jn_at {α β : Type} {k : α → Option β} {b : (α → Option β) → Option β} {r : β} {G : Prop} (P : α → Prop) (h : jn k b = some r) (hJ : ∀ x, k x = some r → P x) (hB : ∀ k', (∀ x, k' x = some r → P x) → b k' = some r → G) : G := hB k hJ h
theorem lp_at {σ β : Type} {f : (σ → Option β) → σ → Option β} {r : β} (P : σ → Prop) (hs : ∀ rec s, (∀ s', rec s' = some r → P s') → f rec s = some r → P s) : ∀ n s, lp f n s = some r → P s := by
  intro n
  induction n with
  | zero => intro s h; cases h
  | succ n ih => intro s h; exact hs (lp f n) s ih h
/-! ===== worlds ===== -/
abbrev tysW (Y : Nat → ClassId) : List (ClassId × FieldType) := [(Y 0, .int), (Y 1, .long), (Y 2, .boolean), (Y 3, .object RX1), (Y 4, .array .int)]
abbrev cTold (Y : Nat → ClassId) (h : Nat → Nat) (t : GS) : va_W := [(h 0, .inr (3, [.int (t 0 0), .int (t 0 1), .int (t 0 2), .int (t 0 3), .int (t 0 4), .int (t 0 5), .int (t 0 6), .ref (h 1), .ref (h 2), .ref (h 3), .ref (h 4), .ref (h 5), .ref (h 6), .ref (h 7)])), (h 1, .inl (Y 0, 12, .inl (t 1))), (h 2, .inl (Y 0, 8, .inl (t 2))), (h 3, .inl (Y 0, 8, .inl (t 3))), (h 4, .inl (Y 0, 6, .inl (t 4))), (h 5, .inl (Y 0, 6, .inl (t 5))), (h 6, .inl (Y 0, 6, .inl (t 6))), (h 7, .inl (Y 0, 6, .inl (t 7)))]
abbrev cStand (Y : Nat → ClassId) (a : Nat → Nat) (pt pw : Nat) (g : GS) : va_W := [(a 0, .inr (1, [.ref pt, .ref (a 1), .ref (a 2), .ref pw, .int (g 0 4), .int (g 0 5), .int (g 0 6), .int (g 0 7), .int (g 0 8)])), (a 1, .inl (Y 0, 8, .inl (g 1))), (a 2, .inl (Y 0, 8, .inl (g 2)))]
abbrev cRow (Y : Nat → ClassId) (q n : Nat) (f : Nat → Int32) : va_W := [(q, .inl (Y 0, n, .inl f))]
abbrev cLong (Y : Nat → ClassId) (q n : Nat) (f : Nat → Int64) : va_W := [(q, .inl (Y 1, n, .inr (.inl f)))]
abbrev cText (Y : Nat → ClassId) (b : Nat → Nat) (x : GS) : va_W := [(b 0, .inr (2, [.ref (b 1), .int (x 0 1), .int (x 0 2), .int (x 0 3), .int (x 0 4)])), (b 1, .inl (Y 0, 200, .inl (x 1)))]
abbrev cMod (Y : Nat → ClassId) (o : Nat → Nat) (m : GS) (tk : Int64) : va_W := [(o 0, .inr (5, [.int (m 0 0), .ref (o 1), .int (m 0 2), .ref (o 2), .ref (o 3), .int (m 0 5), .ref (o 4), .int (m 0 7), .ref (o 5), .int (m 0 9), .int (m 0 10), .int (m 0 11), .ref (o 6), .int (m 0 13), .int (m 0 14), .long tk, .int (m 0 16), .int (m 0 17), .int (m 0 18), .int (m 0 19), .int (m 0 20), .int (m 0 21), .int (m 0 22), .int (m 0 23), .int (m 0 24), .ref (o 7), .ref (o 8), .ref (o 9), .ref (o 10), .ref (o 11), .int (m 0 30), .ref (o 12), .int (m 0 32), .ref (o 13), .int (m 0 34), .ref (o 14), .ref (o 15), .ref (o 16), .ref (o 17), .ref (o 18)])), (o 1, .inl (Y 0, 12, .inl (m 1))), (o 2, .inl (Y 0, 8, .inl (m 2))), (o 3, .inl (Y 0, 8, .inl (m 3))), (o 4, .inl (Y 0, 12, .inl (m 4))), (o 5, .inl (Y 0, 12, .inl (m 5))), (o 6, .inl (Y 0, 200, .inl (m 6))), (o 7, .inl (Y 0, 36, .inl (m 7))), (o 8, .inl (Y 0, 19, .inl (m 8))), (o 9, .inl (Y 0, 19, .inl (m 9))), (o 10, .inl (Y 0, 38, .inl (m 10))), (o 11, .inl (Y 2, 2, .inl (m 11))), (o 12, .inl (Y 0, 24, .inl (m 12))), (o 13, .inl (Y 0, 8, .inl (m 13))), (o 14, .inl (Y 0, 9018, .inl (m 14))), (o 15, .inl (Y 0, 48, .inl (m 15))), (o 16, .inl (Y 0, 6, .inl (m 16))), (o 17, .inl (Y 0, 6, .inl (m 17))), (o 18, .inl (Y 0, 6, .inl (m 18)))]
/-- the cells at the places 'is' of a world are put anew -/
def putAll : va_W → List Nat → va_W → va_W
  | W, i :: is, q :: qs => putAll (W.set i q) is qs
  | W, _, _ => W
theorem putAll_all {T : Nat × va_E → Prop} : ∀ (is : List Nat) (w1 W : va_W), is.length = w1.length → (∀ (k : Nat) (q : Nat × va_E), W[k]? = some q → k ∉ is → T q) → (∀ q ∈ w1, T q) → ∀ (k : Nat) (q : Nat × va_E), (putAll W is w1)[k]? = some q → T q := by
  intro is
  induction is with
  | nil =>
    intro w1 W hl h1 h2 k q hq
    cases w1 with
    | nil => exact h1 k q hq List.not_mem_nil
    | cons x xs => simp at hl
  | cons i is ih =>
    intro w1 W hl h1 h2 k q hq
    cases w1 with
    | nil => simp at hl
    | cons x xs =>
      refine ih xs (W.set i x) (by simpa using hl) ?_ (fun q hq => h2 q (List.mem_cons_of_mem _ hq)) k q hq
      intro k' q' hk' hn
      by_cases e : k' = i
      · subst e
        have hlt : k' < (W.set k' x).length := (List.getElem?_eq_some_iff.mp hk').1
        rw [List.getElem?_set_self (by simpa using hlt)] at hk'
        cases hk'
        exact h2 _ List.mem_cons_self
      · rw [List.getElem?_set_ne (Ne.symm e)] at hk'
        exact h1 k' q' hk' (fun z => (List.mem_cons.mp z).elim e hn)
theorem va_D.same {A : Nat → Prop} {w0 w1 : va_W} (h : va_D A w0) (he : w0.map Prod.fst = w1.map Prod.fst) : va_D A w1 := by
  have key : ∀ (k : Nat) (q : Nat × va_E), w1[k]? = some q → ∃ q0, w0[k]? = some q0 ∧ q0.1 = q.1 := by
    intro k q hk
    have h1 : (w1.map Prod.fst)[k]? = some q.1 := by rw [List.getElem?_map, hk]; rfl
    rw [← he, List.getElem?_map] at h1
    cases h0 : w0[k]? with
    | none => rw [h0] at h1; cases h1
    | some q0 => rw [h0] at h1; exact ⟨q0, rfl, Option.some.inj h1⟩
  refine ⟨fun i j x y hi hj hxy => ?_, fun k q hk => ?_⟩
  · obtain ⟨x0, h1, h2⟩ := key i x hi
    obtain ⟨y0, h3, h4⟩ := key j y hj
    exact h.1 i j x0 y0 h1 h3 (h2.trans (hxy.trans h4.symm))
  · obtain ⟨q0, h1, h2⟩ := key k q hk
    rw [← h2]
    exact h.2 k q0 h1
theorem back_P {A : Nat → Prop} {D : va_G} {cl : List vw_C} {ws wc w1 : va_W} {H H1 : Heap} (hP : va_P D cl ws H) (hD : va_D A ws) (is : List Nat) (hC : is.map (fun i => ws[i]?) = wc.map some) (hl : wc.length = w1.length) (hk : ∀ q : Nat, q < H.size → ¬ va_A wc H.size q → H1[q]? = H[q]?) (hP1 : va_P D cl w1 H1) : va_P D cl (putAll ws is w1) H1 := by
  have hlen : is.length = w1.length := by
    have := congrArg List.length hC
    simpa [hl] using this
  refine putAll_all is w1 ws hlen ?_ ?_
  · intro k q hq hn
    refine (hP k q hq).kept (hk q.1 (hP k q hq).lt ?_)
    rintro (⟨k2, e, h2⟩ | h2)
    · have h1 : (is.map (fun i => ws[i]?))[k2]? = some (some (q.1, e)) := by rw [hC, List.getElem?_map, h2]; rfl
      rw [List.getElem?_map] at h1
      cases hi : is[k2]? with
      | none => rw [hi] at h1; cases h1
      | some j =>
        rw [hi] at h1
        have hj : ws[j]? = some (q.1, e) := Option.some.inj h1
        have := hD.1 k j q (q.1, e) hq hj rfl
        subst this
        exact hn (List.mem_of_getElem? hi)
    · have := (hP k q hq).lt
      omega
  · intro q hq
    obtain ⟨k, hk⟩ := List.getElem?_of_mem hq
    exact hP1 k q hk
/-! ===== contracts over one world ===== -/
def pcW (av : List Value) (sz : Nat) (D : va_G) (Y : Nat → ClassId) (ws : va_W) : Array Value → State → Prop := va_Pc av (fun U => U.heap.size = sz ∧ va_P D vwCl ws U.heap ∧ va_K D vwCl (tysW Y) U ∧ va_D (fun _ => True) ws)
def qiW (r : Int32) (D : va_G) (w1 : va_W) (A : Nat → Prop) : Array Value → State → Outcome → State → Prop := va_Qi (fun (r' : Int32) (_ : Unit) => r' = r) (fun _ u => va_P D vwCl w1 u.heap) A
def qlW (r : Int64) (D : va_G) (w1 : va_W) (A : Nat → Prop) : Array Value → State → Outcome → State → Prop := va_Ql (fun (r' : Int64) (_ : Unit) => r' = r) (fun _ u => va_P D vwCl w1 u.heap) A
def qvW (D : va_G) (w1 : va_W) (A : Nat → Prop) : Array Value → State → Outcome → State → Prop := va_Qv (fun (_ : Unit) => True) (fun _ u => va_P D vwCl w1 u.heap) A
section NB
variable {p : Program} {l : Launch} {e : Env} {R : Room} {s : State} {m : MethodId} {args : Array Value} {below : List Frame} {meth : Method} {c : Code} {H : Heap} {locs : List Loc} {cells slots : Nat} {Q : State → Prop}
variable {pc : Nat} {ls : Array Slot} {rest st0 : List Value} {A : Nat → Prop} {H0 : Heap} {D : va_G} {Y : Nat → ClassId} {ws wc w1 w2 : va_W} {a : Array Value}
theorem pcW_blind {av : List Value} {sz : Nat} : FrameBlind (pcW av sz D Y ws) := fun a U g mk q => ⟨q.1, q.2.1, q.2.2.1, va_K.moved (u := U) (U := U.calling g mk a) (Vm.Alike.refl U.vm) q.2.2.2.1, q.2.2.2.2⟩
theorem pcW_S {As : List Value} (hK : va_K D vwCl (tysW Y) s) (hP : va_P D vwCl ws H) (hD : va_D A ws) (is : List Nat) (hn : va_nd is = true) (hC : is.map (fun i => ws[i]?) = wc.map some) : PreS s H (pcW As H.size D Y wc) As := by
  have hf : is.filterMap (fun i => ws[i]?) = wc := by
    have : (is.map (fun i => ws[i]?)).filterMap id = (wc.map some).filterMap id := by rw [hC]
    simpa [List.filterMap_map, Function.comp_def] using this
  exact ⟨pcW_blind, fun U hU hW => ⟨rfl, by rw [hU], by rw [hU]; exact hP.sub is hf, va_K.moved hW.alike hK, (hD.sub is hn hC).weaken (fun _ _ _ _ => trivial)⟩⟩
theorem pcW_V {As : List Value} {b q0 ci : Nat} {q : vw_C} {fs : List Value} (hK : va_K D vwCl (tysW Y) s) (hP : va_P D vwCl ws H) (hD : va_D A ws) (is : List Nat) (hn : va_nd is = true) (hC : is.map (fun i => ws[i]?) = wc.map some) (hc : vwCl[ci]? = some q) (he : ws[q0]? = some (b, .inr (ci, fs))) : PreV s H q.1 b (pcW (.ref b :: As) H.size D Y wc) As :=
  ⟨pcW_blind, va_recv hK hP hc he, (pcW_S (As := .ref b :: As) hK hP hD is hn hC).2⟩
theorem cl_i {r : Int32} (hr : va_Run p l e R s m args below meth c H locs cells slots 0 0 (F0 m pc ls st0) rest (qiW r D w1 (va_A wc H.size) a) (va_A wc H.size)) (hP : va_P D vwCl ws H) (hD : va_D A ws) (hS : va_S A H0 H locs) (hA : ∀ q, H0.size ≤ q → A q) (is : List Nat) (hC : is.map (fun i => ws[i]?) = wc.map some) (hl : wc.length = w1.length) (hW : putAll ws is w1 = w2)
    (kk : ∀ (H1 : Heap) (locs1 : List Loc), va_P D vwCl w2 H1 → va_S A H0 H1 locs1 → W p l e R s m args below meth c H1 locs1 cells slots Q (F0 m (pc + 3) ls (.int r :: rest))) : W p l e R s m args below meth c H locs cells slots Q (F0 m pc ls st0) := by
  have hF := va_free hD hS hA is hC
  refine va_calli hr hS (fun q _ h => hF q h) hF (fun r' u t H1 locs1 ht _ hw hB _ hk hS1 => ?_)
  subst hw
  rw [ht] at hB
  exact kk H1 locs1 (hW ▸ back_P hP hD is hC hl hk hB) hS1
theorem cl_l {r : Int64} (hr : va_Run p l e R s m args below meth c H locs cells slots 0 0 (F0 m pc ls st0) rest (qlW r D w1 (va_A wc H.size) a) (va_A wc H.size)) (hP : va_P D vwCl ws H) (hD : va_D A ws) (hS : va_S A H0 H locs) (hA : ∀ q, H0.size ≤ q → A q) (is : List Nat) (hC : is.map (fun i => ws[i]?) = wc.map some) (hl : wc.length = w1.length) (hW : putAll ws is w1 = w2)
    (kk : ∀ (H1 : Heap) (locs1 : List Loc), va_P D vwCl w2 H1 → va_S A H0 H1 locs1 → W p l e R s m args below meth c H1 locs1 cells slots Q (F0 m (pc + 3) ls (.long r :: rest))) : W p l e R s m args below meth c H locs cells slots Q (F0 m pc ls st0) := by
  have hF := va_free hD hS hA is hC
  refine va_calll hr hS (fun q _ h => hF q h) hF (fun r' u t H1 locs1 ht _ hw hB _ hk hS1 => ?_)
  subst hw
  rw [ht] at hB
  exact kk H1 locs1 (hW ▸ back_P hP hD is hC hl hk hB) hS1
theorem cl_v (hr : va_Run p l e R s m args below meth c H locs cells slots 0 0 (F0 m pc ls st0) rest (qvW D w1 (va_A wc H.size) a) (va_A wc H.size)) (hP : va_P D vwCl ws H) (hD : va_D A ws) (hS : va_S A H0 H locs) (hA : ∀ q, H0.size ≤ q → A q) (is : List Nat) (hC : is.map (fun i => ws[i]?) = wc.map some) (hl : wc.length = w1.length) (hW : putAll ws is w1 = w2)
    (kk : ∀ (H1 : Heap) (locs1 : List Loc), va_P D vwCl w2 H1 → va_S A H0 H1 locs1 → W p l e R s m args below meth c H1 locs1 cells slots Q (F0 m (pc + 3) ls rest)) : W p l e R s m args below meth c H locs cells slots Q (F0 m pc ls st0) := by
  have hF := va_free hD hS hA is hC
  refine va_callv hr hS (fun q _ h => hF q h) hF (fun u t H1 locs1 ht _ _ hB _ hk hS1 => ?_)
  rw [ht] at hB
  exact kk H1 locs1 (hW ▸ back_P hP hD is hC hl hk hB) hS1
end NB
