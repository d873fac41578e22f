/-! the law's state between two calls, its world in other orders -/
section
variable {α : Type} {a0 a1 a2 a3 a4 a5 a6 a7 a8 a9 a10 a11 a12 aM : List α}
theorem pw_0_3 : ((a0 ++ a1 ++ a2 ++ a3 ++ a4 ++ a5 ++ a6 ++ a7 ++ a8 ++ a9 ++ a10 ++ a11 ++ a12) ++ aM).Perm ((a0 ++ a3) ++ (a1 ++ a2 ++ a4 ++ a5 ++ a6 ++ a7 ++ a8 ++ a9 ++ a10 ++ a11 ++ a12 ++ aM)) := by
  letI : DecidableEq α := fun a b => Classical.propDecidable (a = b)
  refine List.perm_iff_count.mpr fun a => ?_
  simp only [List.count_append]; omega
theorem pw_0_1_2_3 : ((a0 ++ a1 ++ a2 ++ a3 ++ a4 ++ a5 ++ a6 ++ a7 ++ a8 ++ a9 ++ a10 ++ a11 ++ a12) ++ aM).Perm ((a0 ++ a1 ++ a2 ++ a3) ++ (a4 ++ a5 ++ a6 ++ a7 ++ a8 ++ a9 ++ a10 ++ a11 ++ a12 ++ aM)) := by
  letI : DecidableEq α := fun a b => Classical.propDecidable (a = b)
  refine List.perm_iff_count.mpr fun a => ?_
  simp only [List.count_append]; omega
theorem pw_0_1_2_3_4 : ((a0 ++ a1 ++ a2 ++ a3 ++ a4 ++ a5 ++ a6 ++ a7 ++ a8 ++ a9 ++ a10 ++ a11 ++ a12) ++ aM).Perm ((a0 ++ a1 ++ a2 ++ a3 ++ a4) ++ (a5 ++ a6 ++ a7 ++ a8 ++ a9 ++ a10 ++ a11 ++ a12 ++ aM)) := by
  letI : DecidableEq α := fun a b => Classical.propDecidable (a = b)
  refine List.perm_iff_count.mpr fun a => ?_
  simp only [List.count_append]; omega
theorem pw_0_1_4 : ((a0 ++ a1 ++ a2 ++ a3 ++ a4 ++ a5 ++ a6 ++ a7 ++ a8 ++ a9 ++ a10 ++ a11 ++ a12) ++ aM).Perm ((a0 ++ a1 ++ a4) ++ (a2 ++ a3 ++ a5 ++ a6 ++ a7 ++ a8 ++ a9 ++ a10 ++ a11 ++ a12 ++ aM)) := by
  letI : DecidableEq α := fun a b => Classical.propDecidable (a = b)
  refine List.perm_iff_count.mpr fun a => ?_
  simp only [List.count_append]; omega
theorem pw_0_1_4_11 : ((a0 ++ a1 ++ a2 ++ a3 ++ a4 ++ a5 ++ a6 ++ a7 ++ a8 ++ a9 ++ a10 ++ a11 ++ a12) ++ aM).Perm ((a0 ++ a1 ++ a4 ++ a11) ++ (a2 ++ a3 ++ a5 ++ a6 ++ a7 ++ a8 ++ a9 ++ a10 ++ a12 ++ aM)) := by
  letI : DecidableEq α := fun a b => Classical.propDecidable (a = b)
  refine List.perm_iff_count.mpr fun a => ?_
  simp only [List.count_append]; omega
theorem pw_0_1_4_5 : ((a0 ++ a1 ++ a2 ++ a3 ++ a4 ++ a5 ++ a6 ++ a7 ++ a8 ++ a9 ++ a10 ++ a11 ++ a12) ++ aM).Perm ((a0 ++ a1 ++ a4 ++ a5) ++ (a2 ++ a3 ++ a6 ++ a7 ++ a8 ++ a9 ++ a10 ++ a11 ++ a12 ++ aM)) := by
  letI : DecidableEq α := fun a b => Classical.propDecidable (a = b)
  refine List.perm_iff_count.mpr fun a => ?_
  simp only [List.count_append]; omega
theorem pw_0_4_8_9 : ((a0 ++ a1 ++ a2 ++ a3 ++ a4 ++ a5 ++ a6 ++ a7 ++ a8 ++ a9 ++ a10 ++ a11 ++ a12) ++ aM).Perm ((a0 ++ a4 ++ a8 ++ a9) ++ (a1 ++ a2 ++ a3 ++ a5 ++ a6 ++ a7 ++ a10 ++ a11 ++ a12 ++ aM)) := by
  letI : DecidableEq α := fun a b => Classical.propDecidable (a = b)
  refine List.perm_iff_count.mpr fun a => ?_
  simp only [List.count_append]; omega
theorem pw_0_1_4_6_7 : ((a0 ++ a1 ++ a2 ++ a3 ++ a4 ++ a5 ++ a6 ++ a7 ++ a8 ++ a9 ++ a10 ++ a11 ++ a12) ++ aM).Perm ((a0 ++ a1 ++ a4 ++ a6 ++ a7) ++ (a2 ++ a3 ++ a5 ++ a8 ++ a9 ++ a10 ++ a11 ++ a12 ++ aM)) := by
  letI : DecidableEq α := fun a b => Classical.propDecidable (a = b)
  refine List.perm_iff_count.mpr fun a => ?_
  simp only [List.count_append]; omega
theorem pw_0_1_4_6_7_12 : ((a0 ++ a1 ++ a2 ++ a3 ++ a4 ++ a5 ++ a6 ++ a7 ++ a8 ++ a9 ++ a10 ++ a11 ++ a12) ++ aM).Perm ((a0 ++ a1 ++ a4 ++ a6 ++ a7 ++ a12) ++ (a2 ++ a3 ++ a5 ++ a8 ++ a9 ++ a10 ++ a11 ++ aM)) := by
  letI : DecidableEq α := fun a b => Classical.propDecidable (a = b)
  refine List.perm_iff_count.mpr fun a => ?_
  simp only [List.count_append]; omega
theorem pw_0_1_4_6_10 : ((a0 ++ a1 ++ a2 ++ a3 ++ a4 ++ a5 ++ a6 ++ a7 ++ a8 ++ a9 ++ a10 ++ a11 ++ a12) ++ aM).Perm ((a0 ++ a1 ++ a4 ++ a6 ++ a10) ++ (a2 ++ a3 ++ a5 ++ a7 ++ a8 ++ a9 ++ a11 ++ a12 ++ aM)) := by
  letI : DecidableEq α := fun a b => Classical.propDecidable (a = b)
  refine List.perm_iff_count.mpr fun a => ?_
  simp only [List.count_append]; omega
theorem pw_0_1 : ((a0 ++ a1 ++ a2 ++ a3 ++ a4 ++ a5 ++ a6 ++ a7 ++ a8 ++ a9 ++ a10 ++ a11 ++ a12) ++ aM).Perm ((a0 ++ a1) ++ (a2 ++ a3 ++ a4 ++ a5 ++ a6 ++ a7 ++ a8 ++ a9 ++ a10 ++ a11 ++ a12 ++ aM)) := by
  letI : DecidableEq α := fun a b => Classical.propDecidable (a = b)
  refine List.perm_iff_count.mpr fun a => ?_
  simp only [List.count_append]; omega
theorem pw_0 : ((a0 ++ a1 ++ a2 ++ a3 ++ a4 ++ a5 ++ a6 ++ a7 ++ a8 ++ a9 ++ a10 ++ a11 ++ a12) ++ aM).Perm ((a0) ++ (a1 ++ a2 ++ a3 ++ a4 ++ a5 ++ a6 ++ a7 ++ a8 ++ a9 ++ a10 ++ a11 ++ a12 ++ aM)) := by
  letI : DecidableEq α := fun a b => Classical.propDecidable (a = b)
  refine List.perm_iff_count.mpr fun a => ?_
  simp only [List.count_append]; omega
theorem pw_0_1_6_7 : ((a0 ++ a1 ++ a2 ++ a3 ++ a4 ++ a5 ++ a6 ++ a7 ++ a8 ++ a9 ++ a10 ++ a11 ++ a12) ++ aM).Perm ((a0 ++ a1 ++ a6 ++ a7) ++ (a2 ++ a3 ++ a4 ++ a5 ++ a8 ++ a9 ++ a10 ++ a11 ++ a12 ++ aM)) := by
  letI : DecidableEq α := fun a b => Classical.propDecidable (a = b)
  refine List.perm_iff_count.mpr fun a => ?_
  simp only [List.count_append]; omega
theorem pw_0_1_3_4 : ((a0 ++ a1 ++ a2 ++ a3 ++ a4 ++ a5 ++ a6 ++ a7 ++ a8 ++ a9 ++ a10 ++ a11 ++ a12) ++ aM).Perm ((a0 ++ a1 ++ a3 ++ a4) ++ (a2 ++ a5 ++ a6 ++ a7 ++ a8 ++ a9 ++ a10 ++ a11 ++ a12 ++ aM)) := by
  letI : DecidableEq α := fun a b => Classical.propDecidable (a = b)
  refine List.perm_iff_count.mpr fun a => ?_
  simp only [List.count_append]; omega
end
def Wd (D : va_G) (Y : Nat → ClassId) (v : Nat → Nat → Nat) (u : Nat → Nat) (s : State) (H : Heap) (locs : List Loc) : Prop := ∃ (nS tT tD xT gN : GS) (fN : Nat → Int32) (gA : GS) (fA : Nat → Int32) (gK gL zZ : GS) (lZ : Nat → Int64) (fW : Nat → Int32) (lP : Nat → Int64) (mM : GS) (tk : Int64), IVs nS tT xT gN gK gL mM ∧ va_P D vwCl (wX Y v nS tT tD xT gN fN gA fA gK gL zZ lZ fW lP ++ cMod Y u mM tk) H ∧ va_D (fun q : Nat => s.heap.size ≤ q) (wX Y v nS tT tD xT gN fN gA fA gK gL zZ lZ fW lP ++ cMod Y u mM tk) ∧ va_S (fun q : Nat => s.heap.size ≤ q) s.heap H locs
def LwS (p : Program) (s : State) (m : MethodId) (c : Code) (b L : Nat) (xs : Nat → Int32) (D : va_G) (Y : Nat → ClassId) (adK adV : Nat → Nat) : Prop := p.tables.exec = Jvm.exec ∧ c.code = cL_law ∧ c.maxLocals = 4 ∧ s.vm.findClass RL = some m.cls ∧ (∀ w ∈ wsL_law, w.before #[Value.ref b] s = true) ∧ va_X b L xs s s.heap ∧ b < s.heap.size ∧ va_K D vwCl (tysW Y) s ∧ va_Nw nfW s ∧ va_Nw nmW s ∧ sAll adK adV (fun q : Nat => s.heap.size ≤ q) s
theorem lw_B {s : State} {H : Heap} {locs : List Loc} {wc wr : va_W} (hD : va_D (fun q : Nat => s.heap.size ≤ q) (wc ++ wr)) (hS : va_S (fun q : Nat => s.heap.size ≤ q) s.heap H locs) : ∀ q, va_A wc H.size q → (fun q : Nat => s.heap.size ≤ q) q := own_A (D_left hD) hS (fun _ h => h)
