/-! what is known of the class's words: their texts, where they stand; statics of the JDK that reading them asks -/
def lenJS : List Nat := [5, 4, 6, 4, 5, 4, 4, 4, 3, 5, 3, 4, 4]
def bytJS : List (List Int32) := [[103, 114, 101, 101, 110], [99, 114, 111, 112], [110, 97, 114, 114, 111, 119], [99, 97, 114, 116], [115, 116, 117, 99, 107], [119, 105, 100, 101], [112, 97, 116, 104], [102, 101, 117, 100], [108, 111, 116], [99, 108, 101, 97, 114], [97, 103, 101], [116, 117, 114, 110], [114, 101, 115, 116]]
def ixJS : List Nat := [37, 46, 125, 127, 129, 131, 59, 64, 69, 74, 133, 135, 137]
def txJS : List String := ["green", "crop", "narrow", "cart", "stuck", "wide", "path", "feud", "lot", "clear", "age", "turn", "rest"]
abbrev wL (k : Nat) : Nat := lenJS.getD k 0
abbrev wB (k : Nat) : Nat → Int32 := fun j => (bytJS.getD k []).getD j 0
def sX (A : Nat → Prop) (U : State) : Prop := va_Z "java/lang/String" "COMPACT_STRINGS" "Z" (.int 1) A U U.heap ∧ va_Zq "jdk/internal/util/Preconditions" "SIOOBE_FORMATTER" "Ljava/util/function/BiFunction;" A U U.heap
/-- a text: its object q, its bytes' array v, n of them, f -/
def sE (q v n : Nat) (f : Nat → Int32) (A : Nat → Prop) (U : State) : Prop := va_O "java/lang/String" q A U U.heap ∧ va_OF "java/lang/String" "coder" "B" (.int 0) q A U U.heap ∧ va_OF "java/lang/String" "value" "[B" (.ref v) q A U U.heap ∧ va_T .byte v n (fun j => .int (f j)) A U U.heap ∧ n < 2 ^ 31 ∧ sX A U
def sAll (adK adV : Nat → Nat) (A : Nat → Prop) (U : State) : Prop := vk_S 13 lenJS bytJS adK adV A U U.heap ∧ (∀ i : Nat, i < 13 → vk_R RX2 (ixJS.getD i 0) (txJS.getD i "") (adK i) U) ∧ sX A U
theorem sX_go {s U : State} {H : Heap} {A B : Nat → Prop} {locs : List Loc} (h : sX A s) (hS : va_S A s.heap H locs) (hB : ∀ q, B q → A q) (hU : U.heap = H) (hW : s.vm.Alike U.vm) : sX B U := by
  unfold sX
  rw [hU]
  exact ⟨((h.1.kept hS.2.1).narrow hB).moved hW, ((h.2.kept hS.2.1).narrow hB).moved hW⟩
theorem sE_go {s U : State} {H : Heap} {A B : Nat → Prop} {locs : List Loc} {q v n : Nat} {f : Nat → Int32} (h : sE q v n f A s) (hS : va_S A s.heap H locs) (hB : ∀ q, B q → A q) (hU : U.heap = H) (hW : s.vm.Alike U.vm) : sE q v n f B U := by
  refine ⟨?_, ?_, ?_, ?_, h.2.2.2.2.1, sX_go h.2.2.2.2.2 hS hB hU hW⟩
  · rw [hU]; exact ((h.1.kept hS.2.1).narrow hB).moved hW
  · rw [hU]; exact ((h.2.1.kept hS.2.1).narrow hB).moved hW
  · rw [hU]; exact ((h.2.2.1.kept hS.2.1).narrow hB).moved hW
  · rw [hU]; exact ((h.2.2.2.1.kept hS.2.1).narrow hB).moved hW
theorem sAll_go {s U : State} {H : Heap} {A B : Nat → Prop} {locs : List Loc} {adK adV : Nat → Nat} (h : sAll adK adV A s) (hS : va_S A s.heap H locs) (hB : ∀ q, B q → A q) (hU : U.heap = H) (hW : s.WarmedH U.vm) : sAll adK adV B U := by
  refine ⟨?_, fun i hi => vk_R.warm hW (h.2.1 i hi), sX_go h.2.2 hS hB hU hW.alike⟩
  rw [hU]
  exact ((h.1.kept hS.2.1).narrow hB).moved hW.alike
theorem lenJS_lt : ∀ k, k < 13 → wL k < 2 ^ 31 := by decide
theorem sAll_E {s : State} {A : Nat → Prop} {adK adV : Nat → Nat} (h : sAll adK adV A s) {k : Nat} (hk : k < 13) : sE (adK k) (adV k) (wL k) (wB k) A s := ⟨(h.1.1 k hk).1, (h.1.1 k hk).2.1, (h.1.1 k hk).2.2.1, (h.1.1 k hk).2.2.2, lenJS_lt k hk, h.2.2⟩
theorem sX_blind {A : Nat → Prop} (U : State) (g : JFrame) (mk : MethodId) (a : Array Value) (h : sX A U) : sX A (U.calling g mk a) := ⟨h.1.moved (U := U.calling g mk a) (Vm.Alike.refl U.vm), h.2.moved (U := U.calling g mk a) (Vm.Alike.refl U.vm)⟩
theorem sE_blind {A : Nat → Prop} {q v n : Nat} {f : Nat → Int32} (U : State) (g : JFrame) (mk : MethodId) (a : Array Value) (h : sE q v n f A U) : sE q v n f A (U.calling g mk a) := ⟨h.1.moved (U := U.calling g mk a) (Vm.Alike.refl U.vm), h.2.1.moved (U := U.calling g mk a) (Vm.Alike.refl U.vm), h.2.2.1.moved (U := U.calling g mk a) (Vm.Alike.refl U.vm), h.2.2.2.1.moved (U := U.calling g mk a) (Vm.Alike.refl U.vm), h.2.2.2.2.1, sX_blind U g mk a h.2.2.2.2.2⟩
theorem sAll_blind {A : Nat → Prop} {adK adV : Nat → Nat} (U : State) (g : JFrame) (mk : MethodId) (a : Array Value) (h : sAll adK adV A U) : sAll adK adV A (U.calling g mk a) := ⟨h.1.moved (U := U.calling g mk a) (Vm.Alike.refl U.vm), fun i hi => vk_R.same (u := U) (U := U.calling g mk a) rfl (h.2.1 i hi), sX_blind U g mk a h.2.2⟩
def pcE (av : List Value) (sz : Nat) (D : va_G) (Y : Nat → ClassId) (ws : va_W) (E : State → Prop) : Array Value → State → Prop := fun a U => pcW av sz D Y ws a U ∧ E U
theorem pcE_S {s : State} {H : Heap} {av As : List Value} {sz : Nat} {D : va_G} {Y : Nat → ClassId} {ws : va_W} {E : State → Prop} (hb : ∀ (U : State) (g : JFrame) (mk : MethodId) (a : Array Value), E U → E (U.calling g mk a)) (hE : ∀ U : State, U.heap = H → s.WarmedH U.vm → E U) (h : PreS s H (pcW av sz D Y ws) As) : PreS s H (pcE av sz D Y ws E) As := ⟨fun a U g mk q => ⟨h.1 a U g mk q.1, hb U g mk a q.2⟩, fun U hU hW => ⟨h.2 U hU hW, hE U hU hW⟩⟩
theorem pcE_V {s : State} {H : Heap} {C : String} {b : Addr} {av As : List Value} {sz : Nat} {D : va_G} {Y : Nat → ClassId} {ws : va_W} {E : State → Prop} (hb : ∀ (U : State) (g : JFrame) (mk : MethodId) (a : Array Value), E U → E (U.calling g mk a)) (hE : ∀ U : State, U.heap = H → s.WarmedH U.vm → E U) (h : PreV s H C b (pcW av sz D Y ws) As) : PreV s H C b (pcE av sz D Y ws E) As := ⟨fun a U g mk q => ⟨h.1 a U g mk q.1, hb U g mk a q.2⟩, h.2.1, fun U hU hW => ⟨h.2.2 U hU hW, hE U hU hW⟩⟩
/-- the world of none: a call of a JDK method on a text -/
theorem pcW_0 {s : State} {H : Heap} {D : va_G} {Y : Nat → ClassId} {As : List Value} (hK : va_K D vwCl (tysW Y) s) : PreS s H (pcW As H.size D Y []) As := ⟨pcW_blind, fun U hU hW => ⟨rfl, by rw [hU], fun k q h => by simp at h, va_K.moved hW.alike hK, ⟨fun i j p q h => by simp at h, fun k q h => by simp at h⟩⟩⟩
theorem in_0 {A : Nat → Prop} {H0 H : Heap} {locs : List Loc} (hS : va_S A H0 H locs) (hA : ∀ q, H0.size ≤ q → A q) : ∀ q, va_A [] H.size q → A q := by
  rintro q (⟨k, e, h⟩ | h)
  · simp at h
  · exact hA q (Nat.le_trans hS.1 h)
