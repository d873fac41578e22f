/-! the class's own constructor: its whole world -/
abbrev wX (Y : Nat → ClassId) (v : Nat → Nat → Nat) (nS tT tD xT gN : GS) (fN : Nat → Int32) (gA : GS) (fA : Nat → Int32) (gK gL zZ : GS) (lZ : Nat → Int64) (fW : Nat → Int32) (lP : Nat → Int64) : va_W := cMain Y (v 0) (v 1 0) (v 2 0) (v 3 0) (v 4 0) (v 5 0) (v 8 0) (v 9 0) (v 9 1) (v 6 0) (v 7 0) nS ++ cTold Y (v 1) tT ++ cTold Y (v 2) tD ++ cText Y (v 3) xT ++ cStand Y (v 4) (v 1 0) (v 4 3) gN ++ cRow Y (v 4 3) 8 fN ++ cStand Y (v 5) (v 1 0) (v 5 3) gA ++ cRow Y (v 5 3) 8 fA ++ cStand Y (v 6) (v 1 0) (v 6 3) gK ++ cStand Y (v 7) (v 1 0) (v 7 3) gL ++ cSearch Y (v 8) (v 5 0) zZ lZ ++ cRow Y (v 9 0) 8 fW ++ cLong Y (v 9 1) 501 lP
def qxW (D : va_G) (w : (Nat → Nat → Nat) → va_W) (h0 : Nat) (A : Nat → Prop) : Array Value → State → Outcome → State → Prop := va_Qv (fun u : Nat → Nat → Nat => u 0 0 = h0) (fun u t => va_P D vwCl (w u) t.heap ∧ va_D A (w u)) A
def ntW : Cond := .methodLinkNest RX4 21 yX2_init RX4
def pcB (av : List Value) (sz : Nat) (D : va_G) (Y : Nat → ClassId) (ws : va_W) : Array Value → State → Prop := fun a U => pcW av sz D Y ws a U ∧ va_Nw ntW U ∧ va_AOI U ∧ va_AO RX1 U
theorem ntW_same {u U : State} (h : u.vm = U.vm) (hZ : va_Nw ntW u) : va_Nw ntW U := va_Nw.same rfl h hZ
theorem pcB_S {s : State} {H : Heap} {av As : List Value} {sz : Nat} {D : va_G} {Y : Nat → ClassId} {ws : va_W} (hN : va_Nw ntW s) (hO : va_AOI s) (hO2 : va_AO RX1 s) (h : PreS s H (pcW av sz D Y ws) As) : PreS s H (pcB av sz D Y ws) As := ⟨fun a U g mk q => ⟨h.1 a U g mk q.1, ntW_same (u := U) (U := U.calling g mk a) rfl q.2.1, va_AOI.moved (u := U) (U := U.calling g mk a) (Vm.Alike.refl U.vm) q.2.2.1, va_AO.moved (u := U) (U := U.calling g mk a) (Vm.Alike.refl U.vm) q.2.2.2⟩, fun U hU hW => ⟨h.2 U hU hW, va_Nw.warmM hW hN, hO.moved hW.alike, hO2.moved hW.alike⟩⟩
theorem kept_eq (cA : ClassId) (a b : Nat) : vp_cell cA (2, .inr (.inr (.inr (.inr (va_up (va_up (fun _ => none) 0 (some a)) 1 (some b)))))) = vp_cell cA (2, .inr (.inr (.inr (.inr (fun i => bif Nat.beq i 0 then some a else some b))))) := by
  rw [vp_cell_q, vp_cell_q]
  unfold arrV
  refine congrArg (fun a => ({ cls := cA, slots := a, vm := .none } : Cell)) (congrArg (Array.ofFn (n := 2)) (funext fun j => ?_))
  match j with
  | ⟨0, _⟩ => rfl
  | ⟨1, _⟩ => rfl
theorem nw_q {p : Program} {l : Launch} {e : Env} {R : Room} {s : State} {m : MethodId} {args : Array Value} {below : List Frame} {meth : Method} {c : Code} {H : Heap} {locs : List Loc} {cells slots : Nat} {Q : State → Prop} {cc : ByteArray} {pc : Nat} {ls : Array Slot} {rest : List Value} {A : Nat → Prop} {H0 : Heap} {D : va_G} {Y : Nat → ClassId} {ws : va_W} (hexec : p.tables.exec = Jvm.exec) (hb : c.code = cc) {own : String} {index : Nat} (hown : s.vm.findClass own = some m.cls) (hclink : (Cond.classLink own index RX1).before args s = true) (hover : va_AO RX1 s) (hK : va_K D vwCl (tysW Y) s) (hP : va_P D vwCl ws H) (hD : va_D A ws) (hS : va_S A H0 H locs) (hA : ∀ q, H0.size ≤ q → A q) {n : Int32} {N' : Nat} (hn : ¬ n < 0) (hN : n.toNatClampNeg = N') (hbytes : N' * 4 ≤ 536870912) (hcells : cells + 1 ≤ R.cells) (hslots : slots + N' ≤ R.slots) (hdg : decode cc pc = .ok (.anewarray index, 3))
    (kk : ∀ (q : Nat) (H1 : Heap), va_P D vwCl (ws ++ [(q, .inl (Y 3, N', .inr (.inr (.inr (.inr (fun _ => none))))))]) H1 → va_D A (ws ++ [(q, .inl (Y 3, N', .inr (.inr (.inr (.inr (fun _ => none))))))]) → va_S A H0 H1 locs → W p l e R s m args below meth c H1 locs (cells + 1) (slots + N') Q (F0 m (pc + 3) ls (.ref q :: rest))) : W p l e R s m args below meth c H locs cells slots Q (F0 m pc ls (.int n :: rest)) := by
  refine va_newq hexec hb hown hclink hover hK hP hD hS hA hn hN hbytes hcells hslots hdg (fun q cA H1 hK1 hP1 hD1 hS1 => ?_)
  obtain ⟨-, -, -, -, -, e1⟩ := (hK1.2 5 (cA, .object RX1) rfl).2
  obtain ⟨-, -, -, -, -, e2⟩ := (hK.2 3 (Y 3, .object RX1) rfl).2
  have e : cA = Y 3 := Option.some.inj (e1.symm.trans e2)
  subst e
  exact kk q H1 hP1 hD1 hS1
section
variable {α : Type} {x k n : α} {T wo S R : List α}
theorem perm1 : ((x :: k :: (T ++ wo)) ++ [n]).Perm (([n] ++ T) ++ (x :: k :: wo)) := by
  letI : DecidableEq α := fun a b => Classical.propDecidable (a = b)
  refine List.perm_iff_count.mpr fun a => ?_
  simp only [List.count_append, List.count_cons, List.count_nil]; omega
theorem perm2 : ((x :: k :: wo) ++ (S ++ R ++ T)).Perm (x :: k :: (T ++ (S ++ R ++ wo))) := by
  letI : DecidableEq α := fun a b => Classical.propDecidable (a = b)
  refine List.perm_iff_count.mpr fun a => ?_
  simp only [List.count_append, List.count_cons]; omega
theorem perm0 {a1 a2 a3 a4 a5 a6 b1 b2 b3 b4 b5 b6 b7 : List α} : (x :: (([] : List α) ++ a1 ++ a2 ++ a3 ++ a4 ++ a5 ++ a6 ++ T ++ [k] ++ b1 ++ b2 ++ b3 ++ b4 ++ b5 ++ b6 ++ b7)).Perm (x :: k :: (T ++ (a1 ++ a2 ++ a3 ++ a4 ++ a5 ++ a6 ++ b1 ++ b2 ++ b3 ++ b4 ++ b5 ++ b6 ++ b7))) := by
  letI : DecidableEq α := fun a b => Classical.propDecidable (a = b)
  refine List.perm_iff_count.mpr fun a => ?_
  simp only [List.count_append, List.count_cons, List.count_nil]; omega
theorem perm3 {a1 a2 a3 a4 a5 a6 b2 b3 b4 S7 R7 S6 R6 : List α} {f s1 s2 s3 : α} : (x :: k :: (T ++ (S7 ++ R7 ++ (S6 ++ R6 ++ (a1 ++ a2 ++ a3 ++ a4 ++ a5 ++ a6 ++ [f] ++ b2 ++ b3 ++ b4 ++ [s1] ++ [s2] ++ [s3]))))).Perm (([x, k, f, s1, s2, s3] ++ T ++ a1 ++ a2 ++ a3 ++ a4 ++ a5 ++ a6 ++ S6 ++ S7 ++ b2 ++ b3 ++ b4) ++ (R6 ++ R7)) := by
  letI : DecidableEq α := fun a b => Classical.propDecidable (a = b)
  refine List.perm_iff_count.mpr fun a => ?_
  simp only [List.count_append, List.count_cons, List.count_nil]; omega
end
theorem D_left {A : Nat → Prop} {w1 w2 : va_W} (h : va_D A (w1 ++ w2)) : va_D A w1 := by
  rw [D_iff] at h ⊢
  rw [List.map_append] at h
  exact ⟨(List.nodup_append.mp h.1).1, fun q hq => h.2 q (List.mem_append_left _ hq)⟩
abbrev rmX4_init : Room := { frames := 4, cells := 50, slots := 5162, locals := 160 }
abbrev FX (u10 : Nat) (x1 x2 x3 x4 : Value) (q69 : Nat) (x6 x7 x8 x9 x10 x11 x12 : Value) : List Value := [.ref u10, x1, x2, x3, x4, .ref q69, x6, x7, x8, x9, x10, x11, x12, .int 0]
set_option maxHeartbeats 8000000 in
set_option maxRecDepth 100000 in
theorem kpX4 {p : Program} {l : Launch} {e : Env} {s : State} {m : MethodId} {below : List Frame} {meth : Method} {c : Code} {Q : State → Prop} {D : va_G} {Y : Nat → ClassId} {A : Nat → Prop} {h0 q69 : Nat} {u1 : Nat → Nat} {t1 g1 : GS} {x1 x2 x3 x4 x6 x7 x8 x9 x10 x11 x12 : Value} {wo : va_W} {f : Nat → Option Nat} (hG1 : MX1_startAsTold zg t1 = some g1)
    (hx : p.tables.exec = Jvm.exec) (hb : c.code = cX4_init) (hml : c.maxLocals = 2) (hts : ∀ w ∈ wsX4_init, w.before ([.ref h0] : List Value).toArray s = true) (hown : s.vm.findClass RX4 = some m.cls) (hA : ∀ q : Nat, s.heap.size ≤ q → A q) (hK : va_K D vwCl (tysW Y) s)
    (j : Nat) (hj : j < 2) {cells slots : Nat} (hc1 : cells + 4 ≤ 50) (hc2 : slots + 33 ≤ 5162) {H : Heap} {locs : List Loc} {ls : Array Slot} (hl : lv_has ls 2 [(1, .int (nI j)), (0, .ref h0)])
    (hP : va_P D vwCl ((h0, .inr (4, FX (u1 0) x1 x2 x3 x4 q69 x6 x7 x8 x9 x10 x11 x12)) :: (q69, .inl (Y 3, 2, .inr (.inr (.inr (.inr f))))) :: (cTold Y u1 t1 ++ wo)) H) (hD : va_D A ((h0, .inr (4, FX (u1 0) x1 x2 x3 x4 q69 x6 x7 x8 x9 x10 x11 x12)) :: (q69, .inl (Y 3, 2, .inr (.inr (.inr (.inr f))))) :: (cTold Y u1 t1 ++ wo))) (hS : va_S A s.heap H locs)
    (kk : ∀ (u : Nat → Nat) (H1 : Heap) (locs1 : List Loc) (ls : Array Slot), lv_has ls 2 [(1, .int (nI (j + 1))), (0, .ref h0)] → va_P D vwCl ((h0, .inr (4, FX (u1 0) x1 x2 x3 x4 q69 x6 x7 x8 x9 x10 x11 x12)) :: (q69, .inl (Y 3, 2, .inr (.inr (.inr (.inr (va_up f j (some (u 0)))))))) :: (cTold Y u1 t1 ++ (cStand Y u (u1 0) (u 3) g1 ++ cRow Y (u 3) 8 (fun _ => 0) ++ wo))) H1 → va_D A ((h0, .inr (4, FX (u1 0) x1 x2 x3 x4 q69 x6 x7 x8 x9 x10 x11 x12)) :: (q69, .inl (Y 3, 2, .inr (.inr (.inr (.inr (va_up f j (some (u 0)))))))) :: (cTold Y u1 t1 ++ (cStand Y u (u1 0) (u 3) g1 ++ cRow Y (u 3) 8 (fun _ => 0) ++ wo))) → va_S A s.heap H1 locs1 → W p l e (headSpec wsX4_init rmX4_init).room s m ([.ref h0] : List Value).toArray below meth c H1 locs1 (cells + 4) (slots + 33) Q (F0 m 140 ls [])) :
    W p l e (headSpec wsX4_init rmX4_init).room s m ([.ref h0] : List Value).toArray below meth c H locs cells slots Q (F0 m 140 ls []) := by
  have hi0 : ∀ w ∈ wsX00, w ∈ wsX4_init := fun w h => List.mem_cons_of_mem _ (List.mem_append_right _ h)
  have hi1 : ∀ w ∈ wsX10, w ∈ wsX4_init := fun w h => List.mem_cons_of_mem _ (List.mem_append_left _ (List.mem_append_right _ h))
  have hi4 : ∀ w ∈ wsX40, w ∈ wsX4_init := fun w h => List.mem_cons_of_mem _ (List.mem_append_left _ (List.mem_append_left _ (List.mem_append_left _ (List.mem_append_right _ h))))
  have hj2 : ¬ (2 : Int32) ≤ nI j := by
    rcases (show j = 0 ∨ j = 1 by omega) with rfl | rfl <;> decide
  have hci : (nI j).toNatClampNeg = j := by
    rcases (show j = 0 ∨ j = 1 by omega) with rfl | rfl <;> rfl
  refine lv_iload_n hx hb dX4_init_140 rfl (lv_at hl 0 rfl) ?_
  refine lv_iconst (v := (2 : Int32)) hx hb dX4_init_141 (by decide) ?_
  refine lv_icmp_ge (tgt := 168) hx hb dX4_init_142 (by decide) (fun z => absurd z hj2) (fun _ => ?_)
  refine lv_aload_n hx hb dX4_init_145 rfl (lv_at hl 1 rfl) ?_
  refine va_get hx hb hts hi4 hown hK hP 0 rfl rfl 5 (by decide) (hts (.fieldLink RX4 38 "NightPlots" "kept" "[LNightPlots$Standing;") (List.mem_of_getElem? (i := 18) rfl)) (fun _ h9 => h9) rfl dX4_init_146 ?_
  refine lv_iload_n hx hb dX4_init_149 rfl (lv_at hl 0 rfl) ?_
  refine va_new (ci := 1) (fs := [.null, .null, .null, .null, .int 0, .int 0, .int 0, .int 0, .int 0]) (C := RX1) (T := TX1) (N := 9) hx hb hts hi1 tyX1 tyX1_ok hown (hts (.classLink RX4 26 RX1) (List.mem_of_getElem? (i := 13) rfl)) (hts (.instantiable RX1 9) (List.mem_of_getElem? (i := 14) rfl)) (hts (.initialized RX1) (List.mem_of_getElem? (i := 15) rfl)) hK hP hD hS hA rfl (lt_s (lt_s (lt_s (lt_s (lt_s (lt_s (lt_s (lt_s (lt_s lt_0 rfl) rfl) rfl) rfl) rfl) rfl) rfl) rfl) rfl) (by show cells + 1 ≤ 50; omega) (by show slots + 9 ≤ 5162; omega) dX4_init_150 (fun q150 H hP hD hS => ?_)
  replace hP := P_perm hP perm1
  replace hD := D_perm hD perm1
  refine lv_dup hx hb dX4_init_153 rfl ?_
  refine lv_aload_n hx hb dX4_init_154 rfl (lv_at hl 1 rfl) ?_
  refine va_get hx hb hts hi4 hown hK hP 9 rfl rfl 0 (by decide) (hts (.fieldLink RX4 12 "NightPlots" "told" "LNightPlots$Told;") (List.mem_of_getElem? (i := 7) rfl)) (fun _ h9 => h9) rfl dX4_init_155 ?_
  refine cn_w (wr := (h0, .inr (4, FX (u1 0) x1 x2 x3 x4 q69 x6 x7 x8 x9 x10 x11 x12)) :: (q69, .inl (Y 3, 2, .inr (.inr (.inr (.inr f))))) :: wo) (va_runI (As := [.ref (u1 0)]) (rest := [.ref q150, .int (nI j), .ref q69]) ⟨hx, hb, hml, hown, hts⟩ (ctX1_init l D Y q150 u1 H.size t1 g1 hG1) (cwI 1 hts gX4_init_X1_init rfl rfl rfl (hts (.initialized RX1) (List.mem_of_getElem? (i := 15) rfl)) (hts (.methodLink RX4 28 yX1_init) (List.mem_of_getElem? (i := 66) rfl)) (hts (.instanceMethod yX1_init) (List.mem_of_getElem? (i := 67) rfl)) rfl (by decide +kernel) ⟨Nat.le_of_ble_eq_true rfl, Nat.le_of_ble_eq_true rfl⟩) (pcW_F hK hP hD) rfl rfl hl.1 rfl (lv_room (Nat.le_of_ble_eq_true rfl)) dX4_init_158 ⟨(by show cells + 1 + 3 ≤ 50; omega), (by show slots + 9 + 24 ≤ 5162; omega)⟩) hP hD hS hA (fun u6 H locs hu hP hD hS => ?_)
  rw [← hu]
  replace hP := P_perm hP perm2
  replace hD := D_perm hD perm2
  refine va_astq (r := (RX1, TX1, 9)) hx hb hK hP hD hS 1 3 10 1 rfl rfl rfl rfl (show vp_in (nI j) 2 from vp_in_nI hj (by decide)) dX4_init_161 (fun H locs hP hD hS => ?_)
  rw [hci] at hP hD
  refine lv_iinc (v := nI (j + 1)) (lv' := [(1, .int (nI (j + 1))), (0, .ref h0)]) hx hb dX4_init_162 hl (k := 0) rfl (nI_add j 1) (by decide) rfl (fun ls hl => ?_)
  refine lv_goto (tgt := 140) hx hb dX4_init_165 (by decide) ?_
  exact kk u6 H locs ls hl hP hD hS
