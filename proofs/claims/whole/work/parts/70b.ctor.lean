abbrev rmX1_init : Room := { frames := 3, cells := 3, slots := 24, locals := 120 }
set_option maxHeartbeats 8000000 in
set_option maxRecDepth 100000 in
theorem ctX1_init (l : Launch) (D : va_G) (Y : Nat → ClassId) (h0 : Nat) (hT : Nat → Nat) (sz : Nat) (tT : GS) (g1 : GS) (hM : MX1_startAsTold zg tT = some g1) : Met l yX1_init wsX1_init rmX1_init (pcW [.ref h0, .ref (hT 0)] sz D Y ([(h0, .inr (1, [.null, .null, .null, .null, .int 0, .int 0, .int 0, .int 0, .int 0]))] ++ cTold Y hT tT : va_W)) (qnW D (fun u => cStand Y u (hT 0) (u 3) g1 ++ cRow Y (u 3) 8 (fun _ => 0) ++ cTold Y hT tT) h0 (va_A ([(h0, .inr (1, [.null, .null, .null, .null, .int 0, .int 0, .int 0, .int 0, .int 0]))] ++ cTold Y hT tT : va_W) sz)) 3 24 (va_A ([(h0, .inr (1, [.null, .null, .null, .null, .int 0, .int 0, .int 0, .int 0, .int 0]))] ++ cTold Y hT tT : va_W) sz) := by
  refine Met.ofW (cc := cX1_init) (maxL := 2) (ret := none) (by decide) rfl ?_
  intro p e s m args below meth c s₁ B hml hv
  obtain ⟨rfl, hsz, hP, hK, hD0⟩ := hv
  have hx := B.exec
  have hb := B.bytes
  have hr := B.returns
  have hts := atoms_spec (ws := wsX1_init) B.pre
  have hown : s.vm.findClass RX1 = some m.cls := findClass_of_methodNamed B.named
  have hlocks := B.notSynchronized
  have hin : meth.name = "<init>" := (name_of_methodNamed B.named B.method).1
  subst hsz
  have hD := hD0.self (sz := s.heap.size)
  generalize hAe : va_A ([(h0, .inr (1, [.null, .null, .null, .null, .int 0, .int 0, .int 0, .int 0, .int 0]))] ++ cTold Y hT tT : va_W) s.heap.size = A at hD ⊢
  have hA : ∀ q : Nat, s.heap.size ≤ q → A q := fun q h => by rw [← hAe]; exact Or.inr h
  have hS : va_S A s.heap s.heap [] := va_S.rf
  have hl := lv_entry ([.ref h0, .ref (hT 0)]) (n := 2) (Nat.le_of_ble_eq_true rfl)
  rw [lg_entry_eq]
  generalize (lg_sl ([.ref h0, .ref (hT 0)]) ++ List.replicate (2 - (lg_sl ([.ref h0, .ref (hT 0)])).length) Slot.unset).toArray = ls at hl ⊢
  have hl : lv_has ls 2 [(0, .ref h0), (1, .ref (hT 0))] := hl
  have hi1 : ∀ w ∈ wsX10, w ∈ wsX1_init := fun w h => List.mem_cons_of_mem _ (List.mem_append_left _ (List.mem_append_right _ h))
  suffices hI : ∀ (H : Heap) (locs : List Loc), va_P D vwCl ([(h0, .inr (1, [.null, .null, .null, .null, .int 0, .int 0, .int 0, .int 0, .int 0]))] ++ cTold Y hT tT : va_W) H → va_S A s.heap H locs → W p l e (headSpec wsX1_init rmX1_init).room s m ([.ref h0, .ref (hT 0)] : List Value).toArray below meth c H locs 0 0 (MQ below (qnW D (fun u => cStand Y u (hT 0) (u 3) g1 ++ cRow Y (u 3) 8 (fun _ => 0) ++ cTold Y hT tT) h0 A) ([.ref h0, .ref (hT 0)] : List Value).toArray s 3 24 A) (F0 m 0 ls []) from hI _ _ hP hS
  clear hP hS
  intro H locs hP hS
  refine lv_aload_n hx hb dX1_init_0 rfl (lv_at hl 0 rfl) ?_
  refine W.objInit hx hb hown (hts (.methodLink RX1 3 objectInit) (List.mem_of_getElem? (i := 1) rfl)) (hts (.instanceMethod objectInit) (List.mem_of_getElem? (i := 2) rfl)) (hts (.code objectInit ⟨#[0xb1]⟩ 1 none) (List.mem_of_getElem? (i := 3) rfl)) rfl (by rw [hml]; exact hl.1) rfl dX1_init_1 (Nat.le_of_ble_eq_true rfl) (Nat.le_of_ble_eq_true rfl) ?_
  refine W.eq (g2 := F0 m 4 ls []) rfl ?_
  refine lv_aload_n hx hb dX1_init_4 rfl (lv_at hl 0 rfl) ?_
  refine lv_bipush (v := (8 : Int32)) hx hb dX1_init_5 (by decide) ?_
  refine nw_i hx hb (hts (.arrayClass .int) (List.mem_of_getElem? (i := 4) rfl)) hK hP hD hS hA (by decide) (N' := 8) (by decide) (by decide) (Nat.le_of_ble_eq_true rfl) (Nat.le_of_ble_eq_true rfl) dX1_init_7 (fun q7 H hP hD hS => ?_)
  have hP : va_P D vwCl ([(h0, .inr (1, [.null, .null, .null, .null, .int 0, .int 0, .int 0, .int 0, .int 0]))] ++ cTold Y hT tT ++ [(q7, .inl (Y 0, 8, .inl (fun _ => 0)))] : va_W) H := hP
  have hD : va_D A ([(h0, .inr (1, [.null, .null, .null, .null, .int 0, .int 0, .int 0, .int 0, .int 0]))] ++ cTold Y hT tT ++ [(q7, .inl (Y 0, 8, .inl (fun _ => 0)))] : va_W) := hD
  refine W.widen (k := 1) (n := 8) (Nat.le_of_ble_eq_true rfl) (Nat.le_of_ble_eq_true rfl) ?_
  refine va_putF (v := .ref q7) (ty := .array .int) hx hb hts hi1 tyX1 tyX1_ok nmX1 hown hK hP hD hS 0 rfl rfl 1 (by decide) (hts (.fieldLink RX1 9 "NightPlots$Standing" "place" "[I") (List.mem_of_getElem? (i := 5) rfl)) (fun _ h9 => h9) rfl hin rfl (by decide +kernel) rfl rfl (Nat.le_of_ble_eq_true rfl) dX1_init_9 (fun H locs hP hD hS => ?_)
  have hP : va_P D vwCl ([(h0, .inr (1, [.null, .ref q7, .null, .null, .int 0, .int 0, .int 0, .int 0, .int 0]))] ++ cTold Y hT tT ++ [(q7, .inl (Y 0, 8, .inl (fun _ => 0)))] : va_W) H := hP
  have hD : va_D A ([(h0, .inr (1, [.null, .ref q7, .null, .null, .int 0, .int 0, .int 0, .int 0, .int 0]))] ++ cTold Y hT tT ++ [(q7, .inl (Y 0, 8, .inl (fun _ => 0)))] : va_W) := hD
  refine lv_aload_n hx hb dX1_init_12 rfl (lv_at hl 0 rfl) ?_
  refine lv_bipush (v := (8 : Int32)) hx hb dX1_init_13 (by decide) ?_
  refine nw_i hx hb (hts (.arrayClass .int) (List.mem_of_getElem? (i := 4) rfl)) hK hP hD hS hA (by decide) (N' := 8) (by decide) (by decide) (Nat.le_of_ble_eq_true rfl) (Nat.le_of_ble_eq_true rfl) dX1_init_15 (fun q15 H hP hD hS => ?_)
  have hP : va_P D vwCl ([(h0, .inr (1, [.null, .ref q7, .null, .null, .int 0, .int 0, .int 0, .int 0, .int 0]))] ++ cTold Y hT tT ++ [(q7, .inl (Y 0, 8, .inl (fun _ => 0))), (q15, .inl (Y 0, 8, .inl (fun _ => 0)))] : va_W) H := hP
  have hD : va_D A ([(h0, .inr (1, [.null, .ref q7, .null, .null, .int 0, .int 0, .int 0, .int 0, .int 0]))] ++ cTold Y hT tT ++ [(q7, .inl (Y 0, 8, .inl (fun _ => 0))), (q15, .inl (Y 0, 8, .inl (fun _ => 0)))] : va_W) := hD
  refine W.widen (k := 2) (n := 16) (Nat.le_of_ble_eq_true rfl) (Nat.le_of_ble_eq_true rfl) ?_
  refine va_putF (v := .ref q15) (ty := .array .int) hx hb hts hi1 tyX1 tyX1_ok nmX1 hown hK hP hD hS 0 rfl rfl 2 (by decide) (hts (.fieldLink RX1 15 "NightPlots$Standing" "rolled" "[I") (List.mem_of_getElem? (i := 6) rfl)) (fun _ h9 => h9) rfl hin rfl (by decide +kernel) rfl rfl (Nat.le_of_ble_eq_true rfl) dX1_init_17 (fun H locs hP hD hS => ?_)
  have hP : va_P D vwCl ([(h0, .inr (1, [.null, .ref q7, .ref q15, .null, .int 0, .int 0, .int 0, .int 0, .int 0]))] ++ cTold Y hT tT ++ [(q7, .inl (Y 0, 8, .inl (fun _ => 0))), (q15, .inl (Y 0, 8, .inl (fun _ => 0)))] : va_W) H := hP
  have hD : va_D A ([(h0, .inr (1, [.null, .ref q7, .ref q15, .null, .int 0, .int 0, .int 0, .int 0, .int 0]))] ++ cTold Y hT tT ++ [(q7, .inl (Y 0, 8, .inl (fun _ => 0))), (q15, .inl (Y 0, 8, .inl (fun _ => 0)))] : va_W) := hD
  refine lv_aload_n hx hb dX1_init_20 rfl (lv_at hl 0 rfl) ?_
  refine lv_bipush (v := (8 : Int32)) hx hb dX1_init_21 (by decide) ?_
  refine nw_i hx hb (hts (.arrayClass .int) (List.mem_of_getElem? (i := 4) rfl)) hK hP hD hS hA (by decide) (N' := 8) (by decide) (by decide) (Nat.le_of_ble_eq_true rfl) (Nat.le_of_ble_eq_true rfl) dX1_init_23 (fun q23 H hP hD hS => ?_)
  have hP : va_P D vwCl ([(h0, .inr (1, [.null, .ref q7, .ref q15, .null, .int 0, .int 0, .int 0, .int 0, .int 0]))] ++ cTold Y hT tT ++ [(q7, .inl (Y 0, 8, .inl (fun _ => 0))), (q15, .inl (Y 0, 8, .inl (fun _ => 0))), (q23, .inl (Y 0, 8, .inl (fun _ => 0)))] : va_W) H := hP
  have hD : va_D A ([(h0, .inr (1, [.null, .ref q7, .ref q15, .null, .int 0, .int 0, .int 0, .int 0, .int 0]))] ++ cTold Y hT tT ++ [(q7, .inl (Y 0, 8, .inl (fun _ => 0))), (q15, .inl (Y 0, 8, .inl (fun _ => 0))), (q23, .inl (Y 0, 8, .inl (fun _ => 0)))] : va_W) := hD
  refine W.widen (k := 3) (n := 24) (Nat.le_of_ble_eq_true rfl) (Nat.le_of_ble_eq_true rfl) ?_
  refine va_putF (v := .ref q23) (ty := .array .int) hx hb hts hi1 tyX1 tyX1_ok nmX1 hown hK hP hD hS 0 rfl rfl 3 (by decide) (hts (.fieldLink RX1 18 "NightPlots$Standing" "ways" "[I") (List.mem_of_getElem? (i := 7) rfl)) (fun _ h9 => h9) rfl hin rfl (by decide +kernel) rfl rfl (Nat.le_of_ble_eq_true rfl) dX1_init_25 (fun H locs hP hD hS => ?_)
  have hP : va_P D vwCl ([(h0, .inr (1, [.null, .ref q7, .ref q15, .ref q23, .int 0, .int 0, .int 0, .int 0, .int 0]))] ++ cTold Y hT tT ++ [(q7, .inl (Y 0, 8, .inl (fun _ => 0))), (q15, .inl (Y 0, 8, .inl (fun _ => 0))), (q23, .inl (Y 0, 8, .inl (fun _ => 0)))] : va_W) H := hP
  have hD : va_D A ([(h0, .inr (1, [.null, .ref q7, .ref q15, .ref q23, .int 0, .int 0, .int 0, .int 0, .int 0]))] ++ cTold Y hT tT ++ [(q7, .inl (Y 0, 8, .inl (fun _ => 0))), (q15, .inl (Y 0, 8, .inl (fun _ => 0))), (q23, .inl (Y 0, 8, .inl (fun _ => 0)))] : va_W) := hD
  refine lv_aload_n hx hb dX1_init_28 rfl (lv_at hl 0 rfl) ?_
  refine lv_aload_n hx hb dX1_init_29 rfl (lv_at hl 1 rfl) ?_
  refine va_putF (v := .ref (hT 0)) (ty := .object "NightPlots$Told") hx hb hts hi1 tyX1 tyX1_ok nmX1 hown hK hP hD hS 0 rfl rfl 0 (by decide) (hts (.fieldLink RX1 21 "NightPlots$Standing" "told" "LNightPlots$Told;") (List.mem_of_getElem? (i := 8) rfl)) (fun _ h9 => h9) rfl hin rfl (by decide +kernel) rfl rfl (Nat.le_of_ble_eq_true rfl) dX1_init_30 (fun H locs hP hD hS => ?_)
  have hP : va_P D vwCl ([(h0, .inr (1, [.ref (hT 0), .ref q7, .ref q15, .ref q23, .int 0, .int 0, .int 0, .int 0, .int 0]))] ++ cTold Y hT tT ++ [(q7, .inl (Y 0, 8, .inl (fun _ => 0))), (q15, .inl (Y 0, 8, .inl (fun _ => 0))), (q23, .inl (Y 0, 8, .inl (fun _ => 0)))] : va_W) H := hP
  have hD : va_D A ([(h0, .inr (1, [.ref (hT 0), .ref q7, .ref q15, .ref q23, .int 0, .int 0, .int 0, .int 0, .int 0]))] ++ cTold Y hT tT ++ [(q7, .inl (Y 0, 8, .inl (fun _ => 0))), (q15, .inl (Y 0, 8, .inl (fun _ => 0))), (q23, .inl (Y 0, 8, .inl (fun _ => 0)))] : va_W) := hD
  refine lv_aload_n hx hb dX1_init_33 rfl (lv_at hl 0 rfl) ?_
  have hP : va_P D vwCl (cStand Y (adr [h0, q7, q15]) (hT 0) q23 zg ++ cRow Y q23 8 (fun _ => 0) ++ cTold Y hT tT) H := P_pick hP [0, 9, 10, 11, 1, 2, 3, 4, 5, 6, 7, 8] (pc_map (pc_cons rfl (pc_cons rfl (pc_cons rfl (pc_cons rfl (pc_cons rfl (pc_cons rfl (pc_cons rfl (pc_cons rfl (pc_cons rfl (pc_cons rfl (pc_cons rfl (pc_cons rfl pc_nil)))))))))))))
  have hD : va_D A (cStand Y (adr [h0, q7, q15]) (hT 0) q23 zg ++ cRow Y q23 8 (fun _ => 0) ++ cTold Y hT tT) := hD.sub [0, 9, 10, 11, 1, 2, 3, 4, 5, 6, 7, 8] (by decide) (pc_map (pc_cons rfl (pc_cons rfl (pc_cons rfl (pc_cons rfl (pc_cons rfl (pc_cons rfl (pc_cons rfl (pc_cons rfl (pc_cons rfl (pc_cons rfl (pc_cons rfl (pc_cons rfl pc_nil)))))))))))))
  refine cm_v (w2 := (cStand Y (adr [h0, q7, q15]) (hT 0) q23 g1 ++ cRow Y q23 8 (fun _ => 0) ++ cTold Y hT tT)) (va_runV (As := []) (rest := []) ⟨hx, hb, hml, hown, hts⟩ (ctX1_startAsTold l D Y (adr [h0, q7, q15]) hT q23 H.size zg tT g1 hM) (cwV 0 hts gX1_init_X1_startAsTold rfl rfl rfl (by decide +kernel) ⟨Nat.le_of_ble_eq_true rfl, Nat.le_of_ble_eq_true rfl⟩) (pcW_V (ci := 1) (q0 := 0) hK hP hD [0, 1, 2, 4, 5, 6, 7, 8, 9, 10, 11] rfl (pc_map (pc_cons rfl (pc_cons rfl (pc_cons rfl (pc_cons rfl (pc_cons rfl (pc_cons rfl (pc_cons rfl (pc_cons rfl (pc_cons rfl (pc_cons rfl (pc_cons rfl pc_nil)))))))))))) rfl rfl) rfl rfl hl.1 rfl (lv_room (Nat.le_of_ble_eq_true rfl)) dX1_init_34 ⟨Nat.le_of_ble_eq_true rfl, Nat.le_of_ble_eq_true rfl⟩) hP hD hS hA [0, 1, 2, 4, 5, 6, 7, 8, 9, 10, 11] (pc_map (pc_cons rfl (pc_cons rfl (pc_cons rfl (pc_cons rfl (pc_cons rfl (pc_cons rfl (pc_cons rfl (pc_cons rfl (pc_cons rfl (pc_cons rfl (pc_cons rfl pc_nil)))))))))))) (up_new 0 rfl (up_new 1 rfl (up_new 2 rfl (up_old rfl rfl (up_new 3 rfl (up_new 4 rfl (up_new 5 rfl (up_new 6 rfl (up_new 7 rfl (up_new 8 rfl (up_new 9 rfl (up_new 10 rfl up_nil)))))))))))) (fun H locs hP hS => ?_)
  have hD : va_D A (cStand Y (adr [h0, q7, q15]) (hT 0) q23 g1 ++ cRow Y q23 8 (fun _ => 0) ++ cTold Y hT tT) := hD.same rfl
  exact W.vret hx hb hr (fun t ht hW => ⟨⟨(adr [h0, q7, q15, q23]), rfl, rfl, by show va_P D vwCl _ t.heap; rw [ht]; exact hP, hD⟩, hS.F ht⟩) hS.2.2 dX1_init_37
def va_AOI (U : State) : Prop := (Cond.arrayOver (.array .int)).before #[] U = true
theorem va_AOI.of {A : Array Value} {U : State} (h : (Cond.arrayOver (.array .int)).before A U = true) : va_AOI U := h
theorem va_AOI.use {A : Array Value} {U : State} (h : va_AOI U) : (Cond.arrayOver (.array .int)).before A U = true := h
theorem va_AOI.moved {u U : State} (hvm : u.vm.Alike U.vm) (h : va_AOI u) : va_AOI U := by
  exact Jvm.Stand.arrayOver_alikeB (s := u) hvm h
theorem pcA_S {s : State} {H : Heap} {av As : List Value} {sz : Nat} {D : va_G} {Y : Nat → ClassId} {ws : va_W} (hN : va_AOI s) (h : PreS s H (pcW av sz D Y ws) As) : PreS s H (fun a U => pcW av sz D Y ws a U ∧ va_AOI U) As := ⟨fun a U g mk q => ⟨h.1 a U g mk q.1, va_AOI.moved (u := U) (U := U.calling g mk a) (Vm.Alike.refl U.vm) q.2⟩, fun U hU hW => ⟨h.2 U hU hW, hN.moved hW.alike⟩⟩
def pcA (av : List Value) (sz : Nat) (D : va_G) (Y : Nat → ClassId) (ws : va_W) : Array Value → State → Prop := fun a U => pcW av sz D Y ws a U ∧ va_AOI U
abbrev rmX0_init : Room := { frames := 2, cells := 8, slots := 4150, locals := 80 }
set_option maxHeartbeats 8000000 in
set_option maxRecDepth 100000 in
theorem ctX0_init (l : Launch) (D : va_G) (Y : Nat → ClassId) (h0 uS sz : Nat) : Met l yX0_init wsX0_init rmX0_init (pcA [.ref h0, .ref uS] sz D Y ([(h0, .inr (0, [.null, .null, .null, .int 0, .int 0, .int 0]))] : va_W)) (qnW D (fun u => cSearch Y u uS zg (fun _ => 0)) h0 (va_A ([(h0, .inr (0, [.null, .null, .null, .int 0, .int 0, .int 0]))] : va_W) sz)) 8 4150 (va_A ([(h0, .inr (0, [.null, .null, .null, .int 0, .int 0, .int 0]))] : va_W) sz) := by
  refine Met.ofW (cc := cX0_init) (maxL := 2) (ret := none) (by decide) rfl ?_
  intro p e s m args below meth c s₁ B hml hv
  obtain ⟨⟨rfl, hsz, hP, hK, hD0⟩, hAO⟩ := hv
  have hx := B.exec
  have hb := B.bytes
  have hr := B.returns
  have hts := atoms_spec (ws := wsX0_init) B.pre
  have hown : s.vm.findClass RX0 = some m.cls := findClass_of_methodNamed B.named
  have hlocks := B.notSynchronized
  have hin : meth.name = "<init>" := (name_of_methodNamed B.named B.method).1
  subst hsz
  have hD := hD0.self (sz := s.heap.size)
  generalize hAe : va_A ([(h0, .inr (0, [.null, .null, .null, .int 0, .int 0, .int 0]))] : va_W) s.heap.size = A at hD ⊢
  have hA : ∀ q : Nat, s.heap.size ≤ q → A q := fun q h => by rw [← hAe]; exact Or.inr h
  have hS : va_S A s.heap s.heap [] := va_S.rf
  have hl := lv_entry ([.ref h0, .ref uS]) (n := 2) (Nat.le_of_ble_eq_true rfl)
  rw [lg_entry_eq]
  generalize (lg_sl ([.ref h0, .ref uS]) ++ List.replicate (2 - (lg_sl ([.ref h0, .ref uS])).length) Slot.unset).toArray = ls at hl ⊢
  have hl : lv_has ls 2 [(0, .ref h0), (1, .ref uS)] := hl
  have hi0 : ∀ w ∈ wsX00, w ∈ wsX0_init := fun w h => List.mem_cons_of_mem _ (List.mem_append_right _ h)
  suffices hI : ∀ (H : Heap) (locs : List Loc), va_P D vwCl ([(h0, .inr (0, [.null, .null, .null, .int 0, .int 0, .int 0]))] : va_W) H → va_S A s.heap H locs → W p l e (headSpec wsX0_init rmX0_init).room s m ([.ref h0, .ref uS] : List Value).toArray below meth c H locs 0 0 (MQ below (qnW D (fun u => cSearch Y u uS zg (fun _ => 0)) h0 A) ([.ref h0, .ref uS] : List Value).toArray s 8 4150 A) (F0 m 0 ls []) from hI _ _ hP hS
  clear hP hS
  intro H locs hP hS
  refine lv_aload_n hx hb dX0_init_0 rfl (lv_at hl 0 rfl) ?_
  refine W.objInit hx hb hown (hts (.methodLink RX0 3 objectInit) (List.mem_of_getElem? (i := 1) rfl)) (hts (.instanceMethod objectInit) (List.mem_of_getElem? (i := 2) rfl)) (hts (.code objectInit ⟨#[0xb1]⟩ 1 none) (List.mem_of_getElem? (i := 3) rfl)) rfl (by rw [hml]; exact hl.1) rfl dX0_init_1 (Nat.le_of_ble_eq_true rfl) (Nat.le_of_ble_eq_true rfl) ?_
  refine W.eq (g2 := F0 m 4 ls []) rfl ?_
  refine lv_aload_n hx hb dX0_init_4 rfl (lv_at hl 0 rfl) ?_
  refine lv_bipush (v := (6 : Int32)) hx hb dX0_init_5 (by decide) ?_
  refine lv_bipush (v := (8 : Int32)) hx hb dX0_init_7 (by decide) ?_
  refine nw_grid hx hb hown (hts (.classLink RX0 9 "[[I") (List.mem_of_getElem? (i := 4) rfl)) hAO.use (hts (.arrayClass .int) (List.mem_of_getElem? (i := 5) rfl)) hK hP hD hS hA (Nat.le_of_ble_eq_true rfl) (Nat.le_of_ble_eq_true rfl) dX0_init_9 (fun q r H hP hD hS => ?_)
  have hP : va_P D vwCl ([(h0, .inr (0, [.null, .null, .null, .int 0, .int 0, .int 0])), (q, .inl (Y 4, 6, .inr (.inr (.inr (.inr (fun i => if i < 6 then some (r i) else none)))))), (r 0, .inl (Y 0, 8, .inl (fun _ => 0))), (r 1, .inl (Y 0, 8, .inl (fun _ => 0))), (r 2, .inl (Y 0, 8, .inl (fun _ => 0))), (r 3, .inl (Y 0, 8, .inl (fun _ => 0))), (r 4, .inl (Y 0, 8, .inl (fun _ => 0))), (r 5, .inl (Y 0, 8, .inl (fun _ => 0)))] : va_W) H := hP
  have hD : va_D A ([(h0, .inr (0, [.null, .null, .null, .int 0, .int 0, .int 0])), (q, .inl (Y 4, 6, .inr (.inr (.inr (.inr (fun i => if i < 6 then some (r i) else none)))))), (r 0, .inl (Y 0, 8, .inl (fun _ => 0))), (r 1, .inl (Y 0, 8, .inl (fun _ => 0))), (r 2, .inl (Y 0, 8, .inl (fun _ => 0))), (r 3, .inl (Y 0, 8, .inl (fun _ => 0))), (r 4, .inl (Y 0, 8, .inl (fun _ => 0))), (r 5, .inl (Y 0, 8, .inl (fun _ => 0)))] : va_W) := hD
  refine W.widen (k := 7) (n := 54) (Nat.le_of_ble_eq_true rfl) (Nat.le_of_ble_eq_true rfl) ?_
  refine va_putF (v := .ref q) (ty := .array (.array .int)) hx hb hts hi0 tyX0 tyX0_ok nmX0 hown hK hP hD hS 0 rfl rfl 1 (by decide) (hts (.fieldLink RX0 11 "NightPlots$Search" "ways" "[[I") (List.mem_of_getElem? (i := 6) rfl)) (fun _ h9 => h9) rfl hin rfl (by decide +kernel) rfl rfl (Nat.le_of_ble_eq_true rfl) dX0_init_13 (fun H locs hP hD hS => ?_)
  have hP : va_P D vwCl ([(h0, .inr (0, [.null, .ref q, .null, .int 0, .int 0, .int 0])), (q, .inl (Y 4, 6, .inr (.inr (.inr (.inr (fun i => if i < 6 then some (r i) else none)))))), (r 0, .inl (Y 0, 8, .inl (fun _ => 0))), (r 1, .inl (Y 0, 8, .inl (fun _ => 0))), (r 2, .inl (Y 0, 8, .inl (fun _ => 0))), (r 3, .inl (Y 0, 8, .inl (fun _ => 0))), (r 4, .inl (Y 0, 8, .inl (fun _ => 0))), (r 5, .inl (Y 0, 8, .inl (fun _ => 0)))] : va_W) H := hP
  have hD : va_D A ([(h0, .inr (0, [.null, .ref q, .null, .int 0, .int 0, .int 0])), (q, .inl (Y 4, 6, .inr (.inr (.inr (.inr (fun i => if i < 6 then some (r i) else none)))))), (r 0, .inl (Y 0, 8, .inl (fun _ => 0))), (r 1, .inl (Y 0, 8, .inl (fun _ => 0))), (r 2, .inl (Y 0, 8, .inl (fun _ => 0))), (r 3, .inl (Y 0, 8, .inl (fun _ => 0))), (r 4, .inl (Y 0, 8, .inl (fun _ => 0))), (r 5, .inl (Y 0, 8, .inl (fun _ => 0)))] : va_W) := hD
  refine lv_aload_n hx hb dX0_init_16 rfl (lv_at hl 0 rfl) ?_
  refine lv_sipush (v := (4096 : Int32)) hx hb dX0_init_17 (by decide) ?_
  refine nw_j hx hb (hts (.arrayClass .long) (List.mem_of_getElem? (i := 7) rfl)) hK hP hD hS hA (by decide) (N' := 4096) (by decide) (by decide) (Nat.le_of_ble_eq_true rfl) (Nat.le_of_ble_eq_true rfl) dX0_init_20 (fun qd H hP hD hS => ?_)
  have hP : va_P D vwCl ([(h0, .inr (0, [.null, .ref q, .null, .int 0, .int 0, .int 0])), (q, .inl (Y 4, 6, .inr (.inr (.inr (.inr (fun i => if i < 6 then some (r i) else none)))))), (r 0, .inl (Y 0, 8, .inl (fun _ => 0))), (r 1, .inl (Y 0, 8, .inl (fun _ => 0))), (r 2, .inl (Y 0, 8, .inl (fun _ => 0))), (r 3, .inl (Y 0, 8, .inl (fun _ => 0))), (r 4, .inl (Y 0, 8, .inl (fun _ => 0))), (r 5, .inl (Y 0, 8, .inl (fun _ => 0))), (qd, .inl (Y 1, 4096, .inr (.inl (fun _ => 0))))] : va_W) H := hP
  have hD : va_D A ([(h0, .inr (0, [.null, .ref q, .null, .int 0, .int 0, .int 0])), (q, .inl (Y 4, 6, .inr (.inr (.inr (.inr (fun i => if i < 6 then some (r i) else none)))))), (r 0, .inl (Y 0, 8, .inl (fun _ => 0))), (r 1, .inl (Y 0, 8, .inl (fun _ => 0))), (r 2, .inl (Y 0, 8, .inl (fun _ => 0))), (r 3, .inl (Y 0, 8, .inl (fun _ => 0))), (r 4, .inl (Y 0, 8, .inl (fun _ => 0))), (r 5, .inl (Y 0, 8, .inl (fun _ => 0))), (qd, .inl (Y 1, 4096, .inr (.inl (fun _ => 0))))] : va_W) := hD
  refine W.widen (k := 8) (n := 4150) (Nat.le_of_ble_eq_true rfl) (Nat.le_of_ble_eq_true rfl) ?_
  refine va_putF (v := .ref qd) (ty := .array .long) hx hb hts hi0 tyX0 tyX0_ok nmX0 hown hK hP hD hS 0 rfl rfl 2 (by decide) (hts (.fieldLink RX0 16 "NightPlots$Search" "deadEnds" "[J") (List.mem_of_getElem? (i := 8) rfl)) (fun _ h9 => h9) rfl hin rfl (by decide +kernel) rfl rfl (Nat.le_of_ble_eq_true rfl) dX0_init_22 (fun H locs hP hD hS => ?_)
  have hP : va_P D vwCl ([(h0, .inr (0, [.null, .ref q, .ref qd, .int 0, .int 0, .int 0])), (q, .inl (Y 4, 6, .inr (.inr (.inr (.inr (fun i => if i < 6 then some (r i) else none)))))), (r 0, .inl (Y 0, 8, .inl (fun _ => 0))), (r 1, .inl (Y 0, 8, .inl (fun _ => 0))), (r 2, .inl (Y 0, 8, .inl (fun _ => 0))), (r 3, .inl (Y 0, 8, .inl (fun _ => 0))), (r 4, .inl (Y 0, 8, .inl (fun _ => 0))), (r 5, .inl (Y 0, 8, .inl (fun _ => 0))), (qd, .inl (Y 1, 4096, .inr (.inl (fun _ => 0))))] : va_W) H := hP
  have hD : va_D A ([(h0, .inr (0, [.null, .ref q, .ref qd, .int 0, .int 0, .int 0])), (q, .inl (Y 4, 6, .inr (.inr (.inr (.inr (fun i => if i < 6 then some (r i) else none)))))), (r 0, .inl (Y 0, 8, .inl (fun _ => 0))), (r 1, .inl (Y 0, 8, .inl (fun _ => 0))), (r 2, .inl (Y 0, 8, .inl (fun _ => 0))), (r 3, .inl (Y 0, 8, .inl (fun _ => 0))), (r 4, .inl (Y 0, 8, .inl (fun _ => 0))), (r 5, .inl (Y 0, 8, .inl (fun _ => 0))), (qd, .inl (Y 1, 4096, .inr (.inl (fun _ => 0))))] : va_W) := hD
  refine lv_aload_n hx hb dX0_init_25 rfl (lv_at hl 0 rfl) ?_
  refine lv_aload_n hx hb dX0_init_26 rfl (lv_at hl 1 rfl) ?_
  refine va_putF (v := .ref uS) (ty := .object "NightPlots$Standing") hx hb hts hi0 tyX0 tyX0_ok nmX0 hown hK hP hD hS 0 rfl rfl 0 (by decide) (hts (.fieldLink RX0 20 "NightPlots$Search" "standing" "LNightPlots$Standing;") (List.mem_of_getElem? (i := 9) rfl)) (fun _ h9 => h9) rfl hin rfl (by decide +kernel) rfl rfl (Nat.le_of_ble_eq_true rfl) dX0_init_27 (fun H locs hP hD hS => ?_)
  have hP : va_P D vwCl ([(h0, .inr (0, [.ref uS, .ref q, .ref qd, .int 0, .int 0, .int 0])), (q, .inl (Y 4, 6, .inr (.inr (.inr (.inr (fun i => if i < 6 then some (r i) else none)))))), (r 0, .inl (Y 0, 8, .inl (fun _ => 0))), (r 1, .inl (Y 0, 8, .inl (fun _ => 0))), (r 2, .inl (Y 0, 8, .inl (fun _ => 0))), (r 3, .inl (Y 0, 8, .inl (fun _ => 0))), (r 4, .inl (Y 0, 8, .inl (fun _ => 0))), (r 5, .inl (Y 0, 8, .inl (fun _ => 0))), (qd, .inl (Y 1, 4096, .inr (.inl (fun _ => 0))))] : va_W) H := hP
  have hD : va_D A ([(h0, .inr (0, [.ref uS, .ref q, .ref qd, .int 0, .int 0, .int 0])), (q, .inl (Y 4, 6, .inr (.inr (.inr (.inr (fun i => if i < 6 then some (r i) else none)))))), (r 0, .inl (Y 0, 8, .inl (fun _ => 0))), (r 1, .inl (Y 0, 8, .inl (fun _ => 0))), (r 2, .inl (Y 0, 8, .inl (fun _ => 0))), (r 3, .inl (Y 0, 8, .inl (fun _ => 0))), (r 4, .inl (Y 0, 8, .inl (fun _ => 0))), (r 5, .inl (Y 0, 8, .inl (fun _ => 0))), (qd, .inl (Y 1, 4096, .inr (.inl (fun _ => 0))))] : va_W) := hD
  obtain ⟨u, hu⟩ : ∃ u : Nat → Nat, u = fun i => if i = 0 then h0 else if i = 1 then q else if i = 2 then qd else r (i - 3) := ⟨_, rfl⟩
  have he : ∀ i, u (3 + i) = r i := by
    intro i
    rw [hu]
    show (if 3 + i = 0 then h0 else if 3 + i = 1 then q else if 3 + i = 2 then qd else r (3 + i - 3)) = r i
    rw [if_neg (show ¬ 3 + i = 0 by omega), if_neg (show ¬ 3 + i = 1 by omega), if_neg (show ¬ 3 + i = 2 by omega), Nat.add_sub_cancel_left]
  have hf : (fun i => if i < 6 then some (r i) else none) = fun i => if i < 6 then some (u (3 + i)) else none := funext fun i => by rw [he i]
  rw [hf] at hP hD
  have hP : va_P D vwCl (cSearch Y u uS zg (fun _ => 0)) H := by rw [hu] at hP ⊢; exact P_pick hP [0, 1, 8, 2, 3, 4, 5, 6, 7] (pc_map (pc_cons rfl (pc_cons rfl (pc_cons rfl (pc_cons rfl (pc_cons rfl (pc_cons rfl (pc_cons rfl (pc_cons rfl (pc_cons rfl pc_nil))))))))))
  have hD : va_D A (cSearch Y u uS zg (fun _ => 0)) := by rw [hu] at hD ⊢; exact hD.sub [0, 1, 8, 2, 3, 4, 5, 6, 7] (by decide) (pc_map (pc_cons rfl (pc_cons rfl (pc_cons rfl (pc_cons rfl (pc_cons rfl (pc_cons rfl (pc_cons rfl (pc_cons rfl (pc_cons rfl pc_nil))))))))))
  exact W.vret hx hb hr (fun t ht hW => ⟨⟨u, rfl, by rw [hu]; rfl, by show va_P D vwCl _ t.heap; rw [ht]; exact hP, hD⟩, hS.F ht⟩) hS.2.2 dX0_init_30
