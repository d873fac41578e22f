noncomputable def MX1_startAsTold (gS : GS) (tT : GS) : Option (GS) := chkC (0 : Int32) (0 : Int32) (8 : Int32) 8 8 (nm (upA gS 1 (va_cpy (tT 3) (gS 1) (0 : Int32).toNatClampNeg (0 : Int32).toNatClampNeg (8 : Int32).toNatClampNeg)) fun (gS_2 : GS) => bnd1 (MJ7_fill_53178 (8) (gS_2 2) (0 : Int32)) fun (fR_3 : Nat → Int32) => nm (upA gS_2 2 fR_3) fun (gS_5 : GS) => nm (tT 0 6) fun (x6 : Int32) => nm (up2 gS_5 0 4 x6) fun (gS_7 : GS) => nm (up2 gS_7 0 5 (0 : Int32)) fun (gS_8 : GS) => nm (up2 gS_8 0 6 (0 : Int32)) fun (gS_9 : GS) => nm (tT 0 5) fun (x10 : Int32) => nm (up2 gS_9 0 7 x10) fun (gS_11 : GS) => nm (up2 gS_11 0 8 (0 : Int32)) fun (gS_12 : GS) => some (gS_12))
abbrev rmX1_startAsTold : Room := { frames := 2, cells := 0, slots := 0, locals := 80 }
set_option maxHeartbeats 4000000 in
set_option maxRecDepth 100000 in
theorem ctX1_startAsTold (l : Launch) (D : va_G) (Y : Nat → ClassId) (aS : Nat → Nat) (hT : Nat → Nat) (vS : Nat) (sz : Nat) (gS : GS) (tT : GS) (gSz : GS) (hM : MX1_startAsTold gS tT = some (gSz)) : Met l yX1_startAsTold wsX1_startAsTold rmX1_startAsTold (pcW [.ref (aS 0)] sz D Y (cStand Y aS (hT 0) vS gS ++ cTold Y hT tT)) (qvW D (cStand Y aS (hT 0) vS gSz ++ cTold Y hT tT) (va_A (cStand Y aS (hT 0) vS gS ++ cTold Y hT tT) sz)) 0 0 (va_A (cStand Y aS (hT 0) vS gS ++ cTold Y hT tT) sz) := by
  refine Met.ofW (cc := cX1_startAsTold) (maxL := 1) (ret := (none)) (by decide) rfl ?_
  intro p e s m args below meth c s₁ B hml hv
  obtain ⟨rfl, hsz, hP, hK, hD0⟩ := hv
  have hx := B.exec
  have hb := B.bytes
  have hr := B.returns
  have hts := atoms_spec (ws := wsX1_startAsTold) B.pre
  have hown : s.vm.findClass RX1 = some m.cls := findClass_of_methodNamed B.named
  have hlocks := B.notSynchronized
  subst hsz
  have hD := hD0.self (sz := s.heap.size)
  generalize hAe : va_A (cStand Y aS (hT 0) vS gS ++ cTold Y hT tT) s.heap.size = A at hD ⊢
  have hA : ∀ q : Nat, s.heap.size ≤ q → A q := fun q h => by rw [← hAe]; exact Or.inr h
  have hS : va_S A s.heap s.heap [] := va_S.rf
  have hi1 : ∀ w ∈ wsX10, w ∈ wsX1_startAsTold := fun w h => List.mem_cons_of_mem _ (List.mem_append_left _ (List.mem_append_right _ h))
  have hi3 : ∀ w ∈ wsX30, w ∈ wsX1_startAsTold := fun w h => List.mem_cons_of_mem _ (List.mem_append_right _ h)
  have hl := lv_entry ([.ref (aS 0)]) (n := 1) (Nat.le_of_ble_eq_true rfl)
  rw [lg_entry_eq]
  generalize (lg_sl ([.ref (aS 0)]) ++ List.replicate (1 - (lg_sl ([.ref (aS 0)])).length) Slot.unset).toArray = ls at hl ⊢
  have hl : lv_has ls 1 [(0, .ref (aS 0))] := hl
  obtain ⟨QQ, hQQ⟩ : ∃ Q : State → Prop, Q = MQ below (qvW D (cStand Y aS (hT 0) vS gSz ++ cTold Y hT tT) A) ([.ref (aS 0)] : List Value).toArray s 0 0 A := ⟨_, rfl⟩
  rw [← hQQ]
  unfold MX1_startAsTold at hM
  suffices hI : ∀ (H : Heap) (locs : List Loc), va_P D vwCl (cStand Y aS (hT 0) vS gS ++ cTold Y hT tT) H → va_S A s.heap H locs → W p l e (headSpec wsX1_startAsTold rmX1_startAsTold).room s m ([.ref (aS 0)] : List Value).toArray below meth c H locs 0 0 QQ (F0 m 0 ls []) from hI _ _ hP hS
  clear hP hS
  intro H locs hP hS
  refine lv_aload_n hx hb dX1_startAsTold_0 rfl (lv_at hl 0 rfl) ?_
  refine va_get hx hb hts hi1 hown hK hP 0 rfl rfl 0 (by decide) (hts (.fieldLink RX1 21 "NightPlots$Standing" "told" "LNightPlots$Told;") (List.mem_of_getElem? (i := 1) rfl)) (fun _ h9 => h9) rfl dX1_startAsTold_1 ?_
  refine va_get hx hb hts hi3 hown hK hP 3 rfl rfl 9 (by decide) (hts (.fieldLink RX1 28 "NightPlots$Told" "place" "[I") (List.mem_of_getElem? (i := 2) rfl)) (fun _ h9 => h9) rfl dX1_startAsTold_4 ?_
  refine lv_iconst (v := (0 : Int32)) hx hb dX1_startAsTold_7 (by decide) ?_
  refine lv_aload_n hx hb dX1_startAsTold_8 rfl (lv_at hl 0 rfl) ?_
  refine va_get hx hb hts hi1 hown hK hP 0 rfl rfl 1 (by decide) (hts (.fieldLink RX1 9 "NightPlots$Standing" "place" "[I") (List.mem_of_getElem? (i := 3) rfl)) (fun _ h9 => h9) rfl dX1_startAsTold_9 ?_
  refine lv_iconst (v := (0 : Int32)) hx hb dX1_startAsTold_12 (by decide) ?_
  refine lv_bipush (v := (8 : Int32)) hx hb dX1_startAsTold_13 (by decide) ?_
  obtain ⟨hc11, hc12, hc13, hc14, hc15, hM⟩ := chkC_at hM
  refine va_copyi hx hb (hml.trans hl.1.symm) hown (hts (.methodLink RX1 31 arraycopyName) (List.mem_of_getElem? (i := 4) rfl)) (hts (.native arraycopyName) (List.mem_of_getElem? (i := 5) rfl)) (hts (.static arraycopyName) (List.mem_of_getElem? (i := 6) rfl)) (hts (.initialized "java/lang/System") (List.mem_of_getElem? (i := 7) rfl)) hK hP (hD.same rfl) hS 6 1 0 0 rfl rfl rfl rfl rfl hc11 hc12 hc13 hc14 hc15 (fun _ _ => rfl) (Nat.le_of_ble_eq_true rfl) (Nat.le_of_ble_eq_true rfl) dX1_startAsTold_15 (fun H locs hP _ hS => ?_)
  obtain ⟨gS_2, egS_2⟩ : ∃ z : GS, z = (upA gS 1 (va_cpy (tT 3) (gS 1) (0 : Int32).toNatClampNeg (0 : Int32).toNatClampNeg (8 : Int32).toNatClampNeg)) := ⟨_, rfl⟩
  have hP : va_P D vwCl (cStand Y aS (hT 0) vS gS_2 ++ cTold Y hT tT) H := by rw [egS_2]; exact hP
  replace hM := nm_at hM egS_2
  refine lv_aload_n hx hb dX1_startAsTold_18 rfl (lv_at hl 0 rfl) ?_
  refine va_get hx hb hts hi1 hown hK hP 0 rfl rfl 2 (by decide) (hts (.fieldLink RX1 15 "NightPlots$Standing" "rolled" "[I") (List.mem_of_getElem? (i := 8) rfl)) (fun _ h9 => h9) rfl dX1_startAsTold_19 ?_
  refine lv_iconst (v := (0 : Int32)) hx hb dX1_startAsTold_22 (by decide) ?_
  obtain ⟨fR_3, hc4, hM⟩ := bnd1_at hM
  refine cm_v (w2 := (cStand Y aS (hT 0) vS (upA gS_2 2 fR_3) ++ cTold Y hT tT)) (va_runS (As := [.ref (aS 2), .int (0 : Int32)]) (rest := []) ⟨hx, hb, hml, hown, hts⟩ (ctJ7_fill_53178 l D Y (aS 2) (8) H.size (gS_2 2) (0 : Int32) fR_3 hc4) ⟨callB_of 2 hts ggX1_startAsTold_J7_fill_53178 rfl rfl rfl (hts (.initialized RJ7) (List.mem_of_getElem? (i := 18) rfl)) (hts (.methodLink RX1 37 yJ7_fill_53178) (List.mem_of_getElem? (i := 16) rfl)) (by decide +kernel) ⟨Nat.le_of_ble_eq_true rfl, Nat.le_of_ble_eq_true rfl⟩, (hts (.static yJ7_fill_53178) (List.mem_of_getElem? (i := 17) rfl))⟩ (pcW_S hK hP (hD.same rfl) [2] rfl (pc_map (pc_cons rfl pc_nil))) rfl rfl hl.1 rfl (lv_room (Nat.le_of_ble_eq_true rfl)) dX1_startAsTold_23 ⟨Nat.zero_le _, Nat.zero_le _⟩) hP (hD.same rfl) hS hA [2] (pc_map (pc_cons rfl pc_nil)) (up_old rfl rfl (up_old rfl rfl (up_new 0 rfl (up_old rfl rfl (up_old rfl rfl (up_old rfl rfl (up_old rfl rfl (up_old rfl rfl (up_old rfl rfl (up_old rfl rfl (up_old rfl rfl up_nil))))))))))) (fun H locs hP hS => ?_)
  obtain ⟨gS_5, egS_5⟩ : ∃ z : GS, z = (upA gS_2 2 fR_3) := ⟨_, rfl⟩
  have hP : va_P D vwCl (cStand Y aS (hT 0) vS gS_5 ++ cTold Y hT tT) H := by rw [egS_5]; exact hP
  replace hM := nm_at hM egS_5
  refine lv_aload_n hx hb dX1_startAsTold_26 rfl (lv_at hl 0 rfl) ?_
  refine lv_aload_n hx hb dX1_startAsTold_27 rfl (lv_at hl 0 rfl) ?_
  refine va_get hx hb hts hi1 hown hK hP 0 rfl rfl 0 (by decide) (hts (.fieldLink RX1 21 "NightPlots$Standing" "told" "LNightPlots$Told;") (List.mem_of_getElem? (i := 1) rfl)) (fun _ h9 => h9) rfl dX1_startAsTold_28 ?_
  refine va_get hx hb hts hi3 hown hK hP 3 rfl rfl 6 (by decide) (hts (.fieldLink RX1 43 "NightPlots$Told" "taken" "I") (List.mem_of_getElem? (i := 9) rfl)) (fun _ h9 => h9) rfl dX1_startAsTold_31 ?_
  refine lv_topi (fun x6 ex6 => ?_)
  replace hM := nm_at hM ex6
  refine va_put (ty := .int) hx hb hts hi1 tyX1 tyX1_ok nmX1 hown hK hP (hD.same rfl) hS 0 rfl rfl 4 (by decide) (hts (.fieldLink RX1 47 "NightPlots$Standing" "taken" "I") (List.mem_of_getElem? (i := 10) rfl)) (fun _ h9 => h9) rfl (by decide +kernel) rfl rfl (Nat.le_of_ble_eq_true rfl) dX1_startAsTold_34 (fun H locs hP _ hS => ?_)
  obtain ⟨gS_7, egS_7⟩ : ∃ z : GS, z = (up2 gS_5 0 4 x6) := ⟨_, rfl⟩
  have hP : va_P D vwCl (cStand Y aS (hT 0) vS gS_7 ++ cTold Y hT tT) H := by rw [egS_7]; exact hP
  replace hM := nm_at hM egS_7
  refine lv_aload_n hx hb dX1_startAsTold_37 rfl (lv_at hl 0 rfl) ?_
  refine lv_iconst (v := (0 : Int32)) hx hb dX1_startAsTold_38 (by decide) ?_
  refine va_put (ty := .int) hx hb hts hi1 tyX1 tyX1_ok nmX1 hown hK hP (hD.same rfl) hS 0 rfl rfl 5 (by decide) (hts (.fieldLink RX1 48 "NightPlots$Standing" "nights" "I") (List.mem_of_getElem? (i := 11) rfl)) (fun _ h9 => h9) rfl (by decide +kernel) rfl rfl (Nat.le_of_ble_eq_true rfl) dX1_startAsTold_39 (fun H locs hP _ hS => ?_)
  obtain ⟨gS_8, egS_8⟩ : ∃ z : GS, z = (up2 gS_7 0 5 (0 : Int32)) := ⟨_, rfl⟩
  have hP : va_P D vwCl (cStand Y aS (hT 0) vS gS_8 ++ cTold Y hT tT) H := by rw [egS_8]; exact hP
  replace hM := nm_at hM egS_8
  refine lv_aload_n hx hb dX1_startAsTold_42 rfl (lv_at hl 0 rfl) ?_
  refine lv_iconst (v := (0 : Int32)) hx hb dX1_startAsTold_43 (by decide) ?_
  refine va_put (ty := .int) hx hb hts hi1 tyX1 tyX1_ok nmX1 hown hK hP (hD.same rfl) hS 0 rfl rfl 6 (by decide) (hts (.fieldLink RX1 51 "NightPlots$Standing" "turn" "I") (List.mem_of_getElem? (i := 12) rfl)) (fun _ h9 => h9) rfl (by decide +kernel) rfl rfl (Nat.le_of_ble_eq_true rfl) dX1_startAsTold_44 (fun H locs hP _ hS => ?_)
  obtain ⟨gS_9, egS_9⟩ : ∃ z : GS, z = (up2 gS_8 0 6 (0 : Int32)) := ⟨_, rfl⟩
  have hP : va_P D vwCl (cStand Y aS (hT 0) vS gS_9 ++ cTold Y hT tT) H := by rw [egS_9]; exact hP
  replace hM := nm_at hM egS_9
  refine lv_aload_n hx hb dX1_startAsTold_47 rfl (lv_at hl 0 rfl) ?_
  refine lv_aload_n hx hb dX1_startAsTold_48 rfl (lv_at hl 0 rfl) ?_
  refine va_get hx hb hts hi1 hown hK hP 0 rfl rfl 0 (by decide) (hts (.fieldLink RX1 21 "NightPlots$Standing" "told" "LNightPlots$Told;") (List.mem_of_getElem? (i := 1) rfl)) (fun _ h9 => h9) rfl dX1_startAsTold_49 ?_
  refine va_get hx hb hts hi3 hown hK hP 3 rfl rfl 5 (by decide) (hts (.fieldLink RX1 54 "NightPlots$Told" "seed" "I") (List.mem_of_getElem? (i := 13) rfl)) (fun _ h9 => h9) rfl dX1_startAsTold_52 ?_
  refine lv_topi (fun x10 ex10 => ?_)
  replace hM := nm_at hM ex10
  refine va_put (ty := .int) hx hb hts hi1 tyX1 tyX1_ok nmX1 hown hK hP (hD.same rfl) hS 0 rfl rfl 7 (by decide) (hts (.fieldLink RX1 57 "NightPlots$Standing" "x" "I") (List.mem_of_getElem? (i := 14) rfl)) (fun _ h9 => h9) rfl (by decide +kernel) rfl rfl (Nat.le_of_ble_eq_true rfl) dX1_startAsTold_55 (fun H locs hP _ hS => ?_)
  obtain ⟨gS_11, egS_11⟩ : ∃ z : GS, z = (up2 gS_9 0 7 x10) := ⟨_, rfl⟩
  have hP : va_P D vwCl (cStand Y aS (hT 0) vS gS_11 ++ cTold Y hT tT) H := by rw [egS_11]; exact hP
  replace hM := nm_at hM egS_11
  refine lv_aload_n hx hb dX1_startAsTold_58 rfl (lv_at hl 0 rfl) ?_
  refine lv_iconst (v := (0 : Int32)) hx hb dX1_startAsTold_59 (by decide) ?_
  refine va_put (ty := .int) hx hb hts hi1 tyX1 tyX1_ok nmX1 hown hK hP (hD.same rfl) hS 0 rfl rfl 8 (by decide) (hts (.fieldLink RX1 60 "NightPlots$Standing" "mended" "I") (List.mem_of_getElem? (i := 15) rfl)) (fun _ h9 => h9) rfl (by decide +kernel) rfl rfl (Nat.le_of_ble_eq_true rfl) dX1_startAsTold_60 (fun H locs hP _ hS => ?_)
  obtain ⟨gS_12, egS_12⟩ : ∃ z : GS, z = (up2 gS_11 0 8 (0 : Int32)) := ⟨_, rfl⟩
  have hP : va_P D vwCl (cStand Y aS (hT 0) vS gS_12 ++ cTold Y hT tT) H := by rw [egS_12]; exact hP
  replace hM := nm_at hM egS_12
  cases hM
  rw [hQQ]
  exact W.vret hx hb hr (fun t ht hW => ⟨⟨(), rfl, trivial, by show va_P D vwCl _ t.heap; rw [ht]; exact hP⟩, hS.F ht⟩) hS.2.2 dX1_startAsTold_63
noncomputable def MX1_copyFrom (gS : GS) (gO : GS) : Option (GS) := chkC (0 : Int32) (0 : Int32) (8 : Int32) 8 8 (nm (upA gS 1 (va_cpy (gO 1) (gS 1) (0 : Int32).toNatClampNeg (0 : Int32).toNatClampNeg (8 : Int32).toNatClampNeg)) fun (gS_2 : GS) => chkC (0 : Int32) (0 : Int32) (8 : Int32) 8 8 (nm (upA gS_2 2 (va_cpy (gO 2) (gS_2 2) (0 : Int32).toNatClampNeg (0 : Int32).toNatClampNeg (8 : Int32).toNatClampNeg)) fun (gS_4 : GS) => nm (gO 0 4) fun (x5 : Int32) => nm (up2 gS_4 0 4 x5) fun (gS_6 : GS) => nm (gO 0 5) fun (x7 : Int32) => nm (up2 gS_6 0 5 x7) fun (gS_8 : GS) => nm (gO 0 6) fun (x9 : Int32) => nm (up2 gS_8 0 6 x9) fun (gS_10 : GS) => nm (gO 0 7) fun (x11 : Int32) => nm (up2 gS_10 0 7 x11) fun (gS_12 : GS) => nm (gO 0 8) fun (x13 : Int32) => nm (up2 gS_12 0 8 x13) fun (gS_14 : GS) => some (gS_14)))
abbrev rmX1_copyFrom : Room := { frames := 2, cells := 0, slots := 0, locals := 80 }
set_option maxHeartbeats 4000000 in
set_option maxRecDepth 100000 in
theorem ctX1_copyFrom (l : Launch) (D : va_G) (Y : Nat → ClassId) (aS : Nat → Nat) (aO : Nat → Nat) (uS : Nat) (vS : Nat) (uO : Nat) (vO : Nat) (sz : Nat) (gS : GS) (gO : GS) (gSz : GS) (hM : MX1_copyFrom gS gO = some (gSz)) : Met l yX1_copyFrom wsX1_copyFrom rmX1_copyFrom (pcW [.ref (aS 0), .ref (aO 0)] sz D Y (cStand Y aS uS vS gS ++ cStand Y aO uO vO gO)) (qvW D (cStand Y aS uS vS gSz ++ cStand Y aO uO vO gO) (va_A (cStand Y aS uS vS gS ++ cStand Y aO uO vO gO) sz)) 0 0 (va_A (cStand Y aS uS vS gS ++ cStand Y aO uO vO gO) sz) := by
  refine Met.ofW (cc := cX1_copyFrom) (maxL := 2) (ret := (none)) (by decide) rfl ?_
  intro p e s m args below meth c s₁ B hml hv
  obtain ⟨rfl, hsz, hP, hK, hD0⟩ := hv
  have hx := B.exec
  have hb := B.bytes
  have hr := B.returns
  have hts := atoms_spec (ws := wsX1_copyFrom) B.pre
  have hown : s.vm.findClass RX1 = some m.cls := findClass_of_methodNamed B.named
  have hlocks := B.notSynchronized
  subst hsz
  have hD := hD0.self (sz := s.heap.size)
  generalize hAe : va_A (cStand Y aS uS vS gS ++ cStand Y aO uO vO gO) s.heap.size = A at hD ⊢
  have hA : ∀ q : Nat, s.heap.size ≤ q → A q := fun q h => by rw [← hAe]; exact Or.inr h
  have hS : va_S A s.heap s.heap [] := va_S.rf
  have hi1 : ∀ w ∈ wsX10, w ∈ wsX1_copyFrom := fun w h => List.mem_cons_of_mem _ (List.mem_append_right _ h)
  have hl := lv_entry ([.ref (aS 0), .ref (aO 0)]) (n := 2) (Nat.le_of_ble_eq_true rfl)
  rw [lg_entry_eq]
  generalize (lg_sl ([.ref (aS 0), .ref (aO 0)]) ++ List.replicate (2 - (lg_sl ([.ref (aS 0), .ref (aO 0)])).length) Slot.unset).toArray = ls at hl ⊢
  have hl : lv_has ls 2 [(0, .ref (aS 0)), (1, .ref (aO 0))] := hl
  obtain ⟨QQ, hQQ⟩ : ∃ Q : State → Prop, Q = MQ below (qvW D (cStand Y aS uS vS gSz ++ cStand Y aO uO vO gO) A) ([.ref (aS 0), .ref (aO 0)] : List Value).toArray s 0 0 A := ⟨_, rfl⟩
  rw [← hQQ]
  unfold MX1_copyFrom at hM
  suffices hI : ∀ (H : Heap) (locs : List Loc), va_P D vwCl (cStand Y aS uS vS gS ++ cStand Y aO uO vO gO) H → va_S A s.heap H locs → W p l e (headSpec wsX1_copyFrom rmX1_copyFrom).room s m ([.ref (aS 0), .ref (aO 0)] : List Value).toArray below meth c H locs 0 0 QQ (F0 m 0 ls []) from hI _ _ hP hS
  clear hP hS
  intro H locs hP hS
  refine lv_aload_n hx hb dX1_copyFrom_0 rfl (lv_at hl 1 rfl) ?_
  refine va_get hx hb hts hi1 hown hK hP 3 rfl rfl 1 (by decide) (hts (.fieldLink RX1 9 "NightPlots$Standing" "place" "[I") (List.mem_of_getElem? (i := 1) rfl)) (fun _ h9 => h9) rfl dX1_copyFrom_1 ?_
  refine lv_iconst (v := (0 : Int32)) hx hb dX1_copyFrom_4 (by decide) ?_
  refine lv_aload_n hx hb dX1_copyFrom_5 rfl (lv_at hl 0 rfl) ?_
  refine va_get hx hb hts hi1 hown hK hP 0 rfl rfl 1 (by decide) (hts (.fieldLink RX1 9 "NightPlots$Standing" "place" "[I") (List.mem_of_getElem? (i := 1) rfl)) (fun _ h9 => h9) rfl dX1_copyFrom_6 ?_
  refine lv_iconst (v := (0 : Int32)) hx hb dX1_copyFrom_9 (by decide) ?_
  refine lv_bipush (v := (8 : Int32)) hx hb dX1_copyFrom_10 (by decide) ?_
  obtain ⟨hc11, hc12, hc13, hc14, hc15, hM⟩ := chkC_at hM
  refine va_copyi hx hb (hml.trans hl.1.symm) hown (hts (.methodLink RX1 31 arraycopyName) (List.mem_of_getElem? (i := 2) rfl)) (hts (.native arraycopyName) (List.mem_of_getElem? (i := 3) rfl)) (hts (.static arraycopyName) (List.mem_of_getElem? (i := 4) rfl)) (hts (.initialized "java/lang/System") (List.mem_of_getElem? (i := 5) rfl)) hK hP (hD.same rfl) hS 4 1 0 0 rfl rfl rfl rfl rfl hc11 hc12 hc13 hc14 hc15 (fun _ _ => rfl) (Nat.le_of_ble_eq_true rfl) (Nat.le_of_ble_eq_true rfl) dX1_copyFrom_12 (fun H locs hP _ hS => ?_)
  obtain ⟨gS_2, egS_2⟩ : ∃ z : GS, z = (upA gS 1 (va_cpy (gO 1) (gS 1) (0 : Int32).toNatClampNeg (0 : Int32).toNatClampNeg (8 : Int32).toNatClampNeg)) := ⟨_, rfl⟩
  have hP : va_P D vwCl (cStand Y aS uS vS gS_2 ++ cStand Y aO uO vO gO) H := by rw [egS_2]; exact hP
  replace hM := nm_at hM egS_2
  refine lv_aload_n hx hb dX1_copyFrom_15 rfl (lv_at hl 1 rfl) ?_
  refine va_get hx hb hts hi1 hown hK hP 3 rfl rfl 2 (by decide) (hts (.fieldLink RX1 15 "NightPlots$Standing" "rolled" "[I") (List.mem_of_getElem? (i := 6) rfl)) (fun _ h9 => h9) rfl dX1_copyFrom_16 ?_
  refine lv_iconst (v := (0 : Int32)) hx hb dX1_copyFrom_19 (by decide) ?_
  refine lv_aload_n hx hb dX1_copyFrom_20 rfl (lv_at hl 0 rfl) ?_
  refine va_get hx hb hts hi1 hown hK hP 0 rfl rfl 2 (by decide) (hts (.fieldLink RX1 15 "NightPlots$Standing" "rolled" "[I") (List.mem_of_getElem? (i := 6) rfl)) (fun _ h9 => h9) rfl dX1_copyFrom_21 ?_
  refine lv_iconst (v := (0 : Int32)) hx hb dX1_copyFrom_24 (by decide) ?_
  refine lv_bipush (v := (8 : Int32)) hx hb dX1_copyFrom_25 (by decide) ?_
  obtain ⟨hc31, hc32, hc33, hc34, hc35, hM⟩ := chkC_at hM
  refine va_copyi hx hb (hml.trans hl.1.symm) hown (hts (.methodLink RX1 31 arraycopyName) (List.mem_of_getElem? (i := 2) rfl)) (hts (.native arraycopyName) (List.mem_of_getElem? (i := 3) rfl)) (hts (.static arraycopyName) (List.mem_of_getElem? (i := 4) rfl)) (hts (.initialized "java/lang/System") (List.mem_of_getElem? (i := 5) rfl)) hK hP (hD.same rfl) hS 5 2 0 0 rfl rfl rfl rfl rfl hc31 hc32 hc33 hc34 hc35 (fun _ _ => rfl) (Nat.le_of_ble_eq_true rfl) (Nat.le_of_ble_eq_true rfl) dX1_copyFrom_27 (fun H locs hP _ hS => ?_)
  obtain ⟨gS_4, egS_4⟩ : ∃ z : GS, z = (upA gS_2 2 (va_cpy (gO 2) (gS_2 2) (0 : Int32).toNatClampNeg (0 : Int32).toNatClampNeg (8 : Int32).toNatClampNeg)) := ⟨_, rfl⟩
  have hP : va_P D vwCl (cStand Y aS uS vS gS_4 ++ cStand Y aO uO vO gO) H := by rw [egS_4]; exact hP
  replace hM := nm_at hM egS_4
  refine lv_aload_n hx hb dX1_copyFrom_30 rfl (lv_at hl 0 rfl) ?_
  refine lv_aload_n hx hb dX1_copyFrom_31 rfl (lv_at hl 1 rfl) ?_
  refine va_get hx hb hts hi1 hown hK hP 3 rfl rfl 4 (by decide) (hts (.fieldLink RX1 47 "NightPlots$Standing" "taken" "I") (List.mem_of_getElem? (i := 7) rfl)) (fun _ h9 => h9) rfl dX1_copyFrom_32 ?_
  refine lv_topi (fun x5 ex5 => ?_)
  replace hM := nm_at hM ex5
  refine va_put (ty := .int) hx hb hts hi1 tyX1 tyX1_ok nmX1 hown hK hP (hD.same rfl) hS 0 rfl rfl 4 (by decide) (hts (.fieldLink RX1 47 "NightPlots$Standing" "taken" "I") (List.mem_of_getElem? (i := 7) rfl)) (fun _ h9 => h9) rfl (by decide +kernel) rfl rfl (Nat.le_of_ble_eq_true rfl) dX1_copyFrom_35 (fun H locs hP _ hS => ?_)
  obtain ⟨gS_6, egS_6⟩ : ∃ z : GS, z = (up2 gS_4 0 4 x5) := ⟨_, rfl⟩
  have hP : va_P D vwCl (cStand Y aS uS vS gS_6 ++ cStand Y aO uO vO gO) H := by rw [egS_6]; exact hP
  replace hM := nm_at hM egS_6
  refine lv_aload_n hx hb dX1_copyFrom_38 rfl (lv_at hl 0 rfl) ?_
  refine lv_aload_n hx hb dX1_copyFrom_39 rfl (lv_at hl 1 rfl) ?_
  refine va_get hx hb hts hi1 hown hK hP 3 rfl rfl 5 (by decide) (hts (.fieldLink RX1 48 "NightPlots$Standing" "nights" "I") (List.mem_of_getElem? (i := 8) rfl)) (fun _ h9 => h9) rfl dX1_copyFrom_40 ?_
  refine lv_topi (fun x7 ex7 => ?_)
  replace hM := nm_at hM ex7
  refine va_put (ty := .int) hx hb hts hi1 tyX1 tyX1_ok nmX1 hown hK hP (hD.same rfl) hS 0 rfl rfl 5 (by decide) (hts (.fieldLink RX1 48 "NightPlots$Standing" "nights" "I") (List.mem_of_getElem? (i := 8) rfl)) (fun _ h9 => h9) rfl (by decide +kernel) rfl rfl (Nat.le_of_ble_eq_true rfl) dX1_copyFrom_43 (fun H locs hP _ hS => ?_)
  obtain ⟨gS_8, egS_8⟩ : ∃ z : GS, z = (up2 gS_6 0 5 x7) := ⟨_, rfl⟩
  have hP : va_P D vwCl (cStand Y aS uS vS gS_8 ++ cStand Y aO uO vO gO) H := by rw [egS_8]; exact hP
  replace hM := nm_at hM egS_8
  refine lv_aload_n hx hb dX1_copyFrom_46 rfl (lv_at hl 0 rfl) ?_
  refine lv_aload_n hx hb dX1_copyFrom_47 rfl (lv_at hl 1 rfl) ?_
  refine va_get hx hb hts hi1 hown hK hP 3 rfl rfl 6 (by decide) (hts (.fieldLink RX1 51 "NightPlots$Standing" "turn" "I") (List.mem_of_getElem? (i := 9) rfl)) (fun _ h9 => h9) rfl dX1_copyFrom_48 ?_
  refine lv_topi (fun x9 ex9 => ?_)
  replace hM := nm_at hM ex9
  refine va_put (ty := .int) hx hb hts hi1 tyX1 tyX1_ok nmX1 hown hK hP (hD.same rfl) hS 0 rfl rfl 6 (by decide) (hts (.fieldLink RX1 51 "NightPlots$Standing" "turn" "I") (List.mem_of_getElem? (i := 9) rfl)) (fun _ h9 => h9) rfl (by decide +kernel) rfl rfl (Nat.le_of_ble_eq_true rfl) dX1_copyFrom_51 (fun H locs hP _ hS => ?_)
  obtain ⟨gS_10, egS_10⟩ : ∃ z : GS, z = (up2 gS_8 0 6 x9) := ⟨_, rfl⟩
  have hP : va_P D vwCl (cStand Y aS uS vS gS_10 ++ cStand Y aO uO vO gO) H := by rw [egS_10]; exact hP
  replace hM := nm_at hM egS_10
  refine lv_aload_n hx hb dX1_copyFrom_54 rfl (lv_at hl 0 rfl) ?_
  refine lv_aload_n hx hb dX1_copyFrom_55 rfl (lv_at hl 1 rfl) ?_
  refine va_get hx hb hts hi1 hown hK hP 3 rfl rfl 7 (by decide) (hts (.fieldLink RX1 57 "NightPlots$Standing" "x" "I") (List.mem_of_getElem? (i := 10) rfl)) (fun _ h9 => h9) rfl dX1_copyFrom_56 ?_
  refine lv_topi (fun x11 ex11 => ?_)
  replace hM := nm_at hM ex11
  refine va_put (ty := .int) hx hb hts hi1 tyX1 tyX1_ok nmX1 hown hK hP (hD.same rfl) hS 0 rfl rfl 7 (by decide) (hts (.fieldLink RX1 57 "NightPlots$Standing" "x" "I") (List.mem_of_getElem? (i := 10) rfl)) (fun _ h9 => h9) rfl (by decide +kernel) rfl rfl (Nat.le_of_ble_eq_true rfl) dX1_copyFrom_59 (fun H locs hP _ hS => ?_)
  obtain ⟨gS_12, egS_12⟩ : ∃ z : GS, z = (up2 gS_10 0 7 x11) := ⟨_, rfl⟩
  have hP : va_P D vwCl (cStand Y aS uS vS gS_12 ++ cStand Y aO uO vO gO) H := by rw [egS_12]; exact hP
  replace hM := nm_at hM egS_12
  refine lv_aload_n hx hb dX1_copyFrom_62 rfl (lv_at hl 0 rfl) ?_
  refine lv_aload_n hx hb dX1_copyFrom_63 rfl (lv_at hl 1 rfl) ?_
  refine va_get hx hb hts hi1 hown hK hP 3 rfl rfl 8 (by decide) (hts (.fieldLink RX1 60 "NightPlots$Standing" "mended" "I") (List.mem_of_getElem? (i := 11) rfl)) (fun _ h9 => h9) rfl dX1_copyFrom_64 ?_
  refine lv_topi (fun x13 ex13 => ?_)
  replace hM := nm_at hM ex13
  refine va_put (ty := .int) hx hb hts hi1 tyX1 tyX1_ok nmX1 hown hK hP (hD.same rfl) hS 0 rfl rfl 8 (by decide) (hts (.fieldLink RX1 60 "NightPlots$Standing" "mended" "I") (List.mem_of_getElem? (i := 11) rfl)) (fun _ h9 => h9) rfl (by decide +kernel) rfl rfl (Nat.le_of_ble_eq_true rfl) dX1_copyFrom_67 (fun H locs hP _ hS => ?_)
  obtain ⟨gS_14, egS_14⟩ : ∃ z : GS, z = (up2 gS_12 0 8 x13) := ⟨_, rfl⟩
  have hP : va_P D vwCl (cStand Y aS uS vS gS_14 ++ cStand Y aO uO vO gO) H := by rw [egS_14]; exact hP
  replace hM := nm_at hM egS_14
  cases hM
  rw [hQQ]
  exact W.vret hx hb hr (fun t ht hW => ⟨⟨(), rfl, trivial, by show va_P D vwCl _ t.heap; rw [ht]; exact hP⟩, hS.F ht⟩) hS.2.2 dX1_copyFrom_70
noncomputable def MX1_groundOf (gS : GS) (tT : GS) (i1 : Int32) : Option (Int32) := chkI i1 8 (chkI i1 8 (bnd1 (MX3_ground tT (tT 2 i1.toNatClampNeg) (gS 1 i1.toNatClampNeg)) fun (r3 : Int32) => some (r3)))
abbrev rmX1_groundOf : Room := { frames := 3, cells := 0, slots := 0, locals := 120 }
set_option maxHeartbeats 4000000 in
set_option maxRecDepth 100000 in
theorem ctX1_groundOf (l : Launch) (D : va_G) (Y : Nat → ClassId) (aS : Nat → Nat) (hT : Nat → Nat) (vS : Nat) (sz : Nat) (gS : GS) (tT : GS) (i1 : Int32) (rr : Int32) (hM : MX1_groundOf gS tT i1 = some (rr)) : Met l yX1_groundOf wsX1_groundOf rmX1_groundOf (pcW [.ref (aS 0), .int i1] sz D Y (cStand Y aS (hT 0) vS gS ++ cTold Y hT tT)) (qiW rr D (cStand Y aS (hT 0) vS gS ++ cTold Y hT tT) (va_A (cStand Y aS (hT 0) vS gS ++ cTold Y hT tT) sz)) 0 0 (va_A (cStand Y aS (hT 0) vS gS ++ cTold Y hT tT) sz) := by
  refine Met.ofW (cc := cX1_groundOf) (maxL := 2) (ret := (some .int)) (by decide) rfl ?_
  intro p e s m args below meth c s₁ B hml hv
  obtain ⟨rfl, hsz, hP, hK, hD0⟩ := hv
  have hx := B.exec
  have hb := B.bytes
  have hr := B.returns
  have hts := atoms_spec (ws := wsX1_groundOf) B.pre
  have hown : s.vm.findClass RX1 = some m.cls := findClass_of_methodNamed B.named
  have hlocks := B.notSynchronized
  subst hsz
  have hD := hD0.self (sz := s.heap.size)
  generalize hAe : va_A (cStand Y aS (hT 0) vS gS ++ cTold Y hT tT) s.heap.size = A at hD ⊢
  have hA : ∀ q : Nat, s.heap.size ≤ q → A q := fun q h => by rw [← hAe]; exact Or.inr h
  have hS : va_S A s.heap s.heap [] := va_S.rf
  have hi1 : ∀ w ∈ wsX10, w ∈ wsX1_groundOf := fun w h => List.mem_cons_of_mem _ (List.mem_append_left _ (List.mem_append_right _ h))
  have hi3 : ∀ w ∈ wsX30, w ∈ wsX1_groundOf := fun w h => List.mem_cons_of_mem _ (List.mem_append_right _ h)
  have hl := lv_entry ([.ref (aS 0), .int i1]) (n := 2) (Nat.le_of_ble_eq_true rfl)
  rw [lg_entry_eq]
  generalize (lg_sl ([.ref (aS 0), .int i1]) ++ List.replicate (2 - (lg_sl ([.ref (aS 0), .int i1])).length) Slot.unset).toArray = ls at hl ⊢
  have hl : lv_has ls 2 [(0, .ref (aS 0)), (1, .int i1)] := hl
  obtain ⟨QQ, hQQ⟩ : ∃ Q : State → Prop, Q = MQ below (qiW rr D (cStand Y aS (hT 0) vS gS ++ cTold Y hT tT) A) ([.ref (aS 0), .int i1] : List Value).toArray s 0 0 A := ⟨_, rfl⟩
  rw [← hQQ]
  unfold MX1_groundOf at hM
  suffices hI : ∀ (H : Heap) (locs : List Loc), va_P D vwCl (cStand Y aS (hT 0) vS gS ++ cTold Y hT tT) H → va_S A s.heap H locs → W p l e (headSpec wsX1_groundOf rmX1_groundOf).room s m ([.ref (aS 0), .int i1] : List Value).toArray below meth c H locs 0 0 QQ (F0 m 0 ls []) from hI _ _ hP hS
  clear hP hS
  intro H locs hP hS
  refine lv_aload_n hx hb dX1_groundOf_0 rfl (lv_at hl 0 rfl) ?_
  refine va_get hx hb hts hi1 hown hK hP 0 rfl rfl 0 (by decide) (hts (.fieldLink RX1 21 "NightPlots$Standing" "told" "LNightPlots$Told;") (List.mem_of_getElem? (i := 1) rfl)) (fun _ h9 => h9) rfl dX1_groundOf_1 ?_
  refine lv_aload_n hx hb dX1_groundOf_4 rfl (lv_at hl 0 rfl) ?_
  refine va_get hx hb hts hi1 hown hK hP 0 rfl rfl 0 (by decide) (hts (.fieldLink RX1 21 "NightPlots$Standing" "told" "LNightPlots$Told;") (List.mem_of_getElem? (i := 1) rfl)) (fun _ h9 => h9) rfl dX1_groundOf_5 ?_
  refine va_get hx hb hts hi3 hown hK hP 3 rfl rfl 8 (by decide) (hts (.fieldLink RX1 63 "NightPlots$Told" "kind" "[I") (List.mem_of_getElem? (i := 2) rfl)) (fun _ h9 => h9) rfl dX1_groundOf_8 ?_
  refine lv_iload_n hx hb dX1_groundOf_11 rfl (lv_at hl 1 rfl) ?_
  obtain ⟨hi_1, hM⟩ := chkI_at hM
  refine va_iald hx hb hK hP 5 0 rfl rfl hi_1 dX1_groundOf_12 ?_
  refine lv_aload_n hx hb dX1_groundOf_13 rfl (lv_at hl 0 rfl) ?_
  refine va_get hx hb hts hi1 hown hK hP 0 rfl rfl 1 (by decide) (hts (.fieldLink RX1 9 "NightPlots$Standing" "place" "[I") (List.mem_of_getElem? (i := 3) rfl)) (fun _ h9 => h9) rfl dX1_groundOf_14 ?_
  refine lv_iload_n hx hb dX1_groundOf_17 rfl (lv_at hl 1 rfl) ?_
  obtain ⟨hi_2, hM⟩ := chkI_at hM
  refine va_iald hx hb hK hP 1 0 rfl rfl hi_2 dX1_groundOf_18 ?_
  obtain ⟨r3, hc4, hM⟩ := bnd1_at hM
  refine cm_i (w2 := (cStand Y aS (hT 0) vS gS ++ cTold Y hT tT)) (va_runV (As := [.int (tT 2 i1.toNatClampNeg), .int (gS 1 i1.toNatClampNeg)]) (rest := []) ⟨hx, hb, hml, hown, hts⟩ (ctX3_ground l D Y hT H.size tT (tT 2 i1.toNatClampNeg) (gS 1 i1.toNatClampNeg) r3 hc4) (cwV 2 hts gX1_groundOf_X3_ground rfl rfl rfl (by decide +kernel) ⟨Nat.le_of_ble_eq_true rfl, Nat.le_of_ble_eq_true rfl⟩) (pcW_V (ci := 3) (q0 := 3) hK hP (hD.same rfl) [3, 4, 5, 6, 7, 8, 9, 10] rfl (pc_map (pc_cons rfl (pc_cons rfl (pc_cons rfl (pc_cons rfl (pc_cons rfl (pc_cons rfl (pc_cons rfl (pc_cons rfl pc_nil))))))))) rfl rfl) rfl rfl hl.1 rfl (lv_room (Nat.le_of_ble_eq_true rfl)) dX1_groundOf_19 ⟨Nat.zero_le _, Nat.zero_le _⟩) hP (hD.same rfl) hS hA [3, 4, 5, 6, 7, 8, 9, 10] (pc_map (pc_cons rfl (pc_cons rfl (pc_cons rfl (pc_cons rfl (pc_cons rfl (pc_cons rfl (pc_cons rfl (pc_cons rfl pc_nil))))))))) (up_old rfl rfl (up_old rfl rfl (up_old rfl rfl (up_new 0 rfl (up_new 1 rfl (up_new 2 rfl (up_new 3 rfl (up_new 4 rfl (up_new 5 rfl (up_new 6 rfl (up_new 7 rfl up_nil))))))))))) (fun H locs hP hS => ?_)
  cases hM
  rw [hQQ]
  exact W.iret hx hb hr (fun t ht hW => ⟨⟨_, (), rfl, rfl, by show va_P D vwCl _ t.heap; rw [ht]; exact hP⟩, hS.F ht⟩) hS.2.2 dX1_groundOf_22
noncomputable def MX1_isEmpty (gS : GS) (i1 : Int32) : Option (Int32) := jn1 (fun (x1 : Int32) => chkB x1 (some (x1))) (fun k2 => if (((gS 0 4) >>> (i1 &&& 31)) &&& (1 : Int32)) = 0 then (k2 (1 : Int32)) else (k2 (0 : Int32)))
abbrev rmX1_isEmpty : Room := { frames := 1, cells := 0, slots := 0, locals := 40 }
set_option maxHeartbeats 4000000 in
set_option maxRecDepth 100000 in
theorem ctX1_isEmpty (l : Launch) (D : va_G) (Y : Nat → ClassId) (aS : Nat → Nat) (uS : Nat) (vS : Nat) (sz : Nat) (gS : GS) (i1 : Int32) (rr : Int32) (hM : MX1_isEmpty gS i1 = some (rr)) : Met l yX1_isEmpty wsX1_isEmpty rmX1_isEmpty (pcW [.ref (aS 0), .int i1] sz D Y (cStand Y aS uS vS gS)) (qiW rr D (cStand Y aS uS vS gS) (va_A (cStand Y aS uS vS gS) sz)) 0 0 (va_A (cStand Y aS uS vS gS) sz) := by
  refine Met.ofW (cc := cX1_isEmpty) (maxL := 2) (ret := (some .boolean)) (by decide) rfl ?_
  intro p e s m args below meth c s₁ B hml hv
  obtain ⟨rfl, hsz, hP, hK, hD0⟩ := hv
  have hx := B.exec
  have hb := B.bytes
  have hr := B.returns
  have hts := atoms_spec (ws := wsX1_isEmpty) B.pre
  have hown : s.vm.findClass RX1 = some m.cls := findClass_of_methodNamed B.named
  have hlocks := B.notSynchronized
  subst hsz
  have hD := hD0.self (sz := s.heap.size)
  generalize hAe : va_A (cStand Y aS uS vS gS) s.heap.size = A at hD ⊢
  have hA : ∀ q : Nat, s.heap.size ≤ q → A q := fun q h => by rw [← hAe]; exact Or.inr h
  have hS : va_S A s.heap s.heap [] := va_S.rf
  have hi1 : ∀ w ∈ wsX10, w ∈ wsX1_isEmpty := fun w h => List.mem_cons_of_mem _ (List.mem_append_right _ h)
  have hl := lv_entry ([.ref (aS 0), .int i1]) (n := 2) (Nat.le_of_ble_eq_true rfl)
  rw [lg_entry_eq]
  generalize (lg_sl ([.ref (aS 0), .int i1]) ++ List.replicate (2 - (lg_sl ([.ref (aS 0), .int i1])).length) Slot.unset).toArray = ls at hl ⊢
  have hl : lv_has ls 2 [(0, .ref (aS 0)), (1, .int i1)] := hl
  obtain ⟨QQ, hQQ⟩ : ∃ Q : State → Prop, Q = MQ below (qiW rr D (cStand Y aS uS vS gS) A) ([.ref (aS 0), .int i1] : List Value).toArray s 0 0 A := ⟨_, rfl⟩
  rw [← hQQ]
  unfold MX1_isEmpty at hM
  suffices hI : ∀ (H : Heap) (locs : List Loc), va_P D vwCl (cStand Y aS uS vS gS) H → va_S A s.heap H locs → W p l e (headSpec wsX1_isEmpty rmX1_isEmpty).room s m ([.ref (aS 0), .int i1] : List Value).toArray below meth c H locs 0 0 QQ (F0 m 0 ls []) from hI _ _ hP hS
  clear hP hS
  intro H locs hP hS
  refine lv_aload_n hx hb dX1_isEmpty_0 rfl (lv_at hl 0 rfl) ?_
  refine va_get hx hb hts hi1 hown hK hP 0 rfl rfl 4 (by decide) (hts (.fieldLink RX1 47 "NightPlots$Standing" "taken" "I") (List.mem_of_getElem? (i := 1) rfl)) (fun _ h9 => h9) rfl dX1_isEmpty_1 ?_
  refine lv_iload_n hx hb dX1_isEmpty_4 rfl (lv_at hl 1 rfl) ?_
  refine lv_ishr hx hb dX1_isEmpty_5 ?_
  refine lv_iconst (v := (1 : Int32)) hx hb dX1_isEmpty_6 (by decide) ?_
  refine lv_iand hx hb dX1_isEmpty_7 ?_
  refine jn1_at (fun (x1 : Int32) => ∀ (H : Heap) (locs : List Loc) (ls : Array Slot), va_P D vwCl (cStand Y aS uS vS gS) H → va_S A s.heap H locs → lv_has ls 2 [] → W p l e (headSpec wsX1_isEmpty rmX1_isEmpty).room s m ([.ref (aS 0), .int i1] : List Value).toArray below meth c H locs 0 0 QQ (F0 m 16 ls [.int x1])) hM (fun x1 hM H locs ls hP hS hl => ?_) (fun k2 hJ2 hM => ?_)
  · obtain ⟨hz3, hM⟩ := chkB_at hM
    cases hM
    rw [hQQ]
    exact W.zret (ty := .boolean) hx hb hr hz3 (fun t ht hW => ⟨⟨_, (), rfl, rfl, by show va_P D vwCl _ t.heap; rw [ht]; exact hP⟩, hS.F ht⟩) hS.2.2 dX1_isEmpty_16
  · refine lv_if_ne (tgt := 15) hx hb dX1_isEmpty_8 (by decide) (fun c4 => ?_) (fun c4 => ?_)
    · replace hM := if_at_neg hM c4
      refine lv_iconst (v := (0 : Int32)) hx hb dX1_isEmpty_15 (by decide) ?_
      exact hJ2 (0 : Int32) hM H locs ls hP hS (lv_sub hl [] rfl)
    · replace hM := if_at_pos hM c4
      refine lv_iconst (v := (1 : Int32)) hx hb dX1_isEmpty_11 (by decide) ?_
      refine lv_goto (tgt := 16) hx hb dX1_isEmpty_12 (by decide) ?_
      exact hJ2 (1 : Int32) hM H locs ls hP hS (lv_sub hl [] rfl)
noncomputable def BX1_houseOn_2 (tT : GS) (k1 : Option (Int32)) (gS : GS) (i1 : Int32) (k3 : Int32 → Option (Int32)) (rec5 : Int32 → Option (Int32)) (x4 : Int32) : Option (Int32) := if (tT 0 1) ≤ x4 then (k1) else (bnd1 (MX1_groundOf gS tT x4) fun (r7 : Int32) => if ((r7 >>> (i1 &&& 31)) &&& (1 : Int32)) = 0 then (nm (x4 + 1) fun (x10 : Int32) => rec5 x10) else (k3 x4))
noncomputable def MX1_houseOn (gS : GS) (tT : GS) (i1 : Int32) : Option (Int32) := jn0 (some ((-1 : Int32))) (fun k1 => jn1 (fun (x2 : Int32) => some (x2)) (fun k3 => lq1 (BX1_houseOn_2 tT k1 gS i1 k3) FU (0 : Int32)))
abbrev rmX1_houseOn : Room := { frames := 4, cells := 0, slots := 0, locals := 160 }
set_option maxHeartbeats 4000000 in
set_option maxRecDepth 100000 in
theorem ctX1_houseOn (l : Launch) (D : va_G) (Y : Nat → ClassId) (aS : Nat → Nat) (hT : Nat → Nat) (vS : Nat) (sz : Nat) (gS : GS) (tT : GS) (i1 : Int32) (rr : Int32) (hM : MX1_houseOn gS tT i1 = some (rr)) : Met l yX1_houseOn wsX1_houseOn rmX1_houseOn (pcW [.ref (aS 0), .int i1] sz D Y (cStand Y aS (hT 0) vS gS ++ cTold Y hT tT)) (qiW rr D (cStand Y aS (hT 0) vS gS ++ cTold Y hT tT) (va_A (cStand Y aS (hT 0) vS gS ++ cTold Y hT tT) sz)) 0 0 (va_A (cStand Y aS (hT 0) vS gS ++ cTold Y hT tT) sz) := by
  refine Met.ofW (cc := cX1_houseOn) (maxL := 3) (ret := (some .int)) (by decide) rfl ?_
  intro p e s m args below meth c s₁ B hml hv
  obtain ⟨rfl, hsz, hP, hK, hD0⟩ := hv
  have hx := B.exec
  have hb := B.bytes
  have hr := B.returns
  have hts := atoms_spec (ws := wsX1_houseOn) B.pre
  have hown : s.vm.findClass RX1 = some m.cls := findClass_of_methodNamed B.named
  have hlocks := B.notSynchronized
  subst hsz
  have hD := hD0.self (sz := s.heap.size)
  generalize hAe : va_A (cStand Y aS (hT 0) vS gS ++ cTold Y hT tT) s.heap.size = A at hD ⊢
  have hA : ∀ q : Nat, s.heap.size ≤ q → A q := fun q h => by rw [← hAe]; exact Or.inr h
  have hS : va_S A s.heap s.heap [] := va_S.rf
  have hi1 : ∀ w ∈ wsX10, w ∈ wsX1_houseOn := fun w h => List.mem_cons_of_mem _ (List.mem_append_left _ (List.mem_append_right _ h))
  have hi3 : ∀ w ∈ wsX30, w ∈ wsX1_houseOn := fun w h => List.mem_cons_of_mem _ (List.mem_append_right _ h)
  have hl := lv_entry ([.ref (aS 0), .int i1]) (n := 3) (Nat.le_of_ble_eq_true rfl)
  rw [lg_entry_eq]
  generalize (lg_sl ([.ref (aS 0), .int i1]) ++ List.replicate (3 - (lg_sl ([.ref (aS 0), .int i1])).length) Slot.unset).toArray = ls at hl ⊢
  have hl : lv_has ls 3 [(0, .ref (aS 0)), (1, .int i1)] := hl
  obtain ⟨QQ, hQQ⟩ : ∃ Q : State → Prop, Q = MQ below (qiW rr D (cStand Y aS (hT 0) vS gS ++ cTold Y hT tT) A) ([.ref (aS 0), .int i1] : List Value).toArray s 0 0 A := ⟨_, rfl⟩
  rw [← hQQ]
  unfold MX1_houseOn at hM
  suffices hI : ∀ (H : Heap) (locs : List Loc), va_P D vwCl (cStand Y aS (hT 0) vS gS ++ cTold Y hT tT) H → va_S A s.heap H locs → W p l e (headSpec wsX1_houseOn rmX1_houseOn).room s m ([.ref (aS 0), .int i1] : List Value).toArray below meth c H locs 0 0 QQ (F0 m 0 ls []) from hI _ _ hP hS
  clear hP hS
  intro H locs hP hS
  refine lv_iconst (v := (0 : Int32)) hx hb dX1_houseOn_0 (by decide) ?_
  refine lv_istore_n (lv' := [(2, .int (0 : Int32)), (0, .ref (aS 0)), (1, .int i1)]) hx hb dX1_houseOn_1 rfl hl (by decide) rfl (fun ls hl => ?_)
  refine jn0_at (∀ (H : Heap) (locs : List Loc) (ls : Array Slot), va_P D vwCl (cStand Y aS (hT 0) vS gS ++ cTold Y hT tT) H → va_S A s.heap H locs → lv_has ls 3 [] → W p l e (headSpec wsX1_houseOn rmX1_houseOn).room s m ([.ref (aS 0), .int i1] : List Value).toArray below meth c H locs 0 0 QQ (F0 m 33 ls [])) hM (fun  hM H locs ls hP hS hl => ?_) (fun k1 hJ1 hM => ?_)
  · refine lv_iconst (v := (-1 : Int32)) hx hb dX1_houseOn_33 (by decide) ?_
    cases hM
    rw [hQQ]
    exact W.iret hx hb hr (fun t ht hW => ⟨⟨_, (), rfl, rfl, by show va_P D vwCl _ t.heap; rw [ht]; exact hP⟩, hS.F ht⟩) hS.2.2 dX1_houseOn_34
  · refine jn1_at (fun (x2 : Int32) => ∀ (H : Heap) (locs : List Loc) (ls : Array Slot), va_P D vwCl (cStand Y aS (hT 0) vS gS ++ cTold Y hT tT) H → va_S A s.heap H locs → lv_has ls 3 [(2, .int x2)] → W p l e (headSpec wsX1_houseOn rmX1_houseOn).room s m ([.ref (aS 0), .int i1] : List Value).toArray below meth c H locs 0 0 QQ (F0 m 25 ls [])) hM (fun x2 hM H locs ls hP hS hl => ?_) (fun k3 hJ3 hM => ?_)
    · refine lv_iload_n hx hb dX1_houseOn_25 rfl (lv_at hl 0 rfl) ?_
      cases hM
      rw [hQQ]
      exact W.iret hx hb hr (fun t ht hW => ⟨⟨_, (), rfl, rfl, by show va_P D vwCl _ t.heap; rw [ht]; exact hP⟩, hS.F ht⟩) hS.2.2 dX1_houseOn_26
    · refine lq1_at (fun (x4 : Int32) => ∀ (H : Heap) (locs : List Loc) (ls : Array Slot), va_P D vwCl (cStand Y aS (hT 0) vS gS ++ cTold Y hT tT) H → va_S A s.heap H locs → lv_has ls 3 [(0, .ref (aS 0)), (1, .int i1), (2, .int x4)] → W p l e (headSpec wsX1_houseOn rmX1_houseOn).room s m ([.ref (aS 0), .int i1] : List Value).toArray below meth c H locs 0 0 QQ (F0 m 2 ls [])) (fun rec5 x4 ih5 hM H locs ls hP hS hl => ?_) FU (0 : Int32) hM H locs ls hP hS (lv_sub hl [1, 2, 0] rfl)
      unfold BX1_houseOn_2 at hM
      refine lv_iload_n hx hb dX1_houseOn_2 rfl (lv_at hl 2 rfl) ?_
      refine lv_aload_n hx hb dX1_houseOn_3 rfl (lv_at hl 0 rfl) ?_
      refine va_get hx hb hts hi1 hown hK hP 0 rfl rfl 0 (by decide) (hts (.fieldLink RX1 21 "NightPlots$Standing" "told" "LNightPlots$Told;") (List.mem_of_getElem? (i := 1) rfl)) (fun _ h9 => h9) rfl dX1_houseOn_4 ?_
      refine va_get hx hb hts hi3 hown hK hP 3 rfl rfl 1 (by decide) (hts (.fieldLink RX1 70 "NightPlots$Told" "houses" "I") (List.mem_of_getElem? (i := 2) rfl)) (fun _ h9 => h9) rfl dX1_houseOn_7 ?_
      refine lv_icmp_ge (tgt := 33) hx hb dX1_houseOn_10 (by decide) (fun c6 => ?_) (fun c6 => ?_)
      · replace hM := if_at_pos hM c6
        exact hJ1 hM H locs ls hP hS (lv_sub hl [] rfl)
      · replace hM := if_at_neg hM c6
        refine lv_aload_n hx hb dX1_houseOn_13 rfl (lv_at hl 0 rfl) ?_
        refine lv_iload_n hx hb dX1_houseOn_14 rfl (lv_at hl 2 rfl) ?_
        obtain ⟨r7, hc8, hM⟩ := bnd1_at hM
        refine co_i (va_runV (As := [.int x4]) (rest := []) ⟨hx, hb, hml, hown, hts⟩ (ctX1_groundOf l D Y aS hT vS H.size gS tT x4 r7 hc8) (cwV 1 hts gX1_houseOn_X1_groundOf rfl rfl rfl (by decide +kernel) ⟨Nat.le_of_ble_eq_true rfl, Nat.le_of_ble_eq_true rfl⟩) (pcW_V0 (ci := 1) (q0 := 0) hK hP (hD.same rfl) rfl rfl) rfl rfl hl.1 rfl (lv_room (Nat.le_of_ble_eq_true rfl)) dX1_houseOn_15 ⟨Nat.zero_le _, Nat.zero_le _⟩) (hD.same rfl) hS hA (fun H locs hP hS => ?_)
        refine lv_iload_n hx hb dX1_houseOn_18 rfl (lv_at hl 1 rfl) ?_
        refine lv_ishr hx hb dX1_houseOn_19 ?_
        refine lv_iconst (v := (1 : Int32)) hx hb dX1_houseOn_20 (by decide) ?_
        refine lv_iand hx hb dX1_houseOn_21 ?_
        refine lv_if_eq (tgt := 27) hx hb dX1_houseOn_22 (by decide) (fun c9 => ?_) (fun c9 => ?_)
        · replace hM := if_at_pos hM c9
          obtain ⟨x10, ex10⟩ : ∃ z : Int32, z = (x4 + 1) := ⟨_, rfl⟩
          replace hM := nm_at hM ex10
          refine lv_iinc (v := x10) (lv' := [(2, .int x10), (0, .ref (aS 0)), (1, .int i1)]) hx hb dX1_houseOn_27 hl (k := 2) rfl (by rw [ex10]; rfl) (by decide) rfl (fun ls hl => ?_)
          refine lv_goto (tgt := 2) hx hb dX1_houseOn_30 (by decide) ?_
          exact ih5 x10 hM H locs ls hP hS (lv_sub hl [1, 2, 0] rfl)
        · replace hM := if_at_neg hM c9
          exact hJ3 x4 hM H locs ls hP hS (lv_sub hl [2] rfl)
noncomputable def MX1_cropUnder (gS : GS) (tT : GS) (i1 : Int32) : Option (Int32) := chkI i1 8 (chkI (gS 1 i1.toNatClampNeg) 12 (nm (tT 1 (gS 1 i1.toNatClampNeg).toNatClampNeg) fun (x3 : Int32) => chkI i1 8 (jn1 (fun (x5 : Int32) => some (x5)) (fun k6 => if (tT 2 i1.toNatClampNeg) = (3 : Int32) then (chkI i1 8 (bnd1 (MX3_next tT (gS 1 i1.toNatClampNeg)) fun (r9 : Int32) => chkI r9 12 (k6 (x3 + (tT 1 r9.toNatClampNeg))))) else (k6 x3)))))
abbrev rmX1_cropUnder : Room := { frames := 2, cells := 0, slots := 0, locals := 80 }
set_option maxHeartbeats 4000000 in
set_option maxRecDepth 100000 in
theorem ctX1_cropUnder (l : Launch) (D : va_G) (Y : Nat → ClassId) (aS : Nat → Nat) (hT : Nat → Nat) (vS : Nat) (sz : Nat) (gS : GS) (tT : GS) (i1 : Int32) (rr : Int32) (hM : MX1_cropUnder gS tT i1 = some (rr)) : Met l yX1_cropUnder wsX1_cropUnder rmX1_cropUnder (pcW [.ref (aS 0), .int i1] sz D Y (cStand Y aS (hT 0) vS gS ++ cTold Y hT tT)) (qiW rr D (cStand Y aS (hT 0) vS gS ++ cTold Y hT tT) (va_A (cStand Y aS (hT 0) vS gS ++ cTold Y hT tT) sz)) 0 0 (va_A (cStand Y aS (hT 0) vS gS ++ cTold Y hT tT) sz) := by
  refine Met.ofW (cc := cX1_cropUnder) (maxL := 3) (ret := (some .int)) (by decide) rfl ?_
  intro p e s m args below meth c s₁ B hml hv
  obtain ⟨rfl, hsz, hP, hK, hD0⟩ := hv
  have hx := B.exec
  have hb := B.bytes
  have hr := B.returns
  have hts := atoms_spec (ws := wsX1_cropUnder) B.pre
  have hown : s.vm.findClass RX1 = some m.cls := findClass_of_methodNamed B.named
  have hlocks := B.notSynchronized
  subst hsz
  have hD := hD0.self (sz := s.heap.size)
  generalize hAe : va_A (cStand Y aS (hT 0) vS gS ++ cTold Y hT tT) s.heap.size = A at hD ⊢
  have hA : ∀ q : Nat, s.heap.size ≤ q → A q := fun q h => by rw [← hAe]; exact Or.inr h
  have hS : va_S A s.heap s.heap [] := va_S.rf
  have hi1 : ∀ w ∈ wsX10, w ∈ wsX1_cropUnder := fun w h => List.mem_cons_of_mem _ (List.mem_append_left _ (List.mem_append_right _ h))
  have hi3 : ∀ w ∈ wsX30, w ∈ wsX1_cropUnder := fun w h => List.mem_cons_of_mem _ (List.mem_append_right _ h)
  have hl := lv_entry ([.ref (aS 0), .int i1]) (n := 3) (Nat.le_of_ble_eq_true rfl)
  rw [lg_entry_eq]
  generalize (lg_sl ([.ref (aS 0), .int i1]) ++ List.replicate (3 - (lg_sl ([.ref (aS 0), .int i1])).length) Slot.unset).toArray = ls at hl ⊢
  have hl : lv_has ls 3 [(0, .ref (aS 0)), (1, .int i1)] := hl
  obtain ⟨QQ, hQQ⟩ : ∃ Q : State → Prop, Q = MQ below (qiW rr D (cStand Y aS (hT 0) vS gS ++ cTold Y hT tT) A) ([.ref (aS 0), .int i1] : List Value).toArray s 0 0 A := ⟨_, rfl⟩
  rw [← hQQ]
  unfold MX1_cropUnder at hM
  suffices hI : ∀ (H : Heap) (locs : List Loc), va_P D vwCl (cStand Y aS (hT 0) vS gS ++ cTold Y hT tT) H → va_S A s.heap H locs → W p l e (headSpec wsX1_cropUnder rmX1_cropUnder).room s m ([.ref (aS 0), .int i1] : List Value).toArray below meth c H locs 0 0 QQ (F0 m 0 ls []) from hI _ _ hP hS
  clear hP hS
  intro H locs hP hS
  refine lv_aload_n hx hb dX1_cropUnder_0 rfl (lv_at hl 0 rfl) ?_
  refine va_get hx hb hts hi1 hown hK hP 0 rfl rfl 0 (by decide) (hts (.fieldLink RX1 21 "NightPlots$Standing" "told" "LNightPlots$Told;") (List.mem_of_getElem? (i := 1) rfl)) (fun _ h9 => h9) rfl dX1_cropUnder_1 ?_
  refine va_get hx hb hts hi3 hown hK hP 3 rfl rfl 7 (by decide) (hts (.fieldLink RX1 77 "NightPlots$Told" "crop" "[I") (List.mem_of_getElem? (i := 2) rfl)) (fun _ h9 => h9) rfl dX1_cropUnder_4 ?_
  refine lv_aload_n hx hb dX1_cropUnder_7 rfl (lv_at hl 0 rfl) ?_
  refine va_get hx hb hts hi1 hown hK hP 0 rfl rfl 1 (by decide) (hts (.fieldLink RX1 9 "NightPlots$Standing" "place" "[I") (List.mem_of_getElem? (i := 3) rfl)) (fun _ h9 => h9) rfl dX1_cropUnder_8 ?_
  refine lv_iload_n hx hb dX1_cropUnder_11 rfl (lv_at hl 1 rfl) ?_
  obtain ⟨hi_1, hM⟩ := chkI_at hM
  refine va_iald hx hb hK hP 1 0 rfl rfl hi_1 dX1_cropUnder_12 ?_
  obtain ⟨hi_2, hM⟩ := chkI_at hM
  refine va_iald hx hb hK hP 4 0 rfl rfl hi_2 dX1_cropUnder_13 ?_
  refine lv_topi (fun x3 ex3 => ?_)
  replace hM := nm_at hM ex3
  refine lv_istore_n (lv' := [(2, .int x3), (0, .ref (aS 0)), (1, .int i1)]) hx hb dX1_cropUnder_14 rfl hl (by decide) rfl (fun ls hl => ?_)
  refine lv_aload_n hx hb dX1_cropUnder_15 rfl (lv_at hl 1 rfl) ?_
  refine va_get hx hb hts hi1 hown hK hP 0 rfl rfl 0 (by decide) (hts (.fieldLink RX1 21 "NightPlots$Standing" "told" "LNightPlots$Told;") (List.mem_of_getElem? (i := 1) rfl)) (fun _ h9 => h9) rfl dX1_cropUnder_16 ?_
  refine va_get hx hb hts hi3 hown hK hP 3 rfl rfl 8 (by decide) (hts (.fieldLink RX1 63 "NightPlots$Told" "kind" "[I") (List.mem_of_getElem? (i := 4) rfl)) (fun _ h9 => h9) rfl dX1_cropUnder_19 ?_
  refine lv_iload_n hx hb dX1_cropUnder_22 rfl (lv_at hl 2 rfl) ?_
  obtain ⟨hi_4, hM⟩ := chkI_at hM
  refine va_iald hx hb hK hP 5 0 rfl rfl hi_4 dX1_cropUnder_23 ?_
  refine lv_iconst (v := (3 : Int32)) hx hb dX1_cropUnder_24 (by decide) ?_
  refine jn1_at (fun (x5 : Int32) => ∀ (H : Heap) (locs : List Loc) (ls : Array Slot), va_P D vwCl (cStand Y aS (hT 0) vS gS ++ cTold Y hT tT) H → va_S A s.heap H locs → lv_has ls 3 [] → W p l e (headSpec wsX1_cropUnder rmX1_cropUnder).room s m ([.ref (aS 0), .int i1] : List Value).toArray below meth c H locs 0 0 QQ (F0 m 55 ls [.int x5])) hM (fun x5 hM H locs ls hP hS hl => ?_) (fun k6 hJ6 hM => ?_)
  · cases hM
    rw [hQQ]
    exact W.iret hx hb hr (fun t ht hW => ⟨⟨_, (), rfl, rfl, by show va_P D vwCl _ t.heap; rw [ht]; exact hP⟩, hS.F ht⟩) hS.2.2 dX1_cropUnder_55
  · refine lv_icmp_ne (tgt := 54) hx hb dX1_cropUnder_25 (by decide) (fun c7 => ?_) (fun c7 => ?_)
    · replace hM := if_at_neg hM c7
      refine lv_iload_n hx hb dX1_cropUnder_54 rfl (lv_at hl 0 rfl) ?_
      exact hJ6 x3 hM H locs ls hP hS (lv_sub hl [] rfl)
    · replace hM := if_at_pos hM c7
      refine lv_iload_n hx hb dX1_cropUnder_28 rfl (lv_at hl 0 rfl) ?_
      refine lv_aload_n hx hb dX1_cropUnder_29 rfl (lv_at hl 1 rfl) ?_
      refine va_get hx hb hts hi1 hown hK hP 0 rfl rfl 0 (by decide) (hts (.fieldLink RX1 21 "NightPlots$Standing" "told" "LNightPlots$Told;") (List.mem_of_getElem? (i := 1) rfl)) (fun _ h9 => h9) rfl dX1_cropUnder_30 ?_
      refine va_get hx hb hts hi3 hown hK hP 3 rfl rfl 7 (by decide) (hts (.fieldLink RX1 77 "NightPlots$Told" "crop" "[I") (List.mem_of_getElem? (i := 2) rfl)) (fun _ h9 => h9) rfl dX1_cropUnder_33 ?_
      refine lv_aload_n hx hb dX1_cropUnder_36 rfl (lv_at hl 1 rfl) ?_
      refine va_get hx hb hts hi1 hown hK hP 0 rfl rfl 0 (by decide) (hts (.fieldLink RX1 21 "NightPlots$Standing" "told" "LNightPlots$Told;") (List.mem_of_getElem? (i := 1) rfl)) (fun _ h9 => h9) rfl dX1_cropUnder_37 ?_
      refine lv_aload_n hx hb dX1_cropUnder_40 rfl (lv_at hl 1 rfl) ?_
      refine va_get hx hb hts hi1 hown hK hP 0 rfl rfl 1 (by decide) (hts (.fieldLink RX1 9 "NightPlots$Standing" "place" "[I") (List.mem_of_getElem? (i := 3) rfl)) (fun _ h9 => h9) rfl dX1_cropUnder_41 ?_
      refine lv_iload_n hx hb dX1_cropUnder_44 rfl (lv_at hl 2 rfl) ?_
      obtain ⟨hi_8, hM⟩ := chkI_at hM
      refine va_iald hx hb hK hP 1 0 rfl rfl hi_8 dX1_cropUnder_45 ?_
      obtain ⟨r9, hc10, hM⟩ := bnd1_at hM
      refine cm_i (w2 := (cStand Y aS (hT 0) vS gS ++ cTold Y hT tT)) (va_runV (As := [.int (gS 1 i1.toNatClampNeg)]) (rest := [.ref (hT 1), .int x3]) ⟨hx, hb, hml, hown, hts⟩ (ctX3_next l D Y hT H.size tT (gS 1 i1.toNatClampNeg) r9 hc10) (cwV 1 hts gX1_cropUnder_X3_next rfl rfl rfl (by decide +kernel) ⟨Nat.le_of_ble_eq_true rfl, Nat.le_of_ble_eq_true rfl⟩) (pcW_V (ci := 3) (q0 := 3) hK hP (hD.same rfl) [3, 4, 5, 6, 7, 8, 9, 10] rfl (pc_map (pc_cons rfl (pc_cons rfl (pc_cons rfl (pc_cons rfl (pc_cons rfl (pc_cons rfl (pc_cons rfl (pc_cons rfl pc_nil))))))))) rfl rfl) rfl rfl hl.1 rfl (lv_room (Nat.le_of_ble_eq_true rfl)) dX1_cropUnder_46 ⟨Nat.zero_le _, Nat.zero_le _⟩) hP (hD.same rfl) hS hA [3, 4, 5, 6, 7, 8, 9, 10] (pc_map (pc_cons rfl (pc_cons rfl (pc_cons rfl (pc_cons rfl (pc_cons rfl (pc_cons rfl (pc_cons rfl (pc_cons rfl pc_nil))))))))) (up_old rfl rfl (up_old rfl rfl (up_old rfl rfl (up_new 0 rfl (up_new 1 rfl (up_new 2 rfl (up_new 3 rfl (up_new 4 rfl (up_new 5 rfl (up_new 6 rfl (up_new 7 rfl up_nil))))))))))) (fun H locs hP hS => ?_)
      obtain ⟨hi_11, hM⟩ := chkI_at hM
      refine va_iald hx hb hK hP 4 0 rfl rfl hi_11 dX1_cropUnder_49 ?_
      refine lv_iadd hx hb dX1_cropUnder_50 ?_
      refine lv_goto (tgt := 55) hx hb dX1_cropUnder_51 (by decide) ?_
      exact hJ6 (x3 + (tT 1 r9.toNatClampNeg)) hM H locs ls hP hS (lv_sub hl [] rfl)
noncomputable def BX1_findPathWays_6 (tT : GS) (k3 : Int32 → (Nat → Int32) → Option (Int32 × (Nat → Int32))) (i1 : Int32) (gS : GS) (rec7 : Int32 → Int32 → (Nat → Int32) → Option (Int32 × (Nat → Int32))) (x4 : Int32) (x5 : Int32) (fR_6 : Nat → Int32) : Option (Int32 × (Nat → Int32)) := if (tT 0 2) ≤ x5 then (k3 x4 fR_6) else (if (8 : Int32) ≤ x4 then (k3 x4 fR_6) else (bnd1 (MX3_otherEnd tT x5 i1) fun (r10 : Int32) => jn2 (fun (x12 : Int32) (fR_13 : Nat → Int32) => nm (x5 + 1) fun (x15 : Int32) => rec7 x12 x15 fR_13) (fun k14 => if r10 = (-1 : Int32) then (k14 x4 fR_6) else (bnd1 (MX1_isEmpty gS r10) fun (r17 : Int32) => if r17 = 0 then (k14 x4 fR_6) else (chkI x4 8 (nm (upd fR_6 x4.toNatClampNeg r10) fun (fR_21 : Nat → Int32) => nm (x4 + 1) fun (x22 : Int32) => k14 x22 fR_21))))))
noncomputable def MX1_findPathWays (gS : GS) (fR : Nat → Int32) (tT : GS) (i1 : Int32) (i3 : Int32) : Option (Int32 × (Nat → Int32)) := jn2 (fun (x1 : Int32) (fR_2 : Nat → Int32) => some (x1, fR_2)) (fun k3 => lq3 (BX1_findPathWays_6 tT k3 i1 gS) FU i3 (0 : Int32) fR)
abbrev rmX1_findPathWays : Room := { frames := 2, cells := 0, slots := 0, locals := 80 }
set_option maxHeartbeats 4000000 in
set_option maxRecDepth 100000 in
theorem ctX1_findPathWays (l : Launch) (D : va_G) (Y : Nat → ClassId) (aS : Nat → Nat) (qR : Nat) (hT : Nat → Nat) (vS : Nat) (sz : Nat) (gS : GS) (fR : Nat → Int32) (tT : GS) (i1 : Int32) (i3 : Int32) (rr : Int32) (fRz : Nat → Int32) (hM : MX1_findPathWays gS fR tT i1 i3 = some (rr, fRz)) : Met l yX1_findPathWays wsX1_findPathWays rmX1_findPathWays (pcW [.ref (aS 0), .int i1, .ref qR, .int i3] sz D Y (cStand Y aS (hT 0) vS gS ++ cRow Y qR 8 fR ++ cTold Y hT tT)) (qiW rr D (cStand Y aS (hT 0) vS gS ++ cRow Y qR 8 fRz ++ cTold Y hT tT) (va_A (cStand Y aS (hT 0) vS gS ++ cRow Y qR 8 fR ++ cTold Y hT tT) sz)) 0 0 (va_A (cStand Y aS (hT 0) vS gS ++ cRow Y qR 8 fR ++ cTold Y hT tT) sz) := by
  refine Met.ofW (cc := cX1_findPathWays) (maxL := 7) (ret := (some .int)) (by decide) rfl ?_
  intro p e s m args below meth c s₁ B hml hv
  obtain ⟨rfl, hsz, hP, hK, hD0⟩ := hv
  have hx := B.exec
  have hb := B.bytes
  have hr := B.returns
  have hts := atoms_spec (ws := wsX1_findPathWays) B.pre
  have hown : s.vm.findClass RX1 = some m.cls := findClass_of_methodNamed B.named
  have hlocks := B.notSynchronized
  subst hsz
  have hD := hD0.self (sz := s.heap.size)
  generalize hAe : va_A (cStand Y aS (hT 0) vS gS ++ cRow Y qR 8 fR ++ cTold Y hT tT) s.heap.size = A at hD ⊢
  have hA : ∀ q : Nat, s.heap.size ≤ q → A q := fun q h => by rw [← hAe]; exact Or.inr h
  have hS : va_S A s.heap s.heap [] := va_S.rf
  have hi1 : ∀ w ∈ wsX10, w ∈ wsX1_findPathWays := fun w h => List.mem_cons_of_mem _ (List.mem_append_left _ (List.mem_append_right _ h))
  have hi3 : ∀ w ∈ wsX30, w ∈ wsX1_findPathWays := fun w h => List.mem_cons_of_mem _ (List.mem_append_right _ h)
  have hl := lv_entry ([.ref (aS 0), .int i1, .ref qR, .int i3]) (n := 7) (Nat.le_of_ble_eq_true rfl)
  rw [lg_entry_eq]
  generalize (lg_sl ([.ref (aS 0), .int i1, .ref qR, .int i3]) ++ List.replicate (7 - (lg_sl ([.ref (aS 0), .int i1, .ref qR, .int i3])).length) Slot.unset).toArray = ls at hl ⊢
  have hl : lv_has ls 7 [(0, .ref (aS 0)), (1, .int i1), (2, .ref qR), (3, .int i3)] := hl
  obtain ⟨QQ, hQQ⟩ : ∃ Q : State → Prop, Q = MQ below (qiW rr D (cStand Y aS (hT 0) vS gS ++ cRow Y qR 8 fRz ++ cTold Y hT tT) A) ([.ref (aS 0), .int i1, .ref qR, .int i3] : List Value).toArray s 0 0 A := ⟨_, rfl⟩
  rw [← hQQ]
  unfold MX1_findPathWays at hM
  suffices hI : ∀ (H : Heap) (locs : List Loc), va_P D vwCl (cStand Y aS (hT 0) vS gS ++ cRow Y qR 8 fR ++ cTold Y hT tT) H → va_S A s.heap H locs → W p l e (headSpec wsX1_findPathWays rmX1_findPathWays).room s m ([.ref (aS 0), .int i1, .ref qR, .int i3] : List Value).toArray below meth c H locs 0 0 QQ (F0 m 0 ls []) from hI _ _ hP hS
  clear hP hS
  intro H locs hP hS
  refine lv_iload_n hx hb dX1_findPathWays_0 rfl (lv_at hl 3 rfl) ?_
  refine lv_istore (lv' := [(4, .int i3), (0, .ref (aS 0)), (1, .int i1), (2, .ref qR), (3, .int i3)]) hx hb dX1_findPathWays_1 hl (by decide) rfl (fun ls hl => ?_)
  refine lv_iconst (v := (0 : Int32)) hx hb dX1_findPathWays_3 (by decide) ?_
  refine lv_istore (lv' := [(5, .int (0 : Int32)), (4, .int i3), (0, .ref (aS 0)), (1, .int i1), (2, .ref qR), (3, .int i3)]) hx hb dX1_findPathWays_4 hl (by decide) rfl (fun ls hl => ?_)
  refine jn2_at (fun (x1 : Int32) (fR_2 : Nat → Int32) => ∀ (H : Heap) (locs : List Loc) (ls : Array Slot), va_P D vwCl (cStand Y aS (hT 0) vS gS ++ cRow Y qR 8 fR_2 ++ cTold Y hT tT) H → va_S A s.heap H locs → lv_has ls 7 [(4, .int x1)] → W p l e (headSpec wsX1_findPathWays rmX1_findPathWays).room s m ([.ref (aS 0), .int i1, .ref qR, .int i3] : List Value).toArray below meth c H locs 0 0 QQ (F0 m 67 ls [])) hM (fun x1 fR_2 hM H locs ls hP hS hl => ?_) (fun k3 hJ3 hM => ?_)
  · refine lv_iload hx hb dX1_findPathWays_67 (lv_at hl 0 rfl) ?_
    cases hM
    rw [hQQ]
    exact W.iret hx hb hr (fun t ht hW => ⟨⟨_, (), rfl, rfl, by show va_P D vwCl _ t.heap; rw [ht]; exact hP⟩, hS.F ht⟩) hS.2.2 dX1_findPathWays_69
  · refine lq3_at (fun (x4 : Int32) (x5 : Int32) (fR_6 : Nat → Int32) => ∀ (H : Heap) (locs : List Loc) (ls : Array Slot), va_P D vwCl (cStand Y aS (hT 0) vS gS ++ cRow Y qR 8 fR_6 ++ cTold Y hT tT) H → va_S A s.heap H locs → lv_has ls 7 [(0, .ref (aS 0)), (1, .int i1), (2, .ref qR), (4, .int x4), (5, .int x5)] → W p l e (headSpec wsX1_findPathWays rmX1_findPathWays).room s m ([.ref (aS 0), .int i1, .ref qR, .int i3] : List Value).toArray below meth c H locs 0 0 QQ (F0 m 6 ls [])) (fun rec7 x4 x5 fR_6 ih7 hM H locs ls hP hS hl => ?_) FU i3 (0 : Int32) fR hM H locs ls hP hS (lv_sub hl [2, 3, 4, 1, 0] rfl)
    unfold BX1_findPathWays_6 at hM
    refine lv_iload hx hb dX1_findPathWays_6 (lv_at hl 4 rfl) ?_
    refine lv_aload_n hx hb dX1_findPathWays_8 rfl (lv_at hl 0 rfl) ?_
    refine va_get hx hb hts hi1 hown hK hP 0 rfl rfl 0 (by decide) (hts (.fieldLink RX1 21 "NightPlots$Standing" "told" "LNightPlots$Told;") (List.mem_of_getElem? (i := 1) rfl)) (fun _ h9 => h9) rfl dX1_findPathWays_9 ?_
    refine va_get hx hb hts hi3 hown hK hP 4 rfl rfl 2 (by decide) (hts (.fieldLink RX1 94 "NightPlots$Told" "paths" "I") (List.mem_of_getElem? (i := 2) rfl)) (fun _ h9 => h9) rfl dX1_findPathWays_12 ?_
    refine lv_icmp_ge (tgt := 67) hx hb dX1_findPathWays_15 (by decide) (fun c8 => ?_) (fun c8 => ?_)
    · replace hM := if_at_pos hM c8
      exact hJ3 x4 fR_6 hM H locs ls hP hS (lv_sub hl [3] rfl)
    · replace hM := if_at_neg hM c8
      refine lv_iload hx hb dX1_findPathWays_18 (lv_at hl 3 rfl) ?_
      refine lv_aload_n hx hb dX1_findPathWays_20 rfl (lv_at hl 2 rfl) ?_
      refine va_alen (v := (8 : Int32)) hx hb hK hP 3 0 rfl rfl rfl dX1_findPathWays_21 ?_
      refine lv_icmp_ge (tgt := 67) hx hb dX1_findPathWays_22 (by decide) (fun c9 => ?_) (fun c9 => ?_)
      · replace hM := if_at_pos hM c9
        exact hJ3 x4 fR_6 hM H locs ls hP hS (lv_sub hl [3] rfl)
      · replace hM := if_at_neg hM c9
        refine lv_aload_n hx hb dX1_findPathWays_25 rfl (lv_at hl 0 rfl) ?_
        refine va_get hx hb hts hi1 hown hK hP 0 rfl rfl 0 (by decide) (hts (.fieldLink RX1 21 "NightPlots$Standing" "told" "LNightPlots$Told;") (List.mem_of_getElem? (i := 1) rfl)) (fun _ h9 => h9) rfl dX1_findPathWays_26 ?_
        refine lv_iload hx hb dX1_findPathWays_29 (lv_at hl 4 rfl) ?_
        refine lv_iload_n hx hb dX1_findPathWays_31 rfl (lv_at hl 1 rfl) ?_
        obtain ⟨r10, hc11, hM⟩ := bnd1_at hM
        refine cm_i (w2 := (cStand Y aS (hT 0) vS gS ++ cRow Y qR 8 fR_6 ++ cTold Y hT tT)) (va_runV (As := [.int x5, .int i1]) (rest := []) ⟨hx, hb, hml, hown, hts⟩ (ctX3_otherEnd l D Y hT H.size tT x5 i1 r10 hc11) (cwV 2 hts gX1_findPathWays_X3_otherEnd rfl rfl rfl (by decide +kernel) ⟨Nat.le_of_ble_eq_true rfl, Nat.le_of_ble_eq_true rfl⟩) (pcW_V (ci := 3) (q0 := 4) hK hP (hD.same rfl) [4, 5, 6, 7, 8, 9, 10, 11] rfl (pc_map (pc_cons rfl (pc_cons rfl (pc_cons rfl (pc_cons rfl (pc_cons rfl (pc_cons rfl (pc_cons rfl (pc_cons rfl pc_nil))))))))) rfl rfl) rfl rfl hl.1 rfl (lv_room (Nat.le_of_ble_eq_true rfl)) dX1_findPathWays_32 ⟨Nat.zero_le _, Nat.zero_le _⟩) hP (hD.same rfl) hS hA [4, 5, 6, 7, 8, 9, 10, 11] (pc_map (pc_cons rfl (pc_cons rfl (pc_cons rfl (pc_cons rfl (pc_cons rfl (pc_cons rfl (pc_cons rfl (pc_cons rfl pc_nil))))))))) (up_old rfl rfl (up_old rfl rfl (up_old rfl rfl (up_old rfl rfl (up_new 0 rfl (up_new 1 rfl (up_new 2 rfl (up_new 3 rfl (up_new 4 rfl (up_new 5 rfl (up_new 6 rfl (up_new 7 rfl up_nil)))))))))))) (fun H locs hP hS => ?_)
        refine lv_istore (lv' := [(6, .int r10), (0, .ref (aS 0)), (1, .int i1), (2, .ref qR), (4, .int x4), (5, .int x5)]) hx hb dX1_findPathWays_35 hl (by decide) rfl (fun ls hl => ?_)
        refine lv_iload hx hb dX1_findPathWays_37 (lv_at hl 0 rfl) ?_
        refine lv_iconst (v := (-1 : Int32)) hx hb dX1_findPathWays_39 (by decide) ?_
        refine jn2_at (fun (x12 : Int32) (fR_13 : Nat → Int32) => ∀ (H : Heap) (locs : List Loc) (ls : Array Slot), va_P D vwCl (cStand Y aS (hT 0) vS gS ++ cRow Y qR 8 fR_13 ++ cTold Y hT tT) H → va_S A s.heap H locs → lv_has ls 7 [(0, .ref (aS 0)), (1, .int i1), (2, .ref qR), (4, .int x12), (5, .int x5)] → W p l e (headSpec wsX1_findPathWays rmX1_findPathWays).room s m ([.ref (aS 0), .int i1, .ref qR, .int i3] : List Value).toArray below meth c H locs 0 0 QQ (F0 m 61 ls [])) hM (fun x12 fR_13 hM H locs ls hP hS hl => ?_) (fun k14 hJ14 hM => ?_)
        · obtain ⟨x15, ex15⟩ : ∃ z : Int32, z = (x5 + 1) := ⟨_, rfl⟩
          replace hM := nm_at hM ex15
          refine lv_iinc (v := x15) (lv' := [(5, .int x15), (0, .ref (aS 0)), (1, .int i1), (2, .ref qR), (4, .int x12)]) hx hb dX1_findPathWays_61 hl (k := 4) rfl (by rw [ex15]; rfl) (by decide) rfl (fun ls hl => ?_)
          refine lv_goto (tgt := 6) hx hb dX1_findPathWays_64 (by decide) ?_
          exact ih7 x12 x15 fR_13 hM H locs ls hP hS (lv_sub hl [1, 2, 3, 4, 0] rfl)
        · refine lv_icmp_eq (tgt := 61) hx hb dX1_findPathWays_40 (by decide) (fun c16 => ?_) (fun c16 => ?_)
          · replace hM := if_at_pos hM c16
            exact hJ14 x4 fR_6 hM H locs ls hP hS (lv_sub hl [1, 2, 3, 4, 5] rfl)
          · replace hM := if_at_neg hM c16
            refine lv_aload_n hx hb dX1_findPathWays_43 rfl (lv_at hl 1 rfl) ?_
            refine lv_iload hx hb dX1_findPathWays_44 (lv_at hl 0 rfl) ?_
            obtain ⟨r17, hc18, hM⟩ := bnd1_at hM
            refine cm_i (w2 := (cStand Y aS (hT 0) vS gS ++ cRow Y qR 8 fR_6 ++ cTold Y hT tT)) (va_runV (As := [.int r10]) (rest := []) ⟨hx, hb, hml, hown, hts⟩ (ctX1_isEmpty l D Y aS (hT 0) vS H.size gS r10 r17 hc18) (cwV 1 hts gX1_findPathWays_X1_isEmpty rfl rfl rfl (by decide +kernel) ⟨Nat.le_of_ble_eq_true rfl, Nat.le_of_ble_eq_true rfl⟩) (pcW_V (ci := 1) (q0 := 0) hK hP (hD.same rfl) [0, 1, 2] rfl (pc_map (pc_cons rfl (pc_cons rfl (pc_cons rfl pc_nil)))) rfl rfl) rfl rfl hl.1 rfl (lv_room (Nat.le_of_ble_eq_true rfl)) dX1_findPathWays_46 ⟨Nat.zero_le _, Nat.zero_le _⟩) hP (hD.same rfl) hS hA [0, 1, 2] (pc_map (pc_cons rfl (pc_cons rfl (pc_cons rfl pc_nil)))) (up_new 0 rfl (up_new 1 rfl (up_new 2 rfl (up_old rfl rfl (up_old rfl rfl (up_old rfl rfl (up_old rfl rfl (up_old rfl rfl (up_old rfl rfl (up_old rfl rfl (up_old rfl rfl (up_old rfl rfl up_nil)))))))))))) (fun H locs hP hS => ?_)
            refine lv_if_eq (tgt := 61) hx hb dX1_findPathWays_49 (by decide) (fun c19 => ?_) (fun c19 => ?_)
            · replace hM := if_at_pos hM c19
              exact hJ14 x4 fR_6 hM H locs ls hP hS (lv_sub hl [1, 2, 3, 4, 5] rfl)
            · replace hM := if_at_neg hM c19
              refine lv_aload_n hx hb dX1_findPathWays_52 rfl (lv_at hl 3 rfl) ?_
              refine lv_iload hx hb dX1_findPathWays_53 (lv_at hl 4 rfl) ?_
              refine lv_iload hx hb dX1_findPathWays_55 (lv_at hl 0 rfl) ?_
              obtain ⟨hi_20, hM⟩ := chkI_at hM
              refine va_iast hx hb hK hP (hD.same rfl) hS 3 0 rfl rfl hi_20 dX1_findPathWays_57 (fun H locs hP _ hS => ?_)
              obtain ⟨fR_21, efR_21⟩ : ∃ z : Nat → Int32, z = (upd fR_6 x4.toNatClampNeg r10) := ⟨_, rfl⟩
              have hP : va_P D vwCl (cStand Y aS (hT 0) vS gS ++ cRow Y qR 8 fR_21 ++ cTold Y hT tT) H := by rw [efR_21]; exact hP
              replace hM := nm_at hM efR_21
              obtain ⟨x22, ex22⟩ : ∃ z : Int32, z = (x4 + 1) := ⟨_, rfl⟩
              replace hM := nm_at hM ex22
              refine lv_iinc (v := x22) (lv' := [(4, .int x22), (6, .int r10), (0, .ref (aS 0)), (1, .int i1), (2, .ref qR), (5, .int x5)]) hx hb dX1_findPathWays_58 hl (k := 4) rfl (by rw [ex22]; rfl) (by decide) rfl (fun ls hl => ?_)
              exact hJ14 x22 fR_21 hM H locs ls hP hS (lv_sub hl [2, 3, 4, 0, 5] rfl)
noncomputable def MX1_findWays (gS : GS) (fR : Nat → Int32) (tT : GS) (i1 : Int32) : Option (Int32 × (Nat → Int32)) := chkI i1 8 (nm (tT 2 i1.toNatClampNeg) fun (x2 : Int32) => jn0 (chkI i1 8 (bnd1 (MX3_next tT (gS 1 i1.toNatClampNeg)) fun (r5 : Int32) => chkI i1 8 (bnd1 (MX3_previous tT (gS 1 i1.toNatClampNeg)) fun (r8 : Int32) => jn1 (fun (x10 : Int32) => bnd1 (MX1_isEmpty gS x10) fun (r12 : Int32) => jn2 (fun (x14 : Int32) (fR_15 : Nat → Int32) => bnd1 (MX1_isEmpty gS r8) fun (r17 : Int32) => jn2 (fun (x19 : Int32) (fR_20 : Nat → Int32) => jn2 (fun (fR_22 : Nat → Int32) (x23 : Int32) => some (x23, fR_22)) (fun k24 => if x2 = (1 : Int32) then (chkI i1 8 (bnd2 (MX1_findPathWays gS fR_20 tT (gS 1 i1.toNatClampNeg) x19) fun (r27 : Int32) (fR_28 : Nat → Int32) => k24 fR_28 r27)) else (k24 fR_20 x19))) (fun k21 => if r17 = 0 then (k21 x14 fR_15) else (chkI x14 8 (nm (upd fR_15 x14.toNatClampNeg r8) fun (fR_32 : Nat → Int32) => nm (x14 + 1) fun (x33 : Int32) => k21 x33 fR_32)))) (fun k16 => if r12 = 0 then (k16 (0 : Int32) fR) else (chkI (0 : Int32) 8 (nm (upd fR (0 : Int32).toNatClampNeg r5) fun (fR_36 : Nat → Int32) => nm ((0 : Int32) + 1) fun (x37 : Int32) => k16 x37 fR_36)))) (fun k11 => if x2 = (3 : Int32) then (bnd1 (MX3_next tT r5) fun (r39 : Int32) => k11 r39) else (k11 r5))))) (fun k3 => if x2 = (2 : Int32) then (if (((gS 0 8) >>> (i1 &&& 31)) &&& (1 : Int32)) = 0 then (some ((0 : Int32), fR)) else (k3)) else (k3)))
abbrev rmX1_findWays : Room := { frames := 3, cells := 0, slots := 0, locals := 120 }
set_option maxHeartbeats 4000000 in
set_option maxRecDepth 100000 in
theorem ctX1_findWays (l : Launch) (D : va_G) (Y : Nat → ClassId) (aS : Nat → Nat) (qR : Nat) (hT : Nat → Nat) (vS : Nat) (sz : Nat) (gS : GS) (fR : Nat → Int32) (tT : GS) (i1 : Int32) (rr : Int32) (fRz : Nat → Int32) (hM : MX1_findWays gS fR tT i1 = some (rr, fRz)) : Met l yX1_findWays wsX1_findWays rmX1_findWays (pcW [.ref (aS 0), .int i1, .ref qR] sz D Y (cStand Y aS (hT 0) vS gS ++ cRow Y qR 8 fR ++ cTold Y hT tT)) (qiW rr D (cStand Y aS (hT 0) vS gS ++ cRow Y qR 8 fRz ++ cTold Y hT tT) (va_A (cStand Y aS (hT 0) vS gS ++ cRow Y qR 8 fR ++ cTold Y hT tT) sz)) 0 0 (va_A (cStand Y aS (hT 0) vS gS ++ cRow Y qR 8 fR ++ cTold Y hT tT) sz) := by
  refine Met.ofW (cc := cX1_findWays) (maxL := 7) (ret := (some .int)) (by decide) rfl ?_
  intro p e s m args below meth c s₁ B hml hv
  obtain ⟨rfl, hsz, hP, hK, hD0⟩ := hv
  have hx := B.exec
  have hb := B.bytes
  have hr := B.returns
  have hts := atoms_spec (ws := wsX1_findWays) B.pre
  have hown : s.vm.findClass RX1 = some m.cls := findClass_of_methodNamed B.named
  have hlocks := B.notSynchronized
  subst hsz
  have hD := hD0.self (sz := s.heap.size)
  generalize hAe : va_A (cStand Y aS (hT 0) vS gS ++ cRow Y qR 8 fR ++ cTold Y hT tT) s.heap.size = A at hD ⊢
  have hA : ∀ q : Nat, s.heap.size ≤ q → A q := fun q h => by rw [← hAe]; exact Or.inr h
  have hS : va_S A s.heap s.heap [] := va_S.rf
  have hi1 : ∀ w ∈ wsX10, w ∈ wsX1_findWays := fun w h => List.mem_cons_of_mem _ (List.mem_append_left _ (List.mem_append_right _ h))
  have hi3 : ∀ w ∈ wsX30, w ∈ wsX1_findWays := fun w h => List.mem_cons_of_mem _ (List.mem_append_right _ h)
  have hl := lv_entry ([.ref (aS 0), .int i1, .ref qR]) (n := 7) (Nat.le_of_ble_eq_true rfl)
  rw [lg_entry_eq]
  generalize (lg_sl ([.ref (aS 0), .int i1, .ref qR]) ++ List.replicate (7 - (lg_sl ([.ref (aS 0), .int i1, .ref qR])).length) Slot.unset).toArray = ls at hl ⊢
  have hl : lv_has ls 7 [(0, .ref (aS 0)), (1, .int i1), (2, .ref qR)] := hl
  obtain ⟨QQ, hQQ⟩ : ∃ Q : State → Prop, Q = MQ below (qiW rr D (cStand Y aS (hT 0) vS gS ++ cRow Y qR 8 fRz ++ cTold Y hT tT) A) ([.ref (aS 0), .int i1, .ref qR] : List Value).toArray s 0 0 A := ⟨_, rfl⟩
  rw [← hQQ]
  unfold MX1_findWays at hM
  suffices hI : ∀ (H : Heap) (locs : List Loc), va_P D vwCl (cStand Y aS (hT 0) vS gS ++ cRow Y qR 8 fR ++ cTold Y hT tT) H → va_S A s.heap H locs → W p l e (headSpec wsX1_findWays rmX1_findWays).room s m ([.ref (aS 0), .int i1, .ref qR] : List Value).toArray below meth c H locs 0 0 QQ (F0 m 0 ls []) from hI _ _ hP hS
  clear hP hS
  intro H locs hP hS
  refine lv_aload_n hx hb dX1_findWays_0 rfl (lv_at hl 0 rfl) ?_
  refine va_get hx hb hts hi1 hown hK hP 0 rfl rfl 0 (by decide) (hts (.fieldLink RX1 21 "NightPlots$Standing" "told" "LNightPlots$Told;") (List.mem_of_getElem? (i := 1) rfl)) (fun _ h9 => h9) rfl dX1_findWays_1 ?_
  refine va_get hx hb hts hi3 hown hK hP 4 rfl rfl 8 (by decide) (hts (.fieldLink RX1 63 "NightPlots$Told" "kind" "[I") (List.mem_of_getElem? (i := 2) rfl)) (fun _ h9 => h9) rfl dX1_findWays_4 ?_
  refine lv_iload_n hx hb dX1_findWays_7 rfl (lv_at hl 1 rfl) ?_
  obtain ⟨hi_1, hM⟩ := chkI_at hM
  refine va_iald hx hb hK hP 6 0 rfl rfl hi_1 dX1_findWays_8 ?_
  refine lv_topi (fun x2 ex2 => ?_)
  replace hM := nm_at hM ex2
  refine lv_istore_n (lv' := [(3, .int x2), (0, .ref (aS 0)), (1, .int i1), (2, .ref qR)]) hx hb dX1_findWays_9 rfl hl (by decide) rfl (fun ls hl => ?_)
  refine lv_iload_n hx hb dX1_findWays_10 rfl (lv_at hl 0 rfl) ?_
  refine lv_iconst (v := (2 : Int32)) hx hb dX1_findWays_11 (by decide) ?_
  refine jn0_at (∀ (H : Heap) (locs : List Loc) (ls : Array Slot), va_P D vwCl (cStand Y aS (hT 0) vS gS ++ cRow Y qR 8 fR ++ cTold Y hT tT) H → va_S A s.heap H locs → lv_has ls 7 [(0, .ref (aS 0)), (1, .int i1), (2, .ref qR), (3, .int x2)] → W p l e (headSpec wsX1_findWays rmX1_findWays).room s m ([.ref (aS 0), .int i1, .ref qR] : List Value).toArray below meth c H locs 0 0 QQ (F0 m 28 ls [])) hM (fun  hM H locs ls hP hS hl => ?_) (fun k3 hJ3 hM => ?_)
  · refine lv_aload_n hx hb dX1_findWays_28 rfl (lv_at hl 0 rfl) ?_
    refine va_get hx hb hts hi1 hown hK hP 0 rfl rfl 0 (by decide) (hts (.fieldLink RX1 21 "NightPlots$Standing" "told" "LNightPlots$Told;") (List.mem_of_getElem? (i := 1) rfl)) (fun _ h9 => h9) rfl dX1_findWays_29 ?_
    refine lv_aload_n hx hb dX1_findWays_32 rfl (lv_at hl 0 rfl) ?_
    refine va_get hx hb hts hi1 hown hK hP 0 rfl rfl 1 (by decide) (hts (.fieldLink RX1 9 "NightPlots$Standing" "place" "[I") (List.mem_of_getElem? (i := 4) rfl)) (fun _ h9 => h9) rfl dX1_findWays_33 ?_
    refine lv_iload_n hx hb dX1_findWays_36 rfl (lv_at hl 1 rfl) ?_
    obtain ⟨hi_4, hM⟩ := chkI_at hM
    refine va_iald hx hb hK hP 1 0 rfl rfl hi_4 dX1_findWays_37 ?_
    obtain ⟨r5, hc6, hM⟩ := bnd1_at hM
    refine cm_i (w2 := (cStand Y aS (hT 0) vS gS ++ cRow Y qR 8 fR ++ cTold Y hT tT)) (va_runV (As := [.int (gS 1 i1.toNatClampNeg)]) (rest := []) ⟨hx, hb, hml, hown, hts⟩ (ctX3_next l D Y hT H.size tT (gS 1 i1.toNatClampNeg) r5 hc6) (cwV 1 hts gX1_findWays_X3_next rfl rfl rfl (by decide +kernel) ⟨Nat.le_of_ble_eq_true rfl, Nat.le_of_ble_eq_true rfl⟩) (pcW_V (ci := 3) (q0 := 4) hK hP (hD.same rfl) [4, 5, 6, 7, 8, 9, 10, 11] rfl (pc_map (pc_cons rfl (pc_cons rfl (pc_cons rfl (pc_cons rfl (pc_cons rfl (pc_cons rfl (pc_cons rfl (pc_cons rfl pc_nil))))))))) rfl rfl) rfl rfl hl.1 rfl (lv_room (Nat.le_of_ble_eq_true rfl)) dX1_findWays_38 ⟨Nat.zero_le _, Nat.zero_le _⟩) hP (hD.same rfl) hS hA [4, 5, 6, 7, 8, 9, 10, 11] (pc_map (pc_cons rfl (pc_cons rfl (pc_cons rfl (pc_cons rfl (pc_cons rfl (pc_cons rfl (pc_cons rfl (pc_cons rfl pc_nil))))))))) (up_old rfl rfl (up_old rfl rfl (up_old rfl rfl (up_old rfl rfl (up_new 0 rfl (up_new 1 rfl (up_new 2 rfl (up_new 3 rfl (up_new 4 rfl (up_new 5 rfl (up_new 6 rfl (up_new 7 rfl up_nil)))))))))))) (fun H locs hP hS => ?_)
    refine lv_istore (lv' := [(4, .int r5), (0, .ref (aS 0)), (1, .int i1), (2, .ref qR), (3, .int x2)]) hx hb dX1_findWays_41 hl (by decide) rfl (fun ls hl => ?_)
    refine lv_aload_n hx hb dX1_findWays_43 rfl (lv_at hl 1 rfl) ?_
    refine va_get hx hb hts hi1 hown hK hP 0 rfl rfl 0 (by decide) (hts (.fieldLink RX1 21 "NightPlots$Standing" "told" "LNightPlots$Told;") (List.mem_of_getElem? (i := 1) rfl)) (fun _ h9 => h9) rfl dX1_findWays_44 ?_
    refine lv_aload_n hx hb dX1_findWays_47 rfl (lv_at hl 1 rfl) ?_
    refine va_get hx hb hts hi1 hown hK hP 0 rfl rfl 1 (by decide) (hts (.fieldLink RX1 9 "NightPlots$Standing" "place" "[I") (List.mem_of_getElem? (i := 4) rfl)) (fun _ h9 => h9) rfl dX1_findWays_48 ?_
    refine lv_iload_n hx hb dX1_findWays_51 rfl (lv_at hl 2 rfl) ?_
    obtain ⟨hi_7, hM⟩ := chkI_at hM
    refine va_iald hx hb hK hP 1 0 rfl rfl hi_7 dX1_findWays_52 ?_
    obtain ⟨r8, hc9, hM⟩ := bnd1_at hM
    refine cm_i (w2 := (cStand Y aS (hT 0) vS gS ++ cRow Y qR 8 fR ++ cTold Y hT tT)) (va_runV (As := [.int (gS 1 i1.toNatClampNeg)]) (rest := []) ⟨hx, hb, hml, hown, hts⟩ (ctX3_previous l D Y hT H.size tT (gS 1 i1.toNatClampNeg) r8 hc9) (cwV 1 hts gX1_findWays_X3_previous rfl rfl rfl (by decide +kernel) ⟨Nat.le_of_ble_eq_true rfl, Nat.le_of_ble_eq_true rfl⟩) (pcW_V (ci := 3) (q0 := 4) hK hP (hD.same rfl) [4, 5, 6, 7, 8, 9, 10, 11] rfl (pc_map (pc_cons rfl (pc_cons rfl (pc_cons rfl (pc_cons rfl (pc_cons rfl (pc_cons rfl (pc_cons rfl (pc_cons rfl pc_nil))))))))) rfl rfl) rfl rfl hl.1 rfl (lv_room (Nat.le_of_ble_eq_true rfl)) dX1_findWays_53 ⟨Nat.zero_le _, Nat.zero_le _⟩) hP (hD.same rfl) hS hA [4, 5, 6, 7, 8, 9, 10, 11] (pc_map (pc_cons rfl (pc_cons rfl (pc_cons rfl (pc_cons rfl (pc_cons rfl (pc_cons rfl (pc_cons rfl (pc_cons rfl pc_nil))))))))) (up_old rfl rfl (up_old rfl rfl (up_old rfl rfl (up_old rfl rfl (up_new 0 rfl (up_new 1 rfl (up_new 2 rfl (up_new 3 rfl (up_new 4 rfl (up_new 5 rfl (up_new 6 rfl (up_new 7 rfl up_nil)))))))))))) (fun H locs hP hS => ?_)
    refine lv_istore (lv' := [(5, .int r8), (4, .int r5), (0, .ref (aS 0)), (1, .int i1), (2, .ref qR), (3, .int x2)]) hx hb dX1_findWays_56 hl (by decide) rfl (fun ls hl => ?_)
    refine lv_iconst (v := (0 : Int32)) hx hb dX1_findWays_58 (by decide) ?_
    refine lv_istore (lv' := [(6, .int (0 : Int32)), (5, .int r8), (4, .int r5), (0, .ref (aS 0)), (1, .int i1), (2, .ref qR), (3, .int x2)]) hx hb dX1_findWays_59 hl (by decide) rfl (fun ls hl => ?_)
    refine lv_aload_n hx hb dX1_findWays_61 rfl (lv_at hl 3 rfl) ?_
    refine lv_iload_n hx hb dX1_findWays_62 rfl (lv_at hl 6 rfl) ?_
    refine lv_iconst (v := (3 : Int32)) hx hb dX1_findWays_63 (by decide) ?_
    refine jn1_at (fun (x10 : Int32) => ∀ (H : Heap) (locs : List Loc) (ls : Array Slot), va_P D vwCl (cStand Y aS (hT 0) vS gS ++ cRow Y qR 8 fR ++ cTold Y hT tT) H → va_S A s.heap H locs → lv_has ls 7 [(0, .ref (aS 0)), (1, .int i1), (2, .ref qR), (3, .int x2), (4, .int r5), (5, .int r8), (6, .int (0 : Int32))] → W p l e (headSpec wsX1_findWays rmX1_findWays).room s m ([.ref (aS 0), .int i1, .ref qR] : List Value).toArray below meth c H locs 0 0 QQ (F0 m 81 ls [.int x10, .ref (aS 0)])) hM (fun x10 hM H locs ls hP hS hl => ?_) (fun k11 hJ11 hM => ?_)
    · obtain ⟨r12, hc13, hM⟩ := bnd1_at hM
      refine cm_i (w2 := (cStand Y aS (hT 0) vS gS ++ cRow Y qR 8 fR ++ cTold Y hT tT)) (va_runV (As := [.int x10]) (rest := []) ⟨hx, hb, hml, hown, hts⟩ (ctX1_isEmpty l D Y aS (hT 0) vS H.size gS x10 r12 hc13) (cwV 1 hts gX1_findWays_X1_isEmpty rfl rfl rfl (by decide +kernel) ⟨Nat.le_of_ble_eq_true rfl, Nat.le_of_ble_eq_true rfl⟩) (pcW_V (ci := 1) (q0 := 0) hK hP (hD.same rfl) [0, 1, 2] rfl (pc_map (pc_cons rfl (pc_cons rfl (pc_cons rfl pc_nil)))) rfl rfl) rfl rfl hl.1 rfl (lv_room (Nat.le_of_ble_eq_true rfl)) dX1_findWays_81 ⟨Nat.zero_le _, Nat.zero_le _⟩) hP (hD.same rfl) hS hA [0, 1, 2] (pc_map (pc_cons rfl (pc_cons rfl (pc_cons rfl pc_nil)))) (up_new 0 rfl (up_new 1 rfl (up_new 2 rfl (up_old rfl rfl (up_old rfl rfl (up_old rfl rfl (up_old rfl rfl (up_old rfl rfl (up_old rfl rfl (up_old rfl rfl (up_old rfl rfl (up_old rfl rfl up_nil)))))))))))) (fun H locs hP hS => ?_)
      refine jn2_at (fun (x14 : Int32) (fR_15 : Nat → Int32) => ∀ (H : Heap) (locs : List Loc) (ls : Array Slot), va_P D vwCl (cStand Y aS (hT 0) vS gS ++ cRow Y qR 8 fR_15 ++ cTold Y hT tT) H → va_S A s.heap H locs → lv_has ls 7 [(0, .ref (aS 0)), (1, .int i1), (2, .ref qR), (3, .int x2), (5, .int r8), (6, .int x14)] → W p l e (headSpec wsX1_findWays rmX1_findWays).room s m ([.ref (aS 0), .int i1, .ref qR] : List Value).toArray below meth c H locs 0 0 QQ (F0 m 96 ls [])) hM (fun x14 fR_15 hM H locs ls hP hS hl => ?_) (fun k16 hJ16 hM => ?_)
      · refine lv_aload_n hx hb dX1_findWays_96 rfl (lv_at hl 0 rfl) ?_
        refine lv_iload hx hb dX1_findWays_97 (lv_at hl 4 rfl) ?_
        obtain ⟨r17, hc18, hM⟩ := bnd1_at hM
        refine cm_i (w2 := (cStand Y aS (hT 0) vS gS ++ cRow Y qR 8 fR_15 ++ cTold Y hT tT)) (va_runV (As := [.int r8]) (rest := []) ⟨hx, hb, hml, hown, hts⟩ (ctX1_isEmpty l D Y aS (hT 0) vS H.size gS r8 r17 hc18) (cwV 1 hts gX1_findWays_X1_isEmpty rfl rfl rfl (by decide +kernel) ⟨Nat.le_of_ble_eq_true rfl, Nat.le_of_ble_eq_true rfl⟩) (pcW_V (ci := 1) (q0 := 0) hK hP (hD.same rfl) [0, 1, 2] rfl (pc_map (pc_cons rfl (pc_cons rfl (pc_cons rfl pc_nil)))) rfl rfl) rfl rfl hl.1 rfl (lv_room (Nat.le_of_ble_eq_true rfl)) dX1_findWays_99 ⟨Nat.zero_le _, Nat.zero_le _⟩) hP (hD.same rfl) hS hA [0, 1, 2] (pc_map (pc_cons rfl (pc_cons rfl (pc_cons rfl pc_nil)))) (up_new 0 rfl (up_new 1 rfl (up_new 2 rfl (up_old rfl rfl (up_old rfl rfl (up_old rfl rfl (up_old rfl rfl (up_old rfl rfl (up_old rfl rfl (up_old rfl rfl (up_old rfl rfl (up_old rfl rfl up_nil)))))))))))) (fun H locs hP hS => ?_)
        refine jn2_at (fun (x19 : Int32) (fR_20 : Nat → Int32) => ∀ (H : Heap) (locs : List Loc) (ls : Array Slot), va_P D vwCl (cStand Y aS (hT 0) vS gS ++ cRow Y qR 8 fR_20 ++ cTold Y hT tT) H → va_S A s.heap H locs → lv_has ls 7 [(0, .ref (aS 0)), (1, .int i1), (2, .ref qR), (3, .int x2), (6, .int x19)] → W p l e (headSpec wsX1_findWays rmX1_findWays).room s m ([.ref (aS 0), .int i1, .ref qR] : List Value).toArray below meth c H locs 0 0 QQ (F0 m 114 ls [])) hM (fun x19 fR_20 hM H locs ls hP hS hl => ?_) (fun k21 hJ21 hM => ?_)
        · refine lv_iload_n hx hb dX1_findWays_114 rfl (lv_at hl 3 rfl) ?_
          refine lv_iconst (v := (1 : Int32)) hx hb dX1_findWays_115 (by decide) ?_
          refine jn2_at (fun (fR_22 : Nat → Int32) (x23 : Int32) => ∀ (H : Heap) (locs : List Loc) (ls : Array Slot), va_P D vwCl (cStand Y aS (hT 0) vS gS ++ cRow Y qR 8 fR_22 ++ cTold Y hT tT) H → va_S A s.heap H locs → lv_has ls 7 [] → W p l e (headSpec wsX1_findWays rmX1_findWays).room s m ([.ref (aS 0), .int i1, .ref qR] : List Value).toArray below meth c H locs 0 0 QQ (F0 m 137 ls [.int x23])) hM (fun fR_22 x23 hM H locs ls hP hS hl => ?_) (fun k24 hJ24 hM => ?_)
          · cases hM
            rw [hQQ]
            exact W.iret hx hb hr (fun t ht hW => ⟨⟨_, (), rfl, rfl, by show va_P D vwCl _ t.heap; rw [ht]; exact hP⟩, hS.F ht⟩) hS.2.2 dX1_findWays_137
          · refine lv_icmp_ne (tgt := 135) hx hb dX1_findWays_116 (by decide) (fun c25 => ?_) (fun c25 => ?_)
            · replace hM := if_at_neg hM c25
              refine lv_iload hx hb dX1_findWays_135 (lv_at hl 4 rfl) ?_
              exact hJ24 fR_20 x19 hM H locs ls hP hS (lv_sub hl [] rfl)
            · replace hM := if_at_pos hM c25
              refine lv_aload_n hx hb dX1_findWays_119 rfl (lv_at hl 0 rfl) ?_
              refine lv_aload_n hx hb dX1_findWays_120 rfl (lv_at hl 0 rfl) ?_
              refine va_get hx hb hts hi1 hown hK hP 0 rfl rfl 1 (by decide) (hts (.fieldLink RX1 9 "NightPlots$Standing" "place" "[I") (List.mem_of_getElem? (i := 4) rfl)) (fun _ h9 => h9) rfl dX1_findWays_121 ?_
              refine lv_iload_n hx hb dX1_findWays_124 rfl (lv_at hl 1 rfl) ?_
              obtain ⟨hi_26, hM⟩ := chkI_at hM
              refine va_iald hx hb hK hP 1 0 rfl rfl hi_26 dX1_findWays_125 ?_
              refine lv_aload_n hx hb dX1_findWays_126 rfl (lv_at hl 2 rfl) ?_
              refine lv_iload hx hb dX1_findWays_127 (lv_at hl 4 rfl) ?_
              obtain ⟨r27, fR_28, hc29, hM⟩ := bnd2_at hM
              refine co_i (va_runV (As := [.int (gS 1 i1.toNatClampNeg), .ref qR, .int x19]) (rest := []) ⟨hx, hb, hml, hown, hts⟩ (ctX1_findPathWays l D Y aS qR hT vS H.size gS fR_20 tT (gS 1 i1.toNatClampNeg) x19 r27 fR_28 hc29) (cwV 3 hts gX1_findWays_X1_findPathWays rfl rfl rfl (by decide +kernel) ⟨Nat.le_of_ble_eq_true rfl, Nat.le_of_ble_eq_true rfl⟩) (pcW_V0 (ci := 1) (q0 := 0) hK hP (hD.same rfl) rfl rfl) rfl rfl hl.1 rfl (lv_room (Nat.le_of_ble_eq_true rfl)) dX1_findWays_129 ⟨Nat.zero_le _, Nat.zero_le _⟩) (hD.same rfl) hS hA (fun H locs hP hS => ?_)
              refine lv_goto (tgt := 137) hx hb dX1_findWays_132 (by decide) ?_
              exact hJ24 fR_28 r27 hM H locs ls hP hS (lv_sub hl [] rfl)
        · refine lv_if_eq (tgt := 114) hx hb dX1_findWays_102 (by decide) (fun c30 => ?_) (fun c30 => ?_)
          · replace hM := if_at_pos hM c30
            exact hJ21 x14 fR_15 hM H locs ls hP hS (lv_sub hl [0, 1, 2, 3, 5] rfl)
          · replace hM := if_at_neg hM c30
            refine lv_aload_n hx hb dX1_findWays_105 rfl (lv_at hl 2 rfl) ?_
            refine lv_iload hx hb dX1_findWays_106 (lv_at hl 5 rfl) ?_
            refine lv_iload hx hb dX1_findWays_108 (lv_at hl 4 rfl) ?_
            obtain ⟨hi_31, hM⟩ := chkI_at hM
            refine va_iast hx hb hK hP (hD.same rfl) hS 3 0 rfl rfl hi_31 dX1_findWays_110 (fun H locs hP _ hS => ?_)
            obtain ⟨fR_32, efR_32⟩ : ∃ z : Nat → Int32, z = (upd fR_15 x14.toNatClampNeg r8) := ⟨_, rfl⟩
            have hP : va_P D vwCl (cStand Y aS (hT 0) vS gS ++ cRow Y qR 8 fR_32 ++ cTold Y hT tT) H := by rw [efR_32]; exact hP
            replace hM := nm_at hM efR_32
            obtain ⟨x33, ex33⟩ : ∃ z : Int32, z = (x14 + 1) := ⟨_, rfl⟩
            replace hM := nm_at hM ex33
            refine lv_iinc (v := x33) (lv' := [(6, .int x33), (0, .ref (aS 0)), (1, .int i1), (2, .ref qR), (3, .int x2), (5, .int r8)]) hx hb dX1_findWays_111 hl (k := 5) rfl (by rw [ex33]; rfl) (by decide) rfl (fun ls hl => ?_)
            exact hJ21 x33 fR_32 hM H locs ls hP hS (lv_sub hl [1, 2, 3, 4, 0] rfl)
      · refine lv_if_eq (tgt := 96) hx hb dX1_findWays_84 (by decide) (fun c34 => ?_) (fun c34 => ?_)
        · replace hM := if_at_pos hM c34
          exact hJ16 (0 : Int32) fR hM H locs ls hP hS (lv_sub hl [0, 1, 2, 3, 5, 6] rfl)
        · replace hM := if_at_neg hM c34
          refine lv_aload_n hx hb dX1_findWays_87 rfl (lv_at hl 2 rfl) ?_
          refine lv_iload hx hb dX1_findWays_88 (lv_at hl 6 rfl) ?_
          refine lv_iload hx hb dX1_findWays_90 (lv_at hl 4 rfl) ?_
          obtain ⟨hi_35, hM⟩ := chkI_at hM
          refine va_iast hx hb hK hP (hD.same rfl) hS 3 0 rfl rfl hi_35 dX1_findWays_92 (fun H locs hP _ hS => ?_)
          obtain ⟨fR_36, efR_36⟩ : ∃ z : Nat → Int32, z = (upd fR (0 : Int32).toNatClampNeg r5) := ⟨_, rfl⟩
          have hP : va_P D vwCl (cStand Y aS (hT 0) vS gS ++ cRow Y qR 8 fR_36 ++ cTold Y hT tT) H := by rw [efR_36]; exact hP
          replace hM := nm_at hM efR_36
          obtain ⟨x37, ex37⟩ : ∃ z : Int32, z = ((0 : Int32) + 1) := ⟨_, rfl⟩
          replace hM := nm_at hM ex37
          refine lv_iinc (v := x37) (lv' := [(6, .int x37), (0, .ref (aS 0)), (1, .int i1), (2, .ref qR), (3, .int x2), (4, .int r5), (5, .int r8)]) hx hb dX1_findWays_93 hl (k := 6) rfl (by rw [ex37]; rfl) (by decide) rfl (fun ls hl => ?_)
          exact hJ16 x37 fR_36 hM H locs ls hP hS (lv_sub hl [1, 2, 3, 4, 6, 0] rfl)
    · refine lv_icmp_ne (tgt := 79) hx hb dX1_findWays_64 (by decide) (fun c38 => ?_) (fun c38 => ?_)
      · replace hM := if_at_neg hM c38
        refine lv_iload hx hb dX1_findWays_79 (lv_at hl 2 rfl) ?_
        exact hJ11 r5 hM H locs ls hP hS (lv_sub hl [3, 4, 5, 6, 2, 1, 0] rfl)
      · replace hM := if_at_pos hM c38
        refine lv_aload_n hx hb dX1_findWays_67 rfl (lv_at hl 3 rfl) ?_
        refine va_get hx hb hts hi1 hown hK hP 0 rfl rfl 0 (by decide) (hts (.fieldLink RX1 21 "NightPlots$Standing" "told" "LNightPlots$Told;") (List.mem_of_getElem? (i := 1) rfl)) (fun _ h9 => h9) rfl dX1_findWays_68 ?_
        refine lv_iload hx hb dX1_findWays_71 (lv_at hl 2 rfl) ?_
        obtain ⟨r39, hc40, hM⟩ := bnd1_at hM
        refine cm_i (w2 := (cStand Y aS (hT 0) vS gS ++ cRow Y qR 8 fR ++ cTold Y hT tT)) (va_runV (As := [.int r5]) (rest := [.ref (aS 0)]) ⟨hx, hb, hml, hown, hts⟩ (ctX3_next l D Y hT H.size tT r5 r39 hc40) (cwV 1 hts gX1_findWays_X3_next rfl rfl rfl (by decide +kernel) ⟨Nat.le_of_ble_eq_true rfl, Nat.le_of_ble_eq_true rfl⟩) (pcW_V (ci := 3) (q0 := 4) hK hP (hD.same rfl) [4, 5, 6, 7, 8, 9, 10, 11] rfl (pc_map (pc_cons rfl (pc_cons rfl (pc_cons rfl (pc_cons rfl (pc_cons rfl (pc_cons rfl (pc_cons rfl (pc_cons rfl pc_nil))))))))) rfl rfl) rfl rfl hl.1 rfl (lv_room (Nat.le_of_ble_eq_true rfl)) dX1_findWays_73 ⟨Nat.zero_le _, Nat.zero_le _⟩) hP (hD.same rfl) hS hA [4, 5, 6, 7, 8, 9, 10, 11] (pc_map (pc_cons rfl (pc_cons rfl (pc_cons rfl (pc_cons rfl (pc_cons rfl (pc_cons rfl (pc_cons rfl (pc_cons rfl pc_nil))))))))) (up_old rfl rfl (up_old rfl rfl (up_old rfl rfl (up_old rfl rfl (up_new 0 rfl (up_new 1 rfl (up_new 2 rfl (up_new 3 rfl (up_new 4 rfl (up_new 5 rfl (up_new 6 rfl (up_new 7 rfl up_nil)))))))))))) (fun H locs hP hS => ?_)
        refine lv_goto (tgt := 81) hx hb dX1_findWays_76 (by decide) ?_
        exact hJ11 r39 hM H locs ls hP hS (lv_sub hl [3, 4, 5, 6, 2, 1, 0] rfl)
  · refine lv_icmp_ne (tgt := 28) hx hb dX1_findWays_12 (by decide) (fun c41 => ?_) (fun c41 => ?_)
    · replace hM := if_at_neg hM c41
      exact hJ3 hM H locs ls hP hS (lv_sub hl [1, 2, 3, 0] rfl)
    · replace hM := if_at_pos hM c41
      refine lv_aload_n hx hb dX1_findWays_15 rfl (lv_at hl 1 rfl) ?_
      refine va_get hx hb hts hi1 hown hK hP 0 rfl rfl 8 (by decide) (hts (.fieldLink RX1 60 "NightPlots$Standing" "mended" "I") (List.mem_of_getElem? (i := 3) rfl)) (fun _ h9 => h9) rfl dX1_findWays_16 ?_
      refine lv_iload_n hx hb dX1_findWays_19 rfl (lv_at hl 2 rfl) ?_
      refine lv_ishr hx hb dX1_findWays_20 ?_
      refine lv_iconst (v := (1 : Int32)) hx hb dX1_findWays_21 (by decide) ?_
      refine lv_iand hx hb dX1_findWays_22 ?_
      refine lv_if_ne (tgt := 28) hx hb dX1_findWays_23 (by decide) (fun c42 => ?_) (fun c42 => ?_)
      · replace hM := if_at_neg hM c42
        exact hJ3 hM H locs ls hP hS (lv_sub hl [1, 2, 3, 0] rfl)
      · replace hM := if_at_pos hM c42
        refine lv_iconst (v := (0 : Int32)) hx hb dX1_findWays_26 (by decide) ?_
        cases hM
        rw [hQQ]
        exact W.iret hx hb hr (fun t ht hW => ⟨⟨_, (), rfl, rfl, by show va_P D vwCl _ t.heap; rw [ht]; exact hP⟩, hS.F ht⟩) hS.2.2 dX1_findWays_27
noncomputable def BX1_hasWayTo_13 (r1 : Int32) (k4 : Option (Int32 × (Nat → Int32))) (fR_2 : Nat → Int32) (i2 : Int32) (k5 : Option (Int32 × (Nat → Int32))) (rec7 : Int32 → Option (Int32 × (Nat → Int32))) (x6 : Int32) : Option (Int32 × (Nat → Int32)) := if r1 ≤ x6 then (k4) else (if (8 : Int32) ≤ x6 then (k4) else (chkI x6 8 (if (fR_2 x6.toNatClampNeg) = i2 then (k5) else (nm (x6 + 1) fun (x12 : Int32) => rec7 x12))))
noncomputable def MX1_hasWayTo (gS : GS) (fW : Nat → Int32) (tT : GS) (i1 : Int32) (i2 : Int32) : Option (Int32 × (Nat → Int32)) := bnd2 (MX1_findWays gS fW tT i1) fun (r1 : Int32) (fR_2 : Nat → Int32) => jn0 (some ((0 : Int32), fR_2)) (fun k4 => jn0 (some ((1 : Int32), fR_2)) (fun k5 => lq1 (BX1_hasWayTo_13 r1 k4 fR_2 i2 k5) FU (0 : Int32)))
abbrev rmX1_hasWayTo : Room := { frames := 4, cells := 0, slots := 0, locals := 160 }
set_option maxHeartbeats 4000000 in
set_option maxRecDepth 100000 in
theorem ctX1_hasWayTo (l : Launch) (D : va_G) (Y : Nat → ClassId) (aS : Nat → Nat) (vS : Nat) (hT : Nat → Nat) (sz : Nat) (gS : GS) (fW : Nat → Int32) (tT : GS) (i1 : Int32) (i2 : Int32) (rr : Int32) (fWz : Nat → Int32) (hM : MX1_hasWayTo gS fW tT i1 i2 = some (rr, fWz)) : Met l yX1_hasWayTo wsX1_hasWayTo rmX1_hasWayTo (pcW [.ref (aS 0), .int i1, .int i2] sz D Y (cStand Y aS (hT 0) vS gS ++ cRow Y vS 8 fW ++ cTold Y hT tT)) (qiW rr D (cStand Y aS (hT 0) vS gS ++ cRow Y vS 8 fWz ++ cTold Y hT tT) (va_A (cStand Y aS (hT 0) vS gS ++ cRow Y vS 8 fW ++ cTold Y hT tT) sz)) 0 0 (va_A (cStand Y aS (hT 0) vS gS ++ cRow Y vS 8 fW ++ cTold Y hT tT) sz) := by
  refine Met.ofW (cc := cX1_hasWayTo) (maxL := 5) (ret := (some .boolean)) (by decide) rfl ?_
  intro p e s m args below meth c s₁ B hml hv
  obtain ⟨rfl, hsz, hP, hK, hD0⟩ := hv
  have hx := B.exec
  have hb := B.bytes
  have hr := B.returns
  have hts := atoms_spec (ws := wsX1_hasWayTo) B.pre
  have hown : s.vm.findClass RX1 = some m.cls := findClass_of_methodNamed B.named
  have hlocks := B.notSynchronized
  subst hsz
  have hD := hD0.self (sz := s.heap.size)
  generalize hAe : va_A (cStand Y aS (hT 0) vS gS ++ cRow Y vS 8 fW ++ cTold Y hT tT) s.heap.size = A at hD ⊢
  have hA : ∀ q : Nat, s.heap.size ≤ q → A q := fun q h => by rw [← hAe]; exact Or.inr h
  have hS : va_S A s.heap s.heap [] := va_S.rf
  have hi1 : ∀ w ∈ wsX10, w ∈ wsX1_hasWayTo := fun w h => List.mem_cons_of_mem _ (List.mem_append_left _ (List.mem_append_right _ h))
  have hl := lv_entry ([.ref (aS 0), .int i1, .int i2]) (n := 5) (Nat.le_of_ble_eq_true rfl)
  rw [lg_entry_eq]
  generalize (lg_sl ([.ref (aS 0), .int i1, .int i2]) ++ List.replicate (5 - (lg_sl ([.ref (aS 0), .int i1, .int i2])).length) Slot.unset).toArray = ls at hl ⊢
  have hl : lv_has ls 5 [(0, .ref (aS 0)), (1, .int i1), (2, .int i2)] := hl
  obtain ⟨QQ, hQQ⟩ : ∃ Q : State → Prop, Q = MQ below (qiW rr D (cStand Y aS (hT 0) vS gS ++ cRow Y vS 8 fWz ++ cTold Y hT tT) A) ([.ref (aS 0), .int i1, .int i2] : List Value).toArray s 0 0 A := ⟨_, rfl⟩
  rw [← hQQ]
  unfold MX1_hasWayTo at hM
  suffices hI : ∀ (H : Heap) (locs : List Loc), va_P D vwCl (cStand Y aS (hT 0) vS gS ++ cRow Y vS 8 fW ++ cTold Y hT tT) H → va_S A s.heap H locs → W p l e (headSpec wsX1_hasWayTo rmX1_hasWayTo).room s m ([.ref (aS 0), .int i1, .int i2] : List Value).toArray below meth c H locs 0 0 QQ (F0 m 0 ls []) from hI _ _ hP hS
  clear hP hS
  intro H locs hP hS
  refine lv_aload_n hx hb dX1_hasWayTo_0 rfl (lv_at hl 0 rfl) ?_
  refine lv_iload_n hx hb dX1_hasWayTo_1 rfl (lv_at hl 1 rfl) ?_
  refine lv_aload_n hx hb dX1_hasWayTo_2 rfl (lv_at hl 0 rfl) ?_
  refine va_get hx hb hts hi1 hown hK hP 0 rfl rfl 3 (by decide) (hts (.fieldLink RX1 18 "NightPlots$Standing" "ways" "[I") (List.mem_of_getElem? (i := 1) rfl)) (fun _ h9 => h9) rfl dX1_hasWayTo_3 ?_
  obtain ⟨r1, fR_2, hc3, hM⟩ := bnd2_at hM
  refine co_i (va_runV (As := [.int i1, .ref vS]) (rest := []) ⟨hx, hb, hml, hown, hts⟩ (ctX1_findWays l D Y aS vS hT vS H.size gS fW tT i1 r1 fR_2 hc3) (cwV 2 hts gX1_hasWayTo_X1_findWays rfl rfl rfl (by decide +kernel) ⟨Nat.le_of_ble_eq_true rfl, Nat.le_of_ble_eq_true rfl⟩) (pcW_V0 (ci := 1) (q0 := 0) hK hP (hD.same rfl) rfl rfl) rfl rfl hl.1 rfl (lv_room (Nat.le_of_ble_eq_true rfl)) dX1_hasWayTo_6 ⟨Nat.zero_le _, Nat.zero_le _⟩) (hD.same rfl) hS hA (fun H locs hP hS => ?_)
  refine lv_istore_n (lv' := [(3, .int r1), (0, .ref (aS 0)), (1, .int i1), (2, .int i2)]) hx hb dX1_hasWayTo_9 rfl hl (by decide) rfl (fun ls hl => ?_)
  refine lv_iconst (v := (0 : Int32)) hx hb dX1_hasWayTo_10 (by decide) ?_
  refine lv_istore (lv' := [(4, .int (0 : Int32)), (3, .int r1), (0, .ref (aS 0)), (1, .int i1), (2, .int i2)]) hx hb dX1_hasWayTo_11 hl (by decide) rfl (fun ls hl => ?_)
  refine jn0_at (∀ (H : Heap) (locs : List Loc) (ls : Array Slot), va_P D vwCl (cStand Y aS (hT 0) vS gS ++ cRow Y vS 8 fR_2 ++ cTold Y hT tT) H → va_S A s.heap H locs → lv_has ls 5 [] → W p l e (headSpec wsX1_hasWayTo rmX1_hasWayTo).room s m ([.ref (aS 0), .int i1, .int i2] : List Value).toArray below meth c H locs 0 0 QQ (F0 m 48 ls [])) hM (fun  hM H locs ls hP hS hl => ?_) (fun k4 hJ4 hM => ?_)
  · refine lv_iconst (v := (0 : Int32)) hx hb dX1_hasWayTo_48 (by decide) ?_
    cases hM
    rw [hQQ]
    exact W.zret (ty := .boolean) hx hb hr rfl (fun t ht hW => ⟨⟨_, (), rfl, rfl, by show va_P D vwCl _ t.heap; rw [ht]; exact hP⟩, hS.F ht⟩) hS.2.2 dX1_hasWayTo_49
  · refine jn0_at (∀ (H : Heap) (locs : List Loc) (ls : Array Slot), va_P D vwCl (cStand Y aS (hT 0) vS gS ++ cRow Y vS 8 fR_2 ++ cTold Y hT tT) H → va_S A s.heap H locs → lv_has ls 5 [] → W p l e (headSpec wsX1_hasWayTo rmX1_hasWayTo).room s m ([.ref (aS 0), .int i1, .int i2] : List Value).toArray below meth c H locs 0 0 QQ (F0 m 40 ls [])) hM (fun  hM H locs ls hP hS hl => ?_) (fun k5 hJ5 hM => ?_)
    · refine lv_iconst (v := (1 : Int32)) hx hb dX1_hasWayTo_40 (by decide) ?_
      cases hM
      rw [hQQ]
      exact W.zret (ty := .boolean) hx hb hr rfl (fun t ht hW => ⟨⟨_, (), rfl, rfl, by show va_P D vwCl _ t.heap; rw [ht]; exact hP⟩, hS.F ht⟩) hS.2.2 dX1_hasWayTo_41
    · refine lq1_at (fun (x6 : Int32) => ∀ (H : Heap) (locs : List Loc) (ls : Array Slot), va_P D vwCl (cStand Y aS (hT 0) vS gS ++ cRow Y vS 8 fR_2 ++ cTold Y hT tT) H → va_S A s.heap H locs → lv_has ls 5 [(0, .ref (aS 0)), (2, .int i2), (3, .int r1), (4, .int x6)] → W p l e (headSpec wsX1_hasWayTo rmX1_hasWayTo).room s m ([.ref (aS 0), .int i1, .int i2] : List Value).toArray below meth c H locs 0 0 QQ (F0 m 13 ls [])) (fun rec7 x6 ih7 hM H locs ls hP hS hl => ?_) FU (0 : Int32) hM H locs ls hP hS (lv_sub hl [2, 4, 1, 0] rfl)
      unfold BX1_hasWayTo_13 at hM
      refine lv_iload hx hb dX1_hasWayTo_13 (lv_at hl 3 rfl) ?_
      refine lv_iload_n hx hb dX1_hasWayTo_15 rfl (lv_at hl 2 rfl) ?_
      refine lv_icmp_ge (tgt := 48) hx hb dX1_hasWayTo_16 (by decide) (fun c8 => ?_) (fun c8 => ?_)
      · replace hM := if_at_pos hM c8
        exact hJ4 hM H locs ls hP hS (lv_sub hl [] rfl)
      · replace hM := if_at_neg hM c8
        refine lv_iload hx hb dX1_hasWayTo_19 (lv_at hl 3 rfl) ?_
        refine lv_aload_n hx hb dX1_hasWayTo_21 rfl (lv_at hl 0 rfl) ?_
        refine va_get hx hb hts hi1 hown hK hP 0 rfl rfl 3 (by decide) (hts (.fieldLink RX1 18 "NightPlots$Standing" "ways" "[I") (List.mem_of_getElem? (i := 1) rfl)) (fun _ h9 => h9) rfl dX1_hasWayTo_22 ?_
        refine va_alen (v := (8 : Int32)) hx hb hK hP 3 0 rfl rfl rfl dX1_hasWayTo_25 ?_
        refine lv_icmp_ge (tgt := 48) hx hb dX1_hasWayTo_26 (by decide) (fun c9 => ?_) (fun c9 => ?_)
        · replace hM := if_at_pos hM c9
          exact hJ4 hM H locs ls hP hS (lv_sub hl [] rfl)
        · replace hM := if_at_neg hM c9
          refine lv_aload_n hx hb dX1_hasWayTo_29 rfl (lv_at hl 0 rfl) ?_
          refine va_get hx hb hts hi1 hown hK hP 0 rfl rfl 3 (by decide) (hts (.fieldLink RX1 18 "NightPlots$Standing" "ways" "[I") (List.mem_of_getElem? (i := 1) rfl)) (fun _ h9 => h9) rfl dX1_hasWayTo_30 ?_
          refine lv_iload hx hb dX1_hasWayTo_33 (lv_at hl 3 rfl) ?_
          obtain ⟨hi_10, hM⟩ := chkI_at hM
          refine va_iald hx hb hK hP 3 0 rfl rfl hi_10 dX1_hasWayTo_35 ?_
          refine lv_iload_n hx hb dX1_hasWayTo_36 rfl (lv_at hl 1 rfl) ?_
          refine lv_icmp_ne (tgt := 42) hx hb dX1_hasWayTo_37 (by decide) (fun c11 => ?_) (fun c11 => ?_)
          · replace hM := if_at_neg hM c11
            obtain ⟨x12, ex12⟩ : ∃ z : Int32, z = (x6 + 1) := ⟨_, rfl⟩
            replace hM := nm_at hM ex12
            refine lv_iinc (v := x12) (lv' := [(4, .int x12), (0, .ref (aS 0)), (2, .int i2), (3, .int r1)]) hx hb dX1_hasWayTo_42 hl (k := 3) rfl (by rw [ex12]; rfl) (by decide) rfl (fun ls hl => ?_)
            refine lv_goto (tgt := 13) hx hb dX1_hasWayTo_45 (by decide) ?_
            exact ih7 x12 hM H locs ls hP hS (lv_sub hl [1, 2, 3, 0] rfl)
          · replace hM := if_at_pos hM c11
            exact hJ5 hM H locs ls hP hS (lv_sub hl [] rfl)
noncomputable def MX1_moveHouse (gS : GS) (tT : GS) (i1 : Int32) (i2 : Int32) : Option (GS) := chkI i1 8 (chkI i1 8 (bnd1 (MX3_ground tT (tT 2 i1.toNatClampNeg) (gS 1 i1.toNatClampNeg)) fun (r3 : Int32) => nm ((gS 0 4) &&& (r3 ^^^ (-1 : Int32))) fun (x5 : Int32) => nm (up2 gS 0 4 x5) fun (gS_6 : GS) => chkI i1 8 (nm (upA gS_6 1 (upd (gS_6 1) i1.toNatClampNeg i2)) fun (gS_8 : GS) => chkI i1 8 (bnd1 (MX3_ground tT (tT 2 i1.toNatClampNeg) i2) fun (r10 : Int32) => nm ((gS_8 0 4) ||| r10) fun (x12 : Int32) => nm (up2 gS_8 0 4 x12) fun (gS_13 : GS) => some (gS_13)))))
abbrev rmX1_moveHouse : Room := { frames := 3, cells := 0, slots := 0, locals := 120 }
set_option maxHeartbeats 4000000 in
set_option maxRecDepth 100000 in
theorem ctX1_moveHouse (l : Launch) (D : va_G) (Y : Nat → ClassId) (aS : Nat → Nat) (hT : Nat → Nat) (vS : Nat) (sz : Nat) (gS : GS) (tT : GS) (i1 : Int32) (i2 : Int32) (gSz : GS) (hM : MX1_moveHouse gS tT i1 i2 = some (gSz)) : Met l yX1_moveHouse wsX1_moveHouse rmX1_moveHouse (pcW [.ref (aS 0), .int i1, .int i2] sz D Y (cStand Y aS (hT 0) vS gS ++ cTold Y hT tT)) (qvW D (cStand Y aS (hT 0) vS gSz ++ cTold Y hT tT) (va_A (cStand Y aS (hT 0) vS gS ++ cTold Y hT tT) sz)) 0 0 (va_A (cStand Y aS (hT 0) vS gS ++ cTold Y hT tT) sz) := by
  refine Met.ofW (cc := cX1_moveHouse) (maxL := 3) (ret := (none)) (by decide) rfl ?_
  intro p e s m args below meth c s₁ B hml hv
  obtain ⟨rfl, hsz, hP, hK, hD0⟩ := hv
  have hx := B.exec
  have hb := B.bytes
  have hr := B.returns
  have hts := atoms_spec (ws := wsX1_moveHouse) B.pre
  have hown : s.vm.findClass RX1 = some m.cls := findClass_of_methodNamed B.named
  have hlocks := B.notSynchronized
  subst hsz
  have hD := hD0.self (sz := s.heap.size)
  generalize hAe : va_A (cStand Y aS (hT 0) vS gS ++ cTold Y hT tT) s.heap.size = A at hD ⊢
  have hA : ∀ q : Nat, s.heap.size ≤ q → A q := fun q h => by rw [← hAe]; exact Or.inr h
  have hS : va_S A s.heap s.heap [] := va_S.rf
  have hi1 : ∀ w ∈ wsX10, w ∈ wsX1_moveHouse := fun w h => List.mem_cons_of_mem _ (List.mem_append_left _ (List.mem_append_right _ h))
  have hi3 : ∀ w ∈ wsX30, w ∈ wsX1_moveHouse := fun w h => List.mem_cons_of_mem _ (List.mem_append_right _ h)
  have hl := lv_entry ([.ref (aS 0), .int i1, .int i2]) (n := 3) (Nat.le_of_ble_eq_true rfl)
  rw [lg_entry_eq]
  generalize (lg_sl ([.ref (aS 0), .int i1, .int i2]) ++ List.replicate (3 - (lg_sl ([.ref (aS 0), .int i1, .int i2])).length) Slot.unset).toArray = ls at hl ⊢
  have hl : lv_has ls 3 [(0, .ref (aS 0)), (1, .int i1), (2, .int i2)] := hl
  obtain ⟨QQ, hQQ⟩ : ∃ Q : State → Prop, Q = MQ below (qvW D (cStand Y aS (hT 0) vS gSz ++ cTold Y hT tT) A) ([.ref (aS 0), .int i1, .int i2] : List Value).toArray s 0 0 A := ⟨_, rfl⟩
  rw [← hQQ]
  unfold MX1_moveHouse at hM
  suffices hI : ∀ (H : Heap) (locs : List Loc), va_P D vwCl (cStand Y aS (hT 0) vS gS ++ cTold Y hT tT) H → va_S A s.heap H locs → W p l e (headSpec wsX1_moveHouse rmX1_moveHouse).room s m ([.ref (aS 0), .int i1, .int i2] : List Value).toArray below meth c H locs 0 0 QQ (F0 m 0 ls []) from hI _ _ hP hS
  clear hP hS
  intro H locs hP hS
  refine lv_aload_n hx hb dX1_moveHouse_0 rfl (lv_at hl 0 rfl) ?_
  refine lv_dup hx hb dX1_moveHouse_1 rfl ?_
  refine va_get hx hb hts hi1 hown hK hP 0 rfl rfl 4 (by decide) (hts (.fieldLink RX1 47 "NightPlots$Standing" "taken" "I") (List.mem_of_getElem? (i := 1) rfl)) (fun _ h9 => h9) rfl dX1_moveHouse_2 ?_
  refine lv_aload_n hx hb dX1_moveHouse_5 rfl (lv_at hl 0 rfl) ?_
  refine va_get hx hb hts hi1 hown hK hP 0 rfl rfl 0 (by decide) (hts (.fieldLink RX1 21 "NightPlots$Standing" "told" "LNightPlots$Told;") (List.mem_of_getElem? (i := 2) rfl)) (fun _ h9 => h9) rfl dX1_moveHouse_6 ?_
  refine lv_aload_n hx hb dX1_moveHouse_9 rfl (lv_at hl 0 rfl) ?_
  refine va_get hx hb hts hi1 hown hK hP 0 rfl rfl 0 (by decide) (hts (.fieldLink RX1 21 "NightPlots$Standing" "told" "LNightPlots$Told;") (List.mem_of_getElem? (i := 2) rfl)) (fun _ h9 => h9) rfl dX1_moveHouse_10 ?_
  refine va_get hx hb hts hi3 hown hK hP 3 rfl rfl 8 (by decide) (hts (.fieldLink RX1 63 "NightPlots$Told" "kind" "[I") (List.mem_of_getElem? (i := 3) rfl)) (fun _ h9 => h9) rfl dX1_moveHouse_13 ?_
  refine lv_iload_n hx hb dX1_moveHouse_16 rfl (lv_at hl 1 rfl) ?_
  obtain ⟨hi_1, hM⟩ := chkI_at hM
  refine va_iald hx hb hK hP 5 0 rfl rfl hi_1 dX1_moveHouse_17 ?_
  refine lv_aload_n hx hb dX1_moveHouse_18 rfl (lv_at hl 0 rfl) ?_
  refine va_get hx hb hts hi1 hown hK hP 0 rfl rfl 1 (by decide) (hts (.fieldLink RX1 9 "NightPlots$Standing" "place" "[I") (List.mem_of_getElem? (i := 4) rfl)) (fun _ h9 => h9) rfl dX1_moveHouse_19 ?_
  refine lv_iload_n hx hb dX1_moveHouse_22 rfl (lv_at hl 1 rfl) ?_
  obtain ⟨hi_2, hM⟩ := chkI_at hM
  refine va_iald hx hb hK hP 1 0 rfl rfl hi_2 dX1_moveHouse_23 ?_
  obtain ⟨r3, hc4, hM⟩ := bnd1_at hM
  refine cm_i (w2 := (cStand Y aS (hT 0) vS gS ++ cTold Y hT tT)) (va_runV (As := [.int (tT 2 i1.toNatClampNeg), .int (gS 1 i1.toNatClampNeg)]) (rest := [.int (gS 0 4), .ref (aS 0)]) ⟨hx, hb, hml, hown, hts⟩ (ctX3_ground l D Y hT H.size tT (tT 2 i1.toNatClampNeg) (gS 1 i1.toNatClampNeg) r3 hc4) (cwV 2 hts gX1_moveHouse_X3_ground rfl rfl rfl (by decide +kernel) ⟨Nat.le_of_ble_eq_true rfl, Nat.le_of_ble_eq_true rfl⟩) (pcW_V (ci := 3) (q0 := 3) hK hP (hD.same rfl) [3, 4, 5, 6, 7, 8, 9, 10] rfl (pc_map (pc_cons rfl (pc_cons rfl (pc_cons rfl (pc_cons rfl (pc_cons rfl (pc_cons rfl (pc_cons rfl (pc_cons rfl pc_nil))))))))) rfl rfl) rfl rfl hl.1 rfl (lv_room (Nat.le_of_ble_eq_true rfl)) dX1_moveHouse_24 ⟨Nat.zero_le _, Nat.zero_le _⟩) hP (hD.same rfl) hS hA [3, 4, 5, 6, 7, 8, 9, 10] (pc_map (pc_cons rfl (pc_cons rfl (pc_cons rfl (pc_cons rfl (pc_cons rfl (pc_cons rfl (pc_cons rfl (pc_cons rfl pc_nil))))))))) (up_old rfl rfl (up_old rfl rfl (up_old rfl rfl (up_new 0 rfl (up_new 1 rfl (up_new 2 rfl (up_new 3 rfl (up_new 4 rfl (up_new 5 rfl (up_new 6 rfl (up_new 7 rfl up_nil))))))))))) (fun H locs hP hS => ?_)
  refine lv_iconst (v := (-1 : Int32)) hx hb dX1_moveHouse_27 (by decide) ?_
  refine lv_ixor hx hb dX1_moveHouse_28 ?_
  refine lv_iand hx hb dX1_moveHouse_29 ?_
  refine lv_topi (fun x5 ex5 => ?_)
  replace hM := nm_at hM ex5
  refine va_put (ty := .int) hx hb hts hi1 tyX1 tyX1_ok nmX1 hown hK hP (hD.same rfl) hS 0 rfl rfl 4 (by decide) (hts (.fieldLink RX1 47 "NightPlots$Standing" "taken" "I") (List.mem_of_getElem? (i := 1) rfl)) (fun _ h9 => h9) rfl (by decide +kernel) rfl rfl (Nat.le_of_ble_eq_true rfl) dX1_moveHouse_30 (fun H locs hP _ hS => ?_)
  obtain ⟨gS_6, egS_6⟩ : ∃ z : GS, z = (up2 gS 0 4 x5) := ⟨_, rfl⟩
  have hP : va_P D vwCl (cStand Y aS (hT 0) vS gS_6 ++ cTold Y hT tT) H := by rw [egS_6]; exact hP
  replace hM := nm_at hM egS_6
  refine lv_aload_n hx hb dX1_moveHouse_33 rfl (lv_at hl 0 rfl) ?_
  refine va_get hx hb hts hi1 hown hK hP 0 rfl rfl 1 (by decide) (hts (.fieldLink RX1 9 "NightPlots$Standing" "place" "[I") (List.mem_of_getElem? (i := 4) rfl)) (fun _ h9 => h9) rfl dX1_moveHouse_34 ?_
  refine lv_iload_n hx hb dX1_moveHouse_37 rfl (lv_at hl 1 rfl) ?_
  refine lv_iload_n hx hb dX1_moveHouse_38 rfl (lv_at hl 2 rfl) ?_
  obtain ⟨hi_7, hM⟩ := chkI_at hM
  refine va_iast hx hb hK hP (hD.same rfl) hS 1 0 rfl rfl hi_7 dX1_moveHouse_39 (fun H locs hP _ hS => ?_)
  obtain ⟨gS_8, egS_8⟩ : ∃ z : GS, z = (upA gS_6 1 (upd (gS_6 1) i1.toNatClampNeg i2)) := ⟨_, rfl⟩
  have hP : va_P D vwCl (cStand Y aS (hT 0) vS gS_8 ++ cTold Y hT tT) H := by rw [egS_8]; exact hP
  replace hM := nm_at hM egS_8
  refine lv_aload_n hx hb dX1_moveHouse_40 rfl (lv_at hl 0 rfl) ?_
  refine lv_dup hx hb dX1_moveHouse_41 rfl ?_
  refine va_get hx hb hts hi1 hown hK hP 0 rfl rfl 4 (by decide) (hts (.fieldLink RX1 47 "NightPlots$Standing" "taken" "I") (List.mem_of_getElem? (i := 1) rfl)) (fun _ h9 => h9) rfl dX1_moveHouse_42 ?_
  refine lv_aload_n hx hb dX1_moveHouse_45 rfl (lv_at hl 0 rfl) ?_
  refine va_get hx hb hts hi1 hown hK hP 0 rfl rfl 0 (by decide) (hts (.fieldLink RX1 21 "NightPlots$Standing" "told" "LNightPlots$Told;") (List.mem_of_getElem? (i := 2) rfl)) (fun _ h9 => h9) rfl dX1_moveHouse_46 ?_
  refine lv_aload_n hx hb dX1_moveHouse_49 rfl (lv_at hl 0 rfl) ?_
  refine va_get hx hb hts hi1 hown hK hP 0 rfl rfl 0 (by decide) (hts (.fieldLink RX1 21 "NightPlots$Standing" "told" "LNightPlots$Told;") (List.mem_of_getElem? (i := 2) rfl)) (fun _ h9 => h9) rfl dX1_moveHouse_50 ?_
  refine va_get hx hb hts hi3 hown hK hP 3 rfl rfl 8 (by decide) (hts (.fieldLink RX1 63 "NightPlots$Told" "kind" "[I") (List.mem_of_getElem? (i := 3) rfl)) (fun _ h9 => h9) rfl dX1_moveHouse_53 ?_
  refine lv_iload_n hx hb dX1_moveHouse_56 rfl (lv_at hl 1 rfl) ?_
  obtain ⟨hi_9, hM⟩ := chkI_at hM
  refine va_iald hx hb hK hP 5 0 rfl rfl hi_9 dX1_moveHouse_57 ?_
  refine lv_iload_n hx hb dX1_moveHouse_58 rfl (lv_at hl 2 rfl) ?_
  obtain ⟨r10, hc11, hM⟩ := bnd1_at hM
  refine cm_i (w2 := (cStand Y aS (hT 0) vS gS_8 ++ cTold Y hT tT)) (va_runV (As := [.int (tT 2 i1.toNatClampNeg), .int i2]) (rest := [.int (gS_8 0 4), .ref (aS 0)]) ⟨hx, hb, hml, hown, hts⟩ (ctX3_ground l D Y hT H.size tT (tT 2 i1.toNatClampNeg) i2 r10 hc11) (cwV 2 hts gX1_moveHouse_X3_ground rfl rfl rfl (by decide +kernel) ⟨Nat.le_of_ble_eq_true rfl, Nat.le_of_ble_eq_true rfl⟩) (pcW_V (ci := 3) (q0 := 3) hK hP (hD.same rfl) [3, 4, 5, 6, 7, 8, 9, 10] rfl (pc_map (pc_cons rfl (pc_cons rfl (pc_cons rfl (pc_cons rfl (pc_cons rfl (pc_cons rfl (pc_cons rfl (pc_cons rfl pc_nil))))))))) rfl rfl) rfl rfl hl.1 rfl (lv_room (Nat.le_of_ble_eq_true rfl)) dX1_moveHouse_59 ⟨Nat.zero_le _, Nat.zero_le _⟩) hP (hD.same rfl) hS hA [3, 4, 5, 6, 7, 8, 9, 10] (pc_map (pc_cons rfl (pc_cons rfl (pc_cons rfl (pc_cons rfl (pc_cons rfl (pc_cons rfl (pc_cons rfl (pc_cons rfl pc_nil))))))))) (up_old rfl rfl (up_old rfl rfl (up_old rfl rfl (up_new 0 rfl (up_new 1 rfl (up_new 2 rfl (up_new 3 rfl (up_new 4 rfl (up_new 5 rfl (up_new 6 rfl (up_new 7 rfl up_nil))))))))))) (fun H locs hP hS => ?_)
  refine lv_ior hx hb dX1_moveHouse_62 ?_
  refine lv_topi (fun x12 ex12 => ?_)
  replace hM := nm_at hM ex12
  refine va_put (ty := .int) hx hb hts hi1 tyX1 tyX1_ok nmX1 hown hK hP (hD.same rfl) hS 0 rfl rfl 4 (by decide) (hts (.fieldLink RX1 47 "NightPlots$Standing" "taken" "I") (List.mem_of_getElem? (i := 1) rfl)) (fun _ h9 => h9) rfl (by decide +kernel) rfl rfl (Nat.le_of_ble_eq_true rfl) dX1_moveHouse_63 (fun H locs hP _ hS => ?_)
  obtain ⟨gS_13, egS_13⟩ : ∃ z : GS, z = (up2 gS_8 0 4 x12) := ⟨_, rfl⟩
  have hP : va_P D vwCl (cStand Y aS (hT 0) vS gS_13 ++ cTold Y hT tT) H := by rw [egS_13]; exact hP
  replace hM := nm_at hM egS_13
  cases hM
  rw [hQQ]
  exact W.vret hx hb hr (fun t ht hW => ⟨⟨(), rfl, trivial, by show va_P D vwCl _ t.heap; rw [ht]; exact hP⟩, hS.F ht⟩) hS.2.2 dX1_moveHouse_66
noncomputable def MX1_passNightOf (gS : GS) (tT : GS) (i1 : Int32) (i2 : Int32) (i3 : Int32) : Option (GS) := nm ((gS 0 5) + (1 : Int32)) fun (x1 : Int32) => nm (up2 gS 0 5 x1) fun (gS_2 : GS) => bnd1 (MX1_moveHouse gS_2 tT i1 i2) fun (gS_3 : GS) => nm (gS_3 0 5) fun (x5 : Int32) => chkI i1 8 (nm (upA gS_3 2 (upd (gS_3 2) i1.toNatClampNeg x5)) fun (gS_7 : GS) => jn1 (fun (gS_8 : GS) => some (gS_8)) (fun k9 => if i3 = (1 : Int32) then (jn1 (fun (x11 : Int32) => nm (up2 gS_7 0 6 x11) fun (gS_13 : GS) => k9 gS_13) (fun k12 => if (tT 0 1) ≤ (i1 + (1 : Int32)) then (k12 (0 : Int32)) else (k12 (i1 + (1 : Int32))))) else (k9 gS_7)))
abbrev rmX1_passNightOf : Room := { frames := 4, cells := 0, slots := 0, locals := 160 }
set_option maxHeartbeats 4000000 in
set_option maxRecDepth 100000 in
theorem ctX1_passNightOf (l : Launch) (D : va_G) (Y : Nat → ClassId) (aS : Nat → Nat) (hT : Nat → Nat) (vS : Nat) (sz : Nat) (gS : GS) (tT : GS) (i1 : Int32) (i2 : Int32) (i3 : Int32) (gSz : GS) (hM : MX1_passNightOf gS tT i1 i2 i3 = some (gSz)) : Met l yX1_passNightOf wsX1_passNightOf rmX1_passNightOf (pcW [.ref (aS 0), .int i1, .int i2, .int i3] sz D Y (cStand Y aS (hT 0) vS gS ++ cTold Y hT tT)) (qvW D (cStand Y aS (hT 0) vS gSz ++ cTold Y hT tT) (va_A (cStand Y aS (hT 0) vS gS ++ cTold Y hT tT) sz)) 0 0 (va_A (cStand Y aS (hT 0) vS gS ++ cTold Y hT tT) sz) := by
  refine Met.ofW (cc := cX1_passNightOf) (maxL := 4) (ret := (none)) (by decide) rfl ?_
  intro p e s m args below meth c s₁ B hml hv
  obtain ⟨rfl, hsz, hP, hK, hD0⟩ := hv
  have hx := B.exec
  have hb := B.bytes
  have hr := B.returns
  have hts := atoms_spec (ws := wsX1_passNightOf) B.pre
  have hown : s.vm.findClass RX1 = some m.cls := findClass_of_methodNamed B.named
  have hlocks := B.notSynchronized
  subst hsz
  have hD := hD0.self (sz := s.heap.size)
  generalize hAe : va_A (cStand Y aS (hT 0) vS gS ++ cTold Y hT tT) s.heap.size = A at hD ⊢
  have hA : ∀ q : Nat, s.heap.size ≤ q → A q := fun q h => by rw [← hAe]; exact Or.inr h
  have hS : va_S A s.heap s.heap [] := va_S.rf
  have hi1 : ∀ w ∈ wsX10, w ∈ wsX1_passNightOf := fun w h => List.mem_cons_of_mem _ (List.mem_append_left _ (List.mem_append_right _ h))
  have hi3 : ∀ w ∈ wsX30, w ∈ wsX1_passNightOf := fun w h => List.mem_cons_of_mem _ (List.mem_append_right _ h)
  have hl := lv_entry ([.ref (aS 0), .int i1, .int i2, .int i3]) (n := 4) (Nat.le_of_ble_eq_true rfl)
  rw [lg_entry_eq]
  generalize (lg_sl ([.ref (aS 0), .int i1, .int i2, .int i3]) ++ List.replicate (4 - (lg_sl ([.ref (aS 0), .int i1, .int i2, .int i3])).length) Slot.unset).toArray = ls at hl ⊢
  have hl : lv_has ls 4 [(0, .ref (aS 0)), (1, .int i1), (2, .int i2), (3, .int i3)] := hl
  obtain ⟨QQ, hQQ⟩ : ∃ Q : State → Prop, Q = MQ below (qvW D (cStand Y aS (hT 0) vS gSz ++ cTold Y hT tT) A) ([.ref (aS 0), .int i1, .int i2, .int i3] : List Value).toArray s 0 0 A := ⟨_, rfl⟩
  rw [← hQQ]
  unfold MX1_passNightOf at hM
  suffices hI : ∀ (H : Heap) (locs : List Loc), va_P D vwCl (cStand Y aS (hT 0) vS gS ++ cTold Y hT tT) H → va_S A s.heap H locs → W p l e (headSpec wsX1_passNightOf rmX1_passNightOf).room s m ([.ref (aS 0), .int i1, .int i2, .int i3] : List Value).toArray below meth c H locs 0 0 QQ (F0 m 0 ls []) from hI _ _ hP hS
  clear hP hS
  intro H locs hP hS
  refine lv_aload_n hx hb dX1_passNightOf_0 rfl (lv_at hl 0 rfl) ?_
  refine lv_dup hx hb dX1_passNightOf_1 rfl ?_
  refine va_get hx hb hts hi1 hown hK hP 0 rfl rfl 5 (by decide) (hts (.fieldLink RX1 48 "NightPlots$Standing" "nights" "I") (List.mem_of_getElem? (i := 1) rfl)) (fun _ h9 => h9) rfl dX1_passNightOf_2 ?_
  refine lv_iconst (v := (1 : Int32)) hx hb dX1_passNightOf_5 (by decide) ?_
  refine lv_iadd hx hb dX1_passNightOf_6 ?_
  refine lv_topi (fun x1 ex1 => ?_)
  replace hM := nm_at hM ex1
  refine va_put (ty := .int) hx hb hts hi1 tyX1 tyX1_ok nmX1 hown hK hP (hD.same rfl) hS 0 rfl rfl 5 (by decide) (hts (.fieldLink RX1 48 "NightPlots$Standing" "nights" "I") (List.mem_of_getElem? (i := 1) rfl)) (fun _ h9 => h9) rfl (by decide +kernel) rfl rfl (Nat.le_of_ble_eq_true rfl) dX1_passNightOf_7 (fun H locs hP _ hS => ?_)
  obtain ⟨gS_2, egS_2⟩ : ∃ z : GS, z = (up2 gS 0 5 x1) := ⟨_, rfl⟩
  have hP : va_P D vwCl (cStand Y aS (hT 0) vS gS_2 ++ cTold Y hT tT) H := by rw [egS_2]; exact hP
  replace hM := nm_at hM egS_2
  refine lv_aload_n hx hb dX1_passNightOf_10 rfl (lv_at hl 0 rfl) ?_
  refine lv_iload_n hx hb dX1_passNightOf_11 rfl (lv_at hl 1 rfl) ?_
  refine lv_iload_n hx hb dX1_passNightOf_12 rfl (lv_at hl 2 rfl) ?_
  obtain ⟨gS_3, hc4, hM⟩ := bnd1_at hM
  refine co_v (va_runV (As := [.int i1, .int i2]) (rest := []) ⟨hx, hb, hml, hown, hts⟩ (ctX1_moveHouse l D Y aS hT vS H.size gS_2 tT i1 i2 gS_3 hc4) (cwV 2 hts gX1_passNightOf_X1_moveHouse rfl rfl rfl (by decide +kernel) ⟨Nat.le_of_ble_eq_true rfl, Nat.le_of_ble_eq_true rfl⟩) (pcW_V0 (ci := 1) (q0 := 0) hK hP (hD.same rfl) rfl rfl) rfl rfl hl.1 rfl (lv_room (Nat.le_of_ble_eq_true rfl)) dX1_passNightOf_13 ⟨Nat.zero_le _, Nat.zero_le _⟩) (hD.same rfl) hS hA (fun H locs hP hS => ?_)
  refine lv_aload_n hx hb dX1_passNightOf_16 rfl (lv_at hl 0 rfl) ?_
  refine va_get hx hb hts hi1 hown hK hP 0 rfl rfl 2 (by decide) (hts (.fieldLink RX1 15 "NightPlots$Standing" "rolled" "[I") (List.mem_of_getElem? (i := 2) rfl)) (fun _ h9 => h9) rfl dX1_passNightOf_17 ?_
  refine lv_iload_n hx hb dX1_passNightOf_20 rfl (lv_at hl 1 rfl) ?_
  refine lv_aload_n hx hb dX1_passNightOf_21 rfl (lv_at hl 0 rfl) ?_
  refine va_get hx hb hts hi1 hown hK hP 0 rfl rfl 5 (by decide) (hts (.fieldLink RX1 48 "NightPlots$Standing" "nights" "I") (List.mem_of_getElem? (i := 1) rfl)) (fun _ h9 => h9) rfl dX1_passNightOf_22 ?_
  refine lv_topi (fun x5 ex5 => ?_)
  replace hM := nm_at hM ex5
  obtain ⟨hi_6, hM⟩ := chkI_at hM
  refine va_iast hx hb hK hP (hD.same rfl) hS 2 0 rfl rfl hi_6 dX1_passNightOf_25 (fun H locs hP _ hS => ?_)
  obtain ⟨gS_7, egS_7⟩ : ∃ z : GS, z = (upA gS_3 2 (upd (gS_3 2) i1.toNatClampNeg x5)) := ⟨_, rfl⟩
  have hP : va_P D vwCl (cStand Y aS (hT 0) vS gS_7 ++ cTold Y hT tT) H := by rw [egS_7]; exact hP
  replace hM := nm_at hM egS_7
  refine lv_iload_n hx hb dX1_passNightOf_26 rfl (lv_at hl 3 rfl) ?_
  refine lv_iconst (v := (1 : Int32)) hx hb dX1_passNightOf_27 (by decide) ?_
  refine jn1_at (fun (gS_8 : GS) => ∀ (H : Heap) (locs : List Loc) (ls : Array Slot), va_P D vwCl (cStand Y aS (hT 0) vS gS_8 ++ cTold Y hT tT) H → va_S A s.heap H locs → lv_has ls 4 [] → W p l e (headSpec wsX1_passNightOf rmX1_passNightOf).room s m ([.ref (aS 0), .int i1, .int i2, .int i3] : List Value).toArray below meth c H locs 0 0 QQ (F0 m 55 ls [])) hM (fun gS_8 hM H locs ls hP hS hl => ?_) (fun k9 hJ9 hM => ?_)
  · cases hM
    rw [hQQ]
    exact W.vret hx hb hr (fun t ht hW => ⟨⟨(), rfl, trivial, by show va_P D vwCl _ t.heap; rw [ht]; exact hP⟩, hS.F ht⟩) hS.2.2 dX1_passNightOf_55
  · refine lv_icmp_ne (tgt := 55) hx hb dX1_passNightOf_28 (by decide) (fun c10 => ?_) (fun c10 => ?_)
    · replace hM := if_at_neg hM c10
      exact hJ9 gS_7 hM H locs ls hP hS (lv_sub hl [] rfl)
    · replace hM := if_at_pos hM c10
      refine lv_aload_n hx hb dX1_passNightOf_31 rfl (lv_at hl 0 rfl) ?_
      refine lv_iload_n hx hb dX1_passNightOf_32 rfl (lv_at hl 1 rfl) ?_
      refine lv_iconst (v := (1 : Int32)) hx hb dX1_passNightOf_33 (by decide) ?_
      refine lv_iadd hx hb dX1_passNightOf_34 ?_
      refine lv_aload_n hx hb dX1_passNightOf_35 rfl (lv_at hl 0 rfl) ?_
      refine va_get hx hb hts hi1 hown hK hP 0 rfl rfl 0 (by decide) (hts (.fieldLink RX1 21 "NightPlots$Standing" "told" "LNightPlots$Told;") (List.mem_of_getElem? (i := 3) rfl)) (fun _ h9 => h9) rfl dX1_passNightOf_36 ?_
      refine va_get hx hb hts hi3 hown hK hP 3 rfl rfl 1 (by decide) (hts (.fieldLink RX1 70 "NightPlots$Told" "houses" "I") (List.mem_of_getElem? (i := 4) rfl)) (fun _ h9 => h9) rfl dX1_passNightOf_39 ?_
      refine jn1_at (fun (x11 : Int32) => ∀ (H : Heap) (locs : List Loc) (ls : Array Slot), va_P D vwCl (cStand Y aS (hT 0) vS gS_7 ++ cTold Y hT tT) H → va_S A s.heap H locs → lv_has ls 4 [] → W p l e (headSpec wsX1_passNightOf rmX1_passNightOf).room s m ([.ref (aS 0), .int i1, .int i2, .int i3] : List Value).toArray below meth c H locs 0 0 QQ (F0 m 52 ls [.int x11, .ref (aS 0)])) hM (fun x11 hM H locs ls hP hS hl => ?_) (fun k12 hJ12 hM => ?_)
      · refine va_put (ty := .int) hx hb hts hi1 tyX1 tyX1_ok nmX1 hown hK hP (hD.same rfl) hS 0 rfl rfl 6 (by decide) (hts (.fieldLink RX1 51 "NightPlots$Standing" "turn" "I") (List.mem_of_getElem? (i := 5) rfl)) (fun _ h9 => h9) rfl (by decide +kernel) rfl rfl (Nat.le_of_ble_eq_true rfl) dX1_passNightOf_52 (fun H locs hP _ hS => ?_)
        obtain ⟨gS_13, egS_13⟩ : ∃ z : GS, z = (up2 gS_7 0 6 x11) := ⟨_, rfl⟩
        have hP : va_P D vwCl (cStand Y aS (hT 0) vS gS_13 ++ cTold Y hT tT) H := by rw [egS_13]; exact hP
        replace hM := nm_at hM egS_13
        exact hJ9 gS_13 hM H locs ls hP hS (lv_sub hl [] rfl)
      · refine lv_icmp_ge (tgt := 51) hx hb dX1_passNightOf_42 (by decide) (fun c14 => ?_) (fun c14 => ?_)
        · replace hM := if_at_pos hM c14
          refine lv_iconst (v := (0 : Int32)) hx hb dX1_passNightOf_51 (by decide) ?_
          exact hJ12 (0 : Int32) hM H locs ls hP hS (lv_sub hl [] rfl)
        · replace hM := if_at_neg hM c14
          refine lv_iload_n hx hb dX1_passNightOf_45 rfl (lv_at hl 1 rfl) ?_
          refine lv_iconst (v := (1 : Int32)) hx hb dX1_passNightOf_46 (by decide) ?_
          refine lv_iadd hx hb dX1_passNightOf_47 ?_
          refine lv_goto (tgt := 52) hx hb dX1_passNightOf_48 (by decide) ?_
          exact hJ12 (i1 + (1 : Int32)) hM H locs ls hP hS (lv_sub hl [] rfl)
noncomputable def BX1_firstFrom_4 (tT : GS) (k2 : (Nat → Int32) → Option (Int32 × (Nat → Int32))) (gS : GS) (k5 : Int32 → (Nat → Int32) → Option (Int32 × (Nat → Int32))) (rec10 : Int32 → Int32 → (Nat → Int32) → Option (Int32 × (Nat → Int32))) (x7 : Int32) (x8 : Int32) (fW_9 : Nat → Int32) : Option (Int32 × (Nat → Int32)) := if (tT 0 1) ≤ x8 then (k2 fW_9) else (bnd2 (MX1_findWays gS fW_9 tT x7) fun (r12 : Int32) (fR_13 : Nat → Int32) => if r12 ≤ 0 then (jn1 (fun (x16 : Int32) => nm (x8 + 1) fun (x18 : Int32) => rec10 x16 x18 fR_13) (fun k17 => if (tT 0 1) ≤ (x7 + (1 : Int32)) then (k17 (0 : Int32)) else (k17 (x7 + (1 : Int32))))) else (k5 x7 fR_13))
noncomputable def MX1_firstFrom (gS : GS) (fW : Nat → Int32) (tT : GS) (i1 : Int32) : Option (Int32 × (Nat → Int32)) := jn1 (fun (fW_1 : Nat → Int32) => some ((-1 : Int32), fW_1)) (fun k2 => jn2 (fun (x3 : Int32) (fW_4 : Nat → Int32) => chkI (0 : Int32) 8 (some ((((20 : Int32) * x3) + (fW_4 (0 : Int32).toNatClampNeg)), fW_4))) (fun k5 => lq3 (BX1_firstFrom_4 tT k2 gS k5) FU i1 (0 : Int32) fW))
abbrev rmX1_firstFrom : Room := { frames := 4, cells := 0, slots := 0, locals := 160 }
set_option maxHeartbeats 4000000 in
set_option maxRecDepth 100000 in
theorem ctX1_firstFrom (l : Launch) (D : va_G) (Y : Nat → ClassId) (aS : Nat → Nat) (vS : Nat) (hT : Nat → Nat) (sz : Nat) (gS : GS) (fW : Nat → Int32) (tT : GS) (i1 : Int32) (rr : Int32) (fWz : Nat → Int32) (hM : MX1_firstFrom gS fW tT i1 = some (rr, fWz)) : Met l yX1_firstFrom wsX1_firstFrom rmX1_firstFrom (pcW [.ref (aS 0), .int i1] sz D Y (cStand Y aS (hT 0) vS gS ++ cRow Y vS 8 fW ++ cTold Y hT tT)) (qiW rr D (cStand Y aS (hT 0) vS gS ++ cRow Y vS 8 fWz ++ cTold Y hT tT) (va_A (cStand Y aS (hT 0) vS gS ++ cRow Y vS 8 fW ++ cTold Y hT tT) sz)) 0 0 (va_A (cStand Y aS (hT 0) vS gS ++ cRow Y vS 8 fW ++ cTold Y hT tT) sz) := by
  refine Met.ofW (cc := cX1_firstFrom) (maxL := 4) (ret := (some .int)) (by decide) rfl ?_
  intro p e s m args below meth c s₁ B hml hv
  obtain ⟨rfl, hsz, hP, hK, hD0⟩ := hv
  have hx := B.exec
  have hb := B.bytes
  have hr := B.returns
  have hts := atoms_spec (ws := wsX1_firstFrom) B.pre
  have hown : s.vm.findClass RX1 = some m.cls := findClass_of_methodNamed B.named
  have hlocks := B.notSynchronized
  subst hsz
  have hD := hD0.self (sz := s.heap.size)
  generalize hAe : va_A (cStand Y aS (hT 0) vS gS ++ cRow Y vS 8 fW ++ cTold Y hT tT) s.heap.size = A at hD ⊢
  have hA : ∀ q : Nat, s.heap.size ≤ q → A q := fun q h => by rw [← hAe]; exact Or.inr h
  have hS : va_S A s.heap s.heap [] := va_S.rf
  have hi1 : ∀ w ∈ wsX10, w ∈ wsX1_firstFrom := fun w h => List.mem_cons_of_mem _ (List.mem_append_left _ (List.mem_append_right _ h))
  have hi3 : ∀ w ∈ wsX30, w ∈ wsX1_firstFrom := fun w h => List.mem_cons_of_mem _ (List.mem_append_right _ h)
  have hl := lv_entry ([.ref (aS 0), .int i1]) (n := 4) (Nat.le_of_ble_eq_true rfl)
  rw [lg_entry_eq]
  generalize (lg_sl ([.ref (aS 0), .int i1]) ++ List.replicate (4 - (lg_sl ([.ref (aS 0), .int i1])).length) Slot.unset).toArray = ls at hl ⊢
  have hl : lv_has ls 4 [(0, .ref (aS 0)), (1, .int i1)] := hl
  obtain ⟨QQ, hQQ⟩ : ∃ Q : State → Prop, Q = MQ below (qiW rr D (cStand Y aS (hT 0) vS gS ++ cRow Y vS 8 fWz ++ cTold Y hT tT) A) ([.ref (aS 0), .int i1] : List Value).toArray s 0 0 A := ⟨_, rfl⟩
  rw [← hQQ]
  unfold MX1_firstFrom at hM
  suffices hI : ∀ (H : Heap) (locs : List Loc), va_P D vwCl (cStand Y aS (hT 0) vS gS ++ cRow Y vS 8 fW ++ cTold Y hT tT) H → va_S A s.heap H locs → W p l e (headSpec wsX1_firstFrom rmX1_firstFrom).room s m ([.ref (aS 0), .int i1] : List Value).toArray below meth c H locs 0 0 QQ (F0 m 0 ls []) from hI _ _ hP hS
  clear hP hS
  intro H locs hP hS
  refine lv_iload_n hx hb dX1_firstFrom_0 rfl (lv_at hl 1 rfl) ?_
  refine lv_istore_n (lv' := [(2, .int i1), (0, .ref (aS 0)), (1, .int i1)]) hx hb dX1_firstFrom_1 rfl hl (by decide) rfl (fun ls hl => ?_)
  refine lv_iconst (v := (0 : Int32)) hx hb dX1_firstFrom_2 (by decide) ?_
  refine lv_istore_n (lv' := [(3, .int (0 : Int32)), (2, .int i1), (0, .ref (aS 0)), (1, .int i1)]) hx hb dX1_firstFrom_3 rfl hl (by decide) rfl (fun ls hl => ?_)
  refine jn1_at (fun (fW_1 : Nat → Int32) => ∀ (H : Heap) (locs : List Loc) (ls : Array Slot), va_P D vwCl (cStand Y aS (hT 0) vS gS ++ cRow Y vS 8 fW_1 ++ cTold Y hT tT) H → va_S A s.heap H locs → lv_has ls 4 [] → W p l e (headSpec wsX1_firstFrom rmX1_firstFrom).room s m ([.ref (aS 0), .int i1] : List Value).toArray below meth c H locs 0 0 QQ (F0 m 66 ls [])) hM (fun fW_1 hM H locs ls hP hS hl => ?_) (fun k2 hJ2 hM => ?_)
  · refine lv_iconst (v := (-1 : Int32)) hx hb dX1_firstFrom_66 (by decide) ?_
    cases hM
    rw [hQQ]
    exact W.iret hx hb hr (fun t ht hW => ⟨⟨_, (), rfl, rfl, by show va_P D vwCl _ t.heap; rw [ht]; exact hP⟩, hS.F ht⟩) hS.2.2 dX1_firstFrom_67
  · refine jn2_at (fun (x3 : Int32) (fW_4 : Nat → Int32) => ∀ (H : Heap) (locs : List Loc) (ls : Array Slot), va_P D vwCl (cStand Y aS (hT 0) vS gS ++ cRow Y vS 8 fW_4 ++ cTold Y hT tT) H → va_S A s.heap H locs → lv_has ls 4 [(0, .ref (aS 0)), (2, .int x3)] → W p l e (headSpec wsX1_firstFrom rmX1_firstFrom).room s m ([.ref (aS 0), .int i1] : List Value).toArray below meth c H locs 0 0 QQ (F0 m 27 ls [])) hM (fun x3 fW_4 hM H locs ls hP hS hl => ?_) (fun k5 hJ5 hM => ?_)
    · refine lv_bipush (v := (20 : Int32)) hx hb dX1_firstFrom_27 (by decide) ?_
      refine lv_iload_n hx hb dX1_firstFrom_29 rfl (lv_at hl 1 rfl) ?_
      refine lv_imul hx hb dX1_firstFrom_30 ?_
      refine lv_aload_n hx hb dX1_firstFrom_31 rfl (lv_at hl 0 rfl) ?_
      refine va_get hx hb hts hi1 hown hK hP 0 rfl rfl 3 (by decide) (hts (.fieldLink RX1 18 "NightPlots$Standing" "ways" "[I") (List.mem_of_getElem? (i := 3) rfl)) (fun _ h9 => h9) rfl dX1_firstFrom_32 ?_
      refine lv_iconst (v := (0 : Int32)) hx hb dX1_firstFrom_35 (by decide) ?_
      obtain ⟨hi_6, hM⟩ := chkI_at hM
      refine va_iald hx hb hK hP 3 0 rfl rfl hi_6 dX1_firstFrom_36 ?_
      refine lv_iadd hx hb dX1_firstFrom_37 ?_
      cases hM
      rw [hQQ]
      exact W.iret hx hb hr (fun t ht hW => ⟨⟨_, (), rfl, rfl, by show va_P D vwCl _ t.heap; rw [ht]; exact hP⟩, hS.F ht⟩) hS.2.2 dX1_firstFrom_38
    · refine lq3_at (fun (x7 : Int32) (x8 : Int32) (fW_9 : Nat → Int32) => ∀ (H : Heap) (locs : List Loc) (ls : Array Slot), va_P D vwCl (cStand Y aS (hT 0) vS gS ++ cRow Y vS 8 fW_9 ++ cTold Y hT tT) H → va_S A s.heap H locs → lv_has ls 4 [(0, .ref (aS 0)), (2, .int x7), (3, .int x8)] → W p l e (headSpec wsX1_firstFrom rmX1_firstFrom).room s m ([.ref (aS 0), .int i1] : List Value).toArray below meth c H locs 0 0 QQ (F0 m 4 ls [])) (fun rec10 x7 x8 fW_9 ih10 hM H locs ls hP hS hl => ?_) FU i1 (0 : Int32) fW hM H locs ls hP hS (lv_sub hl [2, 1, 0] rfl)
      unfold BX1_firstFrom_4 at hM
      refine lv_iload_n hx hb dX1_firstFrom_4 rfl (lv_at hl 2 rfl) ?_
      refine lv_aload_n hx hb dX1_firstFrom_5 rfl (lv_at hl 0 rfl) ?_
      refine va_get hx hb hts hi1 hown hK hP 0 rfl rfl 0 (by decide) (hts (.fieldLink RX1 21 "NightPlots$Standing" "told" "LNightPlots$Told;") (List.mem_of_getElem? (i := 1) rfl)) (fun _ h9 => h9) rfl dX1_firstFrom_6 ?_
      refine va_get hx hb hts hi3 hown hK hP 4 rfl rfl 1 (by decide) (hts (.fieldLink RX1 70 "NightPlots$Told" "houses" "I") (List.mem_of_getElem? (i := 2) rfl)) (fun _ h9 => h9) rfl dX1_firstFrom_9 ?_
      refine lv_icmp_ge (tgt := 66) hx hb dX1_firstFrom_12 (by decide) (fun c11 => ?_) (fun c11 => ?_)
      · replace hM := if_at_pos hM c11
        exact hJ2 fW_9 hM H locs ls hP hS (lv_sub hl [] rfl)
      · replace hM := if_at_neg hM c11
        refine lv_aload_n hx hb dX1_firstFrom_15 rfl (lv_at hl 0 rfl) ?_
        refine lv_iload_n hx hb dX1_firstFrom_16 rfl (lv_at hl 1 rfl) ?_
        refine lv_aload_n hx hb dX1_firstFrom_17 rfl (lv_at hl 0 rfl) ?_
        refine va_get hx hb hts hi1 hown hK hP 0 rfl rfl 3 (by decide) (hts (.fieldLink RX1 18 "NightPlots$Standing" "ways" "[I") (List.mem_of_getElem? (i := 3) rfl)) (fun _ h9 => h9) rfl dX1_firstFrom_18 ?_
        obtain ⟨r12, fR_13, hc14, hM⟩ := bnd2_at hM
        refine co_i (va_runV (As := [.int x7, .ref vS]) (rest := []) ⟨hx, hb, hml, hown, hts⟩ (ctX1_findWays l D Y aS vS hT vS H.size gS fW_9 tT x7 r12 fR_13 hc14) (cwV 2 hts gX1_firstFrom_X1_findWays rfl rfl rfl (by decide +kernel) ⟨Nat.le_of_ble_eq_true rfl, Nat.le_of_ble_eq_true rfl⟩) (pcW_V0 (ci := 1) (q0 := 0) hK hP (hD.same rfl) rfl rfl) rfl rfl hl.1 rfl (lv_room (Nat.le_of_ble_eq_true rfl)) dX1_firstFrom_21 ⟨Nat.zero_le _, Nat.zero_le _⟩) (hD.same rfl) hS hA (fun H locs hP hS => ?_)
        refine lv_if_le (tgt := 39) hx hb dX1_firstFrom_24 (by decide) (fun c15 => ?_) (fun c15 => ?_)
        · replace hM := if_at_pos hM c15
          refine lv_iload_n hx hb dX1_firstFrom_39 rfl (lv_at hl 1 rfl) ?_
          refine lv_iconst (v := (1 : Int32)) hx hb dX1_firstFrom_40 (by decide) ?_
          refine lv_iadd hx hb dX1_firstFrom_41 ?_
          refine lv_aload_n hx hb dX1_firstFrom_42 rfl (lv_at hl 0 rfl) ?_
          refine va_get hx hb hts hi1 hown hK hP 0 rfl rfl 0 (by decide) (hts (.fieldLink RX1 21 "NightPlots$Standing" "told" "LNightPlots$Told;") (List.mem_of_getElem? (i := 1) rfl)) (fun _ h9 => h9) rfl dX1_firstFrom_43 ?_
          refine va_get hx hb hts hi3 hown hK hP 4 rfl rfl 1 (by decide) (hts (.fieldLink RX1 70 "NightPlots$Told" "houses" "I") (List.mem_of_getElem? (i := 2) rfl)) (fun _ h9 => h9) rfl dX1_firstFrom_46 ?_
          refine jn1_at (fun (x16 : Int32) => ∀ (H : Heap) (locs : List Loc) (ls : Array Slot), va_P D vwCl (cStand Y aS (hT 0) vS gS ++ cRow Y vS 8 fR_13 ++ cTold Y hT tT) H → va_S A s.heap H locs → lv_has ls 4 [(0, .ref (aS 0)), (3, .int x8)] → W p l e (headSpec wsX1_firstFrom rmX1_firstFrom).room s m ([.ref (aS 0), .int i1] : List Value).toArray below meth c H locs 0 0 QQ (F0 m 59 ls [.int x16])) hM (fun x16 hM H locs ls hP hS hl => ?_) (fun k17 hJ17 hM => ?_)
          · refine lv_istore_n (lv' := [(2, .int x16), (0, .ref (aS 0)), (3, .int x8)]) hx hb dX1_firstFrom_59 rfl hl (by decide) rfl (fun ls hl => ?_)
            obtain ⟨x18, ex18⟩ : ∃ z : Int32, z = (x8 + 1) := ⟨_, rfl⟩
            replace hM := nm_at hM ex18
            refine lv_iinc (v := x18) (lv' := [(3, .int x18), (2, .int x16), (0, .ref (aS 0))]) hx hb dX1_firstFrom_60 hl (k := 2) rfl (by rw [ex18]; rfl) (by decide) rfl (fun ls hl => ?_)
            refine lv_goto (tgt := 4) hx hb dX1_firstFrom_63 (by decide) ?_
            exact ih10 x16 x18 fR_13 hM H locs ls hP hS (lv_sub hl [2, 1, 0] rfl)
          · refine lv_icmp_ge (tgt := 58) hx hb dX1_firstFrom_49 (by decide) (fun c19 => ?_) (fun c19 => ?_)
            · replace hM := if_at_pos hM c19
              refine lv_iconst (v := (0 : Int32)) hx hb dX1_firstFrom_58 (by decide) ?_
              exact hJ17 (0 : Int32) hM H locs ls hP hS (lv_sub hl [0, 2] rfl)
            · replace hM := if_at_neg hM c19
              refine lv_iload_n hx hb dX1_firstFrom_52 rfl (lv_at hl 1 rfl) ?_
              refine lv_iconst (v := (1 : Int32)) hx hb dX1_firstFrom_53 (by decide) ?_
              refine lv_iadd hx hb dX1_firstFrom_54 ?_
              refine lv_goto (tgt := 59) hx hb dX1_firstFrom_55 (by decide) ?_
              exact hJ17 (x7 + (1 : Int32)) hM H locs ls hP hS (lv_sub hl [0, 2] rfl)
        · replace hM := if_at_neg hM c15
          exact hJ5 x7 fR_13 hM H locs ls hP hS (lv_sub hl [0, 1] rfl)
noncomputable def BX1_longestRested_6 (tT : GS) (k3 : Int32 → (Nat → Int32) → Option (Int32 × (Nat → Int32))) (gS : GS) (rec8 : Int32 → Int32 → Int32 → (Nat → Int32) → Option (Int32 × (Nat → Int32))) (x4 : Int32) (x5 : Int32) (x6 : Int32) (fW_7 : Nat → Int32) : Option (Int32 × (Nat → Int32)) := if (tT 0 1) ≤ x6 then (k3 x5 fW_7) else (jn1 (fun (x10 : Int32) => jn3 (fun (x12 : Int32) (x13 : Int32) (fW_14 : Nat → Int32) => nm (x6 + 1) fun (x16 : Int32) => rec8 x12 x13 x16 fW_14) (fun k15 => if x10 = 0 then (k15 x4 x5 fW_7) else (bnd2 (MX1_findWays gS fW_7 tT x6) fun (r18 : Int32) (fR_19 : Nat → Int32) => if r18 ≤ 0 then (k15 x4 x5 fR_19) else (chkI (0 : Int32) 8 (nm (((20 : Int32) * x6) + (fR_19 (0 : Int32).toNatClampNeg)) fun (x23 : Int32) => k15 x6 x23 fR_19))))) (fun k11 => jn0 (k11 (1 : Int32)) (fun k24 => if x4 = (-1 : Int32) then (k24) else (chkI x6 8 (chkI x4 8 (if (gS 2 x4.toNatClampNeg) ≤ (gS 2 x6.toNatClampNeg) then (k11 (0 : Int32)) else (k24)))))))
noncomputable def MX1_longestRested (gS : GS) (fW : Nat → Int32) (tT : GS) : Option (Int32 × (Nat → Int32)) := jn2 (fun (x1 : Int32) (fW_2 : Nat → Int32) => some (x1, fW_2)) (fun k3 => lq4 (BX1_longestRested_6 tT k3 gS) FU (-1 : Int32) (-1 : Int32) (0 : Int32) fW)
abbrev rmX1_longestRested : Room := { frames := 4, cells := 0, slots := 0, locals := 160 }
set_option maxHeartbeats 4000000 in
set_option maxRecDepth 100000 in
theorem ctX1_longestRested (l : Launch) (D : va_G) (Y : Nat → ClassId) (aS : Nat → Nat) (vS : Nat) (hT : Nat → Nat) (sz : Nat) (gS : GS) (fW : Nat → Int32) (tT : GS) (rr : Int32) (fWz : Nat → Int32) (hM : MX1_longestRested gS fW tT = some (rr, fWz)) : Met l yX1_longestRested wsX1_longestRested rmX1_longestRested (pcW [.ref (aS 0)] sz D Y (cStand Y aS (hT 0) vS gS ++ cRow Y vS 8 fW ++ cTold Y hT tT)) (qiW rr D (cStand Y aS (hT 0) vS gS ++ cRow Y vS 8 fWz ++ cTold Y hT tT) (va_A (cStand Y aS (hT 0) vS gS ++ cRow Y vS 8 fW ++ cTold Y hT tT) sz)) 0 0 (va_A (cStand Y aS (hT 0) vS gS ++ cRow Y vS 8 fW ++ cTold Y hT tT) sz) := by
  refine Met.ofW (cc := cX1_longestRested) (maxL := 5) (ret := (some .int)) (by decide) rfl ?_
  intro p e s m args below meth c s₁ B hml hv
  obtain ⟨rfl, hsz, hP, hK, hD0⟩ := hv
  have hx := B.exec
  have hb := B.bytes
  have hr := B.returns
  have hts := atoms_spec (ws := wsX1_longestRested) B.pre
  have hown : s.vm.findClass RX1 = some m.cls := findClass_of_methodNamed B.named
  have hlocks := B.notSynchronized
  subst hsz
  have hD := hD0.self (sz := s.heap.size)
  generalize hAe : va_A (cStand Y aS (hT 0) vS gS ++ cRow Y vS 8 fW ++ cTold Y hT tT) s.heap.size = A at hD ⊢
  have hA : ∀ q : Nat, s.heap.size ≤ q → A q := fun q h => by rw [← hAe]; exact Or.inr h
  have hS : va_S A s.heap s.heap [] := va_S.rf
  have hi1 : ∀ w ∈ wsX10, w ∈ wsX1_longestRested := fun w h => List.mem_cons_of_mem _ (List.mem_append_left _ (List.mem_append_right _ h))
  have hi3 : ∀ w ∈ wsX30, w ∈ wsX1_longestRested := fun w h => List.mem_cons_of_mem _ (List.mem_append_right _ h)
  have hl := lv_entry ([.ref (aS 0)]) (n := 5) (Nat.le_of_ble_eq_true rfl)
  rw [lg_entry_eq]
  generalize (lg_sl ([.ref (aS 0)]) ++ List.replicate (5 - (lg_sl ([.ref (aS 0)])).length) Slot.unset).toArray = ls at hl ⊢
  have hl : lv_has ls 5 [(0, .ref (aS 0))] := hl
  obtain ⟨QQ, hQQ⟩ : ∃ Q : State → Prop, Q = MQ below (qiW rr D (cStand Y aS (hT 0) vS gS ++ cRow Y vS 8 fWz ++ cTold Y hT tT) A) ([.ref (aS 0)] : List Value).toArray s 0 0 A := ⟨_, rfl⟩
  rw [← hQQ]
  unfold MX1_longestRested at hM
  suffices hI : ∀ (H : Heap) (locs : List Loc), va_P D vwCl (cStand Y aS (hT 0) vS gS ++ cRow Y vS 8 fW ++ cTold Y hT tT) H → va_S A s.heap H locs → W p l e (headSpec wsX1_longestRested rmX1_longestRested).room s m ([.ref (aS 0)] : List Value).toArray below meth c H locs 0 0 QQ (F0 m 0 ls []) from hI _ _ hP hS
  clear hP hS
  intro H locs hP hS
  refine lv_iconst (v := (-1 : Int32)) hx hb dX1_longestRested_0 (by decide) ?_
  refine lv_istore_n (lv' := [(1, .int (-1 : Int32)), (0, .ref (aS 0))]) hx hb dX1_longestRested_1 rfl hl (by decide) rfl (fun ls hl => ?_)
  refine lv_iconst (v := (-1 : Int32)) hx hb dX1_longestRested_2 (by decide) ?_
  refine lv_istore_n (lv' := [(2, .int (-1 : Int32)), (1, .int (-1 : Int32)), (0, .ref (aS 0))]) hx hb dX1_longestRested_3 rfl hl (by decide) rfl (fun ls hl => ?_)
  refine lv_iconst (v := (0 : Int32)) hx hb dX1_longestRested_4 (by decide) ?_
  refine lv_istore_n (lv' := [(3, .int (0 : Int32)), (2, .int (-1 : Int32)), (1, .int (-1 : Int32)), (0, .ref (aS 0))]) hx hb dX1_longestRested_5 rfl hl (by decide) rfl (fun ls hl => ?_)
  refine jn2_at (fun (x1 : Int32) (fW_2 : Nat → Int32) => ∀ (H : Heap) (locs : List Loc) (ls : Array Slot), va_P D vwCl (cStand Y aS (hT 0) vS gS ++ cRow Y vS 8 fW_2 ++ cTold Y hT tT) H → va_S A s.heap H locs → lv_has ls 5 [(2, .int x1)] → W p l e (headSpec wsX1_longestRested rmX1_longestRested).room s m ([.ref (aS 0)] : List Value).toArray below meth c H locs 0 0 QQ (F0 m 81 ls [])) hM (fun x1 fW_2 hM H locs ls hP hS hl => ?_) (fun k3 hJ3 hM => ?_)
  · refine lv_iload_n hx hb dX1_longestRested_81 rfl (lv_at hl 0 rfl) ?_
    cases hM
    rw [hQQ]
    exact W.iret hx hb hr (fun t ht hW => ⟨⟨_, (), rfl, rfl, by show va_P D vwCl _ t.heap; rw [ht]; exact hP⟩, hS.F ht⟩) hS.2.2 dX1_longestRested_82
  · refine lq4_at (fun (x4 : Int32) (x5 : Int32) (x6 : Int32) (fW_7 : Nat → Int32) => ∀ (H : Heap) (locs : List Loc) (ls : Array Slot), va_P D vwCl (cStand Y aS (hT 0) vS gS ++ cRow Y vS 8 fW_7 ++ cTold Y hT tT) H → va_S A s.heap H locs → lv_has ls 5 [(0, .ref (aS 0)), (1, .int x4), (2, .int x5), (3, .int x6)] → W p l e (headSpec wsX1_longestRested rmX1_longestRested).room s m ([.ref (aS 0)] : List Value).toArray below meth c H locs 0 0 QQ (F0 m 6 ls [])) (fun rec8 x4 x5 x6 fW_7 ih8 hM H locs ls hP hS hl => ?_) FU (-1 : Int32) (-1 : Int32) (0 : Int32) fW hM H locs ls hP hS (lv_sub hl [3, 2, 1, 0] rfl)
    unfold BX1_longestRested_6 at hM
    refine lv_iload_n hx hb dX1_longestRested_6 rfl (lv_at hl 3 rfl) ?_
    refine lv_aload_n hx hb dX1_longestRested_7 rfl (lv_at hl 0 rfl) ?_
    refine va_get hx hb hts hi1 hown hK hP 0 rfl rfl 0 (by decide) (hts (.fieldLink RX1 21 "NightPlots$Standing" "told" "LNightPlots$Told;") (List.mem_of_getElem? (i := 1) rfl)) (fun _ h9 => h9) rfl dX1_longestRested_8 ?_
    refine va_get hx hb hts hi3 hown hK hP 4 rfl rfl 1 (by decide) (hts (.fieldLink RX1 70 "NightPlots$Told" "houses" "I") (List.mem_of_getElem? (i := 2) rfl)) (fun _ h9 => h9) rfl dX1_longestRested_11 ?_
    refine lv_icmp_ge (tgt := 81) hx hb dX1_longestRested_14 (by decide) (fun c9 => ?_) (fun c9 => ?_)
    · replace hM := if_at_pos hM c9
      exact hJ3 x5 fW_7 hM H locs ls hP hS (lv_sub hl [2] rfl)
    · replace hM := if_at_neg hM c9
      refine lv_iload_n hx hb dX1_longestRested_17 rfl (lv_at hl 1 rfl) ?_
      refine lv_iconst (v := (-1 : Int32)) hx hb dX1_longestRested_18 (by decide) ?_
      refine jn1_at (fun (x10 : Int32) => ∀ (H : Heap) (locs : List Loc) (ls : Array Slot), va_P D vwCl (cStand Y aS (hT 0) vS gS ++ cRow Y vS 8 fW_7 ++ cTold Y hT tT) H → va_S A s.heap H locs → lv_has ls 5 [(0, .ref (aS 0)), (1, .int x4), (2, .int x5), (3, .int x6)] → W p l e (headSpec wsX1_longestRested rmX1_longestRested).room s m ([.ref (aS 0)] : List Value).toArray below meth c H locs 0 0 QQ (F0 m 42 ls [.int x10])) hM (fun x10 hM H locs ls hP hS hl => ?_) (fun k11 hJ11 hM => ?_)
      · refine lv_istore (lv' := [(4, .int x10), (0, .ref (aS 0)), (1, .int x4), (2, .int x5), (3, .int x6)]) hx hb dX1_longestRested_42 hl (by decide) rfl (fun ls hl => ?_)
        refine lv_iload hx hb dX1_longestRested_44 (lv_at hl 0 rfl) ?_
        refine jn3_at (fun (x12 : Int32) (x13 : Int32) (fW_14 : Nat → Int32) => ∀ (H : Heap) (locs : List Loc) (ls : Array Slot), va_P D vwCl (cStand Y aS (hT 0) vS gS ++ cRow Y vS 8 fW_14 ++ cTold Y hT tT) H → va_S A s.heap H locs → lv_has ls 5 [(0, .ref (aS 0)), (1, .int x12), (2, .int x13), (3, .int x6)] → W p l e (headSpec wsX1_longestRested rmX1_longestRested).room s m ([.ref (aS 0)] : List Value).toArray below meth c H locs 0 0 QQ (F0 m 75 ls [])) hM (fun x12 x13 fW_14 hM H locs ls hP hS hl => ?_) (fun k15 hJ15 hM => ?_)
        · obtain ⟨x16, ex16⟩ : ∃ z : Int32, z = (x6 + 1) := ⟨_, rfl⟩
          replace hM := nm_at hM ex16
          refine lv_iinc (v := x16) (lv' := [(3, .int x16), (0, .ref (aS 0)), (1, .int x12), (2, .int x13)]) hx hb dX1_longestRested_75 hl (k := 3) rfl (by rw [ex16]; rfl) (by decide) rfl (fun ls hl => ?_)
          refine lv_goto (tgt := 6) hx hb dX1_longestRested_78 (by decide) ?_
          exact ih8 x12 x13 x16 fW_14 hM H locs ls hP hS (lv_sub hl [1, 2, 3, 0] rfl)
        · refine lv_if_eq (tgt := 75) hx hb dX1_longestRested_46 (by decide) (fun c17 => ?_) (fun c17 => ?_)
          · replace hM := if_at_pos hM c17
            exact hJ15 x4 x5 fW_7 hM H locs ls hP hS (lv_sub hl [1, 2, 3, 4] rfl)
          · replace hM := if_at_neg hM c17
            refine lv_aload_n hx hb dX1_longestRested_49 rfl (lv_at hl 1 rfl) ?_
            refine lv_iload_n hx hb dX1_longestRested_50 rfl (lv_at hl 4 rfl) ?_
            refine lv_aload_n hx hb dX1_longestRested_51 rfl (lv_at hl 1 rfl) ?_
            refine va_get hx hb hts hi1 hown hK hP 0 rfl rfl 3 (by decide) (hts (.fieldLink RX1 18 "NightPlots$Standing" "ways" "[I") (List.mem_of_getElem? (i := 4) rfl)) (fun _ h9 => h9) rfl dX1_longestRested_52 ?_
            obtain ⟨r18, fR_19, hc20, hM⟩ := bnd2_at hM
            refine co_i (va_runV (As := [.int x6, .ref vS]) (rest := []) ⟨hx, hb, hml, hown, hts⟩ (ctX1_findWays l D Y aS vS hT vS H.size gS fW_7 tT x6 r18 fR_19 hc20) (cwV 2 hts gX1_longestRested_X1_findWays rfl rfl rfl (by decide +kernel) ⟨Nat.le_of_ble_eq_true rfl, Nat.le_of_ble_eq_true rfl⟩) (pcW_V0 (ci := 1) (q0 := 0) hK hP (hD.same rfl) rfl rfl) rfl rfl hl.1 rfl (lv_room (Nat.le_of_ble_eq_true rfl)) dX1_longestRested_55 ⟨Nat.zero_le _, Nat.zero_le _⟩) (hD.same rfl) hS hA (fun H locs hP hS => ?_)
            refine lv_if_le (tgt := 75) hx hb dX1_longestRested_58 (by decide) (fun c21 => ?_) (fun c21 => ?_)
            · replace hM := if_at_pos hM c21
              exact hJ15 x4 x5 fR_19 hM H locs ls hP hS (lv_sub hl [1, 2, 3, 4] rfl)
            · replace hM := if_at_neg hM c21
              refine lv_iload_n hx hb dX1_longestRested_61 rfl (lv_at hl 4 rfl) ?_
              refine lv_istore_n (lv' := [(1, .int x6), (4, .int x10), (0, .ref (aS 0)), (2, .int x5), (3, .int x6)]) hx hb dX1_longestRested_62 rfl hl (by decide) rfl (fun ls hl => ?_)
              refine lv_bipush (v := (20 : Int32)) hx hb dX1_longestRested_63 (by decide) ?_
              refine lv_iload_n hx hb dX1_longestRested_65 rfl (lv_at hl 4 rfl) ?_
              refine lv_imul hx hb dX1_longestRested_66 ?_
              refine lv_aload_n hx hb dX1_longestRested_67 rfl (lv_at hl 2 rfl) ?_
              refine va_get hx hb hts hi1 hown hK hP 0 rfl rfl 3 (by decide) (hts (.fieldLink RX1 18 "NightPlots$Standing" "ways" "[I") (List.mem_of_getElem? (i := 4) rfl)) (fun _ h9 => h9) rfl dX1_longestRested_68 ?_
              refine lv_iconst (v := (0 : Int32)) hx hb dX1_longestRested_71 (by decide) ?_
              obtain ⟨hi_22, hM⟩ := chkI_at hM
              refine va_iald hx hb hK hP 3 0 rfl rfl hi_22 dX1_longestRested_72 ?_
              refine lv_iadd hx hb dX1_longestRested_73 ?_
              refine lv_topi (fun x23 ex23 => ?_)
              replace hM := nm_at hM ex23
              refine lv_istore_n (lv' := [(2, .int x23), (1, .int x6), (4, .int x10), (0, .ref (aS 0)), (3, .int x6)]) hx hb dX1_longestRested_74 rfl hl (by decide) rfl (fun ls hl => ?_)
              exact hJ15 x6 x23 fR_19 hM H locs ls hP hS (lv_sub hl [3, 1, 0, 4] rfl)
      · refine jn0_at (∀ (H : Heap) (locs : List Loc) (ls : Array Slot), va_P D vwCl (cStand Y aS (hT 0) vS gS ++ cRow Y vS 8 fW_7 ++ cTold Y hT tT) H → va_S A s.heap H locs → lv_has ls 5 [(0, .ref (aS 0)), (1, .int x4), (2, .int x5), (3, .int x6)] → W p l e (headSpec wsX1_longestRested rmX1_longestRested).room s m ([.ref (aS 0)] : List Value).toArray below meth c H locs 0 0 QQ (F0 m 37 ls [])) hM (fun  hM H locs ls hP hS hl => ?_) (fun k24 hJ24 hM => ?_)
        · refine lv_iconst (v := (1 : Int32)) hx hb dX1_longestRested_37 (by decide) ?_
          refine lv_goto (tgt := 42) hx hb dX1_longestRested_38 (by decide) ?_
          exact hJ11 (1 : Int32) hM H locs ls hP hS (lv_sub hl [0, 1, 2, 3] rfl)
        · refine lv_icmp_eq (tgt := 37) hx hb dX1_longestRested_19 (by decide) (fun c25 => ?_) (fun c25 => ?_)
          · replace hM := if_at_pos hM c25
            exact hJ24 hM H locs ls hP hS (lv_sub hl [0, 1, 2, 3] rfl)
          · replace hM := if_at_neg hM c25
            refine lv_aload_n hx hb dX1_longestRested_22 rfl (lv_at hl 0 rfl) ?_
            refine va_get hx hb hts hi1 hown hK hP 0 rfl rfl 2 (by decide) (hts (.fieldLink RX1 15 "NightPlots$Standing" "rolled" "[I") (List.mem_of_getElem? (i := 3) rfl)) (fun _ h9 => h9) rfl dX1_longestRested_23 ?_
            refine lv_iload_n hx hb dX1_longestRested_26 rfl (lv_at hl 3 rfl) ?_
            obtain ⟨hi_26, hM⟩ := chkI_at hM
            refine va_iald hx hb hK hP 2 0 rfl rfl hi_26 dX1_longestRested_27 ?_
            refine lv_aload_n hx hb dX1_longestRested_28 rfl (lv_at hl 0 rfl) ?_
            refine va_get hx hb hts hi1 hown hK hP 0 rfl rfl 2 (by decide) (hts (.fieldLink RX1 15 "NightPlots$Standing" "rolled" "[I") (List.mem_of_getElem? (i := 3) rfl)) (fun _ h9 => h9) rfl dX1_longestRested_29 ?_
            refine lv_iload_n hx hb dX1_longestRested_32 rfl (lv_at hl 1 rfl) ?_
            obtain ⟨hi_27, hM⟩ := chkI_at hM
            refine va_iald hx hb hK hP 2 0 rfl rfl hi_27 dX1_longestRested_33 ?_
            refine lv_icmp_ge (tgt := 41) hx hb dX1_longestRested_34 (by decide) (fun c28 => ?_) (fun c28 => ?_)
            · replace hM := if_at_pos hM c28
              refine lv_iconst (v := (0 : Int32)) hx hb dX1_longestRested_41 (by decide) ?_
              exact hJ11 (0 : Int32) hM H locs ls hP hS (lv_sub hl [0, 1, 2, 3] rfl)
            · replace hM := if_at_neg hM c28
              exact hJ24 hM H locs ls hP hS (lv_sub hl [0, 1, 2, 3] rfl)
