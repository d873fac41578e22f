noncomputable def MX5_keep (mM : GS) (i1 : Int32) : Option (Int32 × GS) := bnd1 (MX5_in i1 (0 : Int32) (1 : Int32)) fun (r1 : Int32) => if r1 = 0 then (some ((-2 : Int32), mM)) else (bnd1 (MX5_copy (19) (38) (mM 8) (mM 10) (0 : Int32) ((19 : Int32) * i1)) fun (fR2_4 : Nat → Int32) => nm (upA mM 10 fR2_4) fun (mM_6 : GS) => chkI i1 2 (nm (upA mM_6 11 (upd (mM_6 11) i1.toNatClampNeg (vp_nar .boolean (1 : Int32)))) fun (mM_8 : GS) => chkI (16 : Int32) 19 (some ((mM_8 8 (16 : Int32).toNatClampNeg), mM_8))))
abbrev rmX5_keep : Room := { frames := 2, cells := 0, slots := 0, locals := 80 }
set_option maxHeartbeats 4000000 in
set_option maxRecDepth 100000 in
theorem ctX5_keep (l : Launch) (D : va_G) (Y : Nat → ClassId) (oM : Nat → Nat) (sz : Nat) (mM : GS) (tk : Int64) (i1 : Int32) (rr : Int32) (mMz : GS) (hM : MX5_keep mM i1 = some (rr, mMz)) : Met l yX5_keep wsX5_keep rmX5_keep (pcW [.ref (oM 0), .int i1] sz D Y (cMod Y oM mM tk)) (qiW rr D (cMod Y oM mMz tk) (va_A (cMod Y oM mM tk) sz)) 0 0 (va_A (cMod Y oM mM tk) sz) := by
  refine Met.ofW (cc := cX5_keep) (maxL := 2) (ret := (some .int)) (by decide) rfl ?_
  intro p e s m args below meth c s₁ B hml hv
  obtain ⟨rfl, hsz, hP, hK, hD0⟩ := hv
  have hx := B.exec
  have hb := B.bytes
  have hr := B.returns
  have hts := atoms_spec (ws := wsX5_keep) B.pre
  have hown : s.vm.findClass RX5 = some m.cls := findClass_of_methodNamed B.named
  have hlocks := B.notSynchronized
  subst hsz
  have hD := hD0.self (sz := s.heap.size)
  generalize hAe : va_A (cMod Y oM mM tk) s.heap.size = A at hD ⊢
  have hA : ∀ q : Nat, s.heap.size ≤ q → A q := fun q h => by rw [← hAe]; exact Or.inr h
  have hS : va_S A s.heap s.heap [] := va_S.rf
  have hi5 : ∀ w ∈ wsX50, w ∈ wsX5_keep := fun w h => List.mem_cons_of_mem _ (List.mem_append_right _ h)
  have hl := lv_entry ([.ref (oM 0), .int i1]) (n := 2) (Nat.le_of_ble_eq_true rfl)
  rw [lg_entry_eq]
  generalize (lg_sl ([.ref (oM 0), .int i1]) ++ List.replicate (2 - (lg_sl ([.ref (oM 0), .int i1])).length) Slot.unset).toArray = ls at hl ⊢
  have hl : lv_has ls 2 [(0, .ref (oM 0)), (1, .int i1)] := hl
  obtain ⟨QQ, hQQ⟩ : ∃ Q : State → Prop, Q = MQ below (qiW rr D (cMod Y oM mMz tk) A) ([.ref (oM 0), .int i1] : List Value).toArray s 0 0 A := ⟨_, rfl⟩
  rw [← hQQ]
  unfold MX5_keep at hM
  suffices hI : ∀ (H : Heap) (locs : List Loc), va_P D vwCl (cMod Y oM mM tk) H → va_S A s.heap H locs → W p l e (headSpec wsX5_keep rmX5_keep).room s m ([.ref (oM 0), .int i1] : List Value).toArray below meth c H locs 0 0 QQ (F0 m 0 ls []) from hI _ _ hP hS
  clear hP hS
  intro H locs hP hS
  refine lv_iload_n hx hb dX5_keep_0 rfl (lv_at hl 1 rfl) ?_
  refine lv_iconst (v := (0 : Int32)) hx hb dX5_keep_1 (by decide) ?_
  refine lv_iconst (v := (1 : Int32)) hx hb dX5_keep_2 (by decide) ?_
  obtain ⟨r1, hc2, hM⟩ := bnd1_at hM
  refine cm_i (w2 := (cMod Y oM mM tk)) (va_runS (As := [.int i1, .int (0 : Int32), .int (1 : Int32)]) (rest := []) ⟨hx, hb, hml, hown, hts⟩ (ctX5_in l D Y H.size i1 (0 : Int32) (1 : Int32) r1 hc2) (cwS 3 hts gX5_keep_X5_in rfl rfl rfl (by decide +kernel) ⟨Nat.le_of_ble_eq_true rfl, Nat.le_of_ble_eq_true rfl⟩) (pcW_S hK hP (hD.same rfl) [] rfl (pc_map pc_nil)) rfl rfl hl.1 rfl (lv_room (Nat.le_of_ble_eq_true rfl)) dX5_keep_3 ⟨Nat.zero_le _, Nat.zero_le _⟩) hP (hD.same rfl) hS hA [] (pc_map pc_nil) (up_old rfl rfl (up_old rfl rfl (up_old rfl rfl (up_old rfl rfl (up_old rfl rfl (up_old rfl rfl (up_old rfl rfl (up_old rfl rfl (up_old rfl rfl (up_old rfl rfl (up_old rfl rfl (up_old rfl rfl (up_old rfl rfl (up_old rfl rfl (up_old rfl rfl (up_old rfl rfl (up_old rfl rfl (up_old rfl rfl (up_old rfl rfl up_nil))))))))))))))))))) (fun H locs hP hS => ?_)
  refine lv_if_ne (tgt := 12) hx hb dX5_keep_6 (by decide) (fun c3 => ?_) (fun c3 => ?_)
  · replace hM := if_at_neg hM c3
    refine lv_aload_n hx hb dX5_keep_12 rfl (lv_at hl 0 rfl) ?_
    refine va_get hx hb hts hi5 hown hK hP 0 rfl rfl 26 (by decide) (hts (.fieldLink RX5 38 "NightPlotsModel" "now" "[I") (List.mem_of_getElem? (i := 1) rfl)) (fun _ h9 => h9) rfl dX5_keep_13 ?_
    refine lv_iconst (v := (0 : Int32)) hx hb dX5_keep_16 (by decide) ?_
    refine lv_aload_n hx hb dX5_keep_17 rfl (lv_at hl 0 rfl) ?_
    refine va_get hx hb hts hi5 hown hK hP 0 rfl rfl 28 (by decide) (hts (.fieldLink RX5 44 "NightPlotsModel" "image" "[I") (List.mem_of_getElem? (i := 2) rfl)) (fun _ h9 => h9) rfl dX5_keep_18 ?_
    refine lv_bipush (v := (19 : Int32)) hx hb dX5_keep_21 (by decide) ?_
    refine lv_iload_n hx hb dX5_keep_23 rfl (lv_at hl 1 rfl) ?_
    refine lv_imul hx hb dX5_keep_24 ?_
    obtain ⟨fR2_4, hc5, hM⟩ := bnd1_at hM
    refine cm_v (w2 := (cMod Y oM (upA mM 10 fR2_4) tk)) (va_runS (As := [.ref (oM 8), .int (0 : Int32), .ref (oM 10), .int ((19 : Int32) * i1)]) (rest := []) ⟨hx, hb, hml, hown, hts⟩ (ctX5_copy l D Y (oM 8) (19) (oM 10) (38) H.size (mM 8) (mM 10) (0 : Int32) ((19 : Int32) * i1) fR2_4 hc5) (cwS 4 hts gX5_keep_X5_copy rfl rfl rfl (by decide +kernel) ⟨Nat.le_of_ble_eq_true rfl, Nat.le_of_ble_eq_true rfl⟩) (pcW_S hK hP (hD.same rfl) [8, 10] rfl (pc_map (pc_cons rfl (pc_cons rfl pc_nil)))) rfl rfl hl.1 rfl (lv_room (Nat.le_of_ble_eq_true rfl)) dX5_keep_25 ⟨Nat.zero_le _, Nat.zero_le _⟩) hP (hD.same rfl) hS hA [8, 10] (pc_map (pc_cons rfl (pc_cons rfl pc_nil))) (up_old rfl rfl (up_old rfl rfl (up_old rfl rfl (up_old rfl rfl (up_old rfl rfl (up_old rfl rfl (up_old rfl rfl (up_old rfl rfl (up_new 0 rfl (up_old rfl rfl (up_new 1 rfl (up_old rfl rfl (up_old rfl rfl (up_old rfl rfl (up_old rfl rfl (up_old rfl rfl (up_old rfl rfl (up_old rfl rfl (up_old rfl rfl up_nil))))))))))))))))))) (fun H locs hP hS => ?_)
    obtain ⟨mM_6, emM_6⟩ : ∃ z : GS, z = (upA mM 10 fR2_4) := ⟨_, rfl⟩
    have hP : va_P D vwCl (cMod Y oM mM_6 tk) H := by rw [emM_6]; exact hP
    replace hM := nm_at hM emM_6
    refine lv_aload_n hx hb dX5_keep_28 rfl (lv_at hl 0 rfl) ?_
    refine va_get hx hb hts hi5 hown hK hP 0 rfl rfl 29 (by decide) (hts (.fieldLink RX5 47 "NightPlotsModel" "isKept" "[Z") (List.mem_of_getElem? (i := 3) rfl)) (fun _ h9 => h9) rfl dX5_keep_29 ?_
    refine lv_iload_n hx hb dX5_keep_32 rfl (lv_at hl 1 rfl) ?_
    refine lv_iconst (v := (1 : Int32)) hx hb dX5_keep_33 (by decide) ?_
    obtain ⟨hi_7, hM⟩ := chkI_at hM
    refine va_zast hx hb hK hP (hD.same rfl) hS 11 2 rfl rfl hi_7 dX5_keep_34 (fun H locs hP _ hS => ?_)
    obtain ⟨mM_8, emM_8⟩ : ∃ z : GS, z = (upA mM_6 11 (upd (mM_6 11) i1.toNatClampNeg (vp_nar .boolean (1 : Int32)))) := ⟨_, rfl⟩
    have hP : va_P D vwCl (cMod Y oM mM_8 tk) H := by rw [emM_8]; exact hP
    replace hM := nm_at hM emM_8
    refine lv_aload_n hx hb dX5_keep_35 rfl (lv_at hl 0 rfl) ?_
    refine va_get hx hb hts hi5 hown hK hP 0 rfl rfl 26 (by decide) (hts (.fieldLink RX5 38 "NightPlotsModel" "now" "[I") (List.mem_of_getElem? (i := 1) rfl)) (fun _ h9 => h9) rfl dX5_keep_36 ?_
    refine lv_bipush (v := (16 : Int32)) hx hb dX5_keep_39 (by decide) ?_
    obtain ⟨hi_9, hM⟩ := chkI_at hM
    refine va_iald hx hb hK hP 8 0 rfl rfl hi_9 dX5_keep_41 ?_
    cases hM
    rw [hQQ]
    exact W.iret hx hb hr (fun t ht hW => ⟨⟨_, (), rfl, rfl, by show va_P D vwCl _ t.heap; rw [ht]; exact hP⟩, hS.F ht⟩) hS.2.2 dX5_keep_42
  · replace hM := if_at_pos hM c3
    refine lv_bipush (v := (-2 : Int32)) hx hb dX5_keep_9 (by decide) ?_
    cases hM
    rw [hQQ]
    exact W.iret hx hb hr (fun t ht hW => ⟨⟨_, (), rfl, rfl, by show va_P D vwCl _ t.heap; rw [ht]; exact hP⟩, hS.F ht⟩) hS.2.2 dX5_keep_11
noncomputable def MX5_back (mM : GS) (i1 : Int32) : Option (Int32 × GS) := bnd1 (MX5_in i1 (0 : Int32) (1 : Int32)) fun (r1 : Int32) => if r1 = 0 then (some ((-2 : Int32), mM)) else (chkI i1 2 (if (mM 11 i1.toNatClampNeg) = 0 then (some ((-4 : Int32), mM)) else (bnd1 (MX5_copy (38) (19) (mM 10) (mM 8) ((19 : Int32) * i1) (0 : Int32)) fun (fR2_6 : Nat → Int32) => nm (upA mM 8 fR2_6) fun (mM_8 : GS) => chkI (16 : Int32) 19 (some ((mM_8 8 (16 : Int32).toNatClampNeg), mM_8)))))
abbrev rmX5_back : Room := { frames := 2, cells := 0, slots := 0, locals := 80 }
set_option maxHeartbeats 4000000 in
set_option maxRecDepth 100000 in
theorem ctX5_back (l : Launch) (D : va_G) (Y : Nat → ClassId) (oM : Nat → Nat) (sz : Nat) (mM : GS) (tk : Int64) (i1 : Int32) (rr : Int32) (mMz : GS) (hM : MX5_back mM i1 = some (rr, mMz)) : Met l yX5_back wsX5_back rmX5_back (pcW [.ref (oM 0), .int i1] sz D Y (cMod Y oM mM tk)) (qiW rr D (cMod Y oM mMz tk) (va_A (cMod Y oM mM tk) sz)) 0 0 (va_A (cMod Y oM mM tk) sz) := by
  refine Met.ofW (cc := cX5_back) (maxL := 2) (ret := (some .int)) (by decide) rfl ?_
  intro p e s m args below meth c s₁ B hml hv
  obtain ⟨rfl, hsz, hP, hK, hD0⟩ := hv
  have hx := B.exec
  have hb := B.bytes
  have hr := B.returns
  have hts := atoms_spec (ws := wsX5_back) B.pre
  have hown : s.vm.findClass RX5 = some m.cls := findClass_of_methodNamed B.named
  have hlocks := B.notSynchronized
  subst hsz
  have hD := hD0.self (sz := s.heap.size)
  generalize hAe : va_A (cMod Y oM mM tk) s.heap.size = A at hD ⊢
  have hA : ∀ q : Nat, s.heap.size ≤ q → A q := fun q h => by rw [← hAe]; exact Or.inr h
  have hS : va_S A s.heap s.heap [] := va_S.rf
  have hi5 : ∀ w ∈ wsX50, w ∈ wsX5_back := fun w h => List.mem_cons_of_mem _ (List.mem_append_right _ h)
  have hl := lv_entry ([.ref (oM 0), .int i1]) (n := 2) (Nat.le_of_ble_eq_true rfl)
  rw [lg_entry_eq]
  generalize (lg_sl ([.ref (oM 0), .int i1]) ++ List.replicate (2 - (lg_sl ([.ref (oM 0), .int i1])).length) Slot.unset).toArray = ls at hl ⊢
  have hl : lv_has ls 2 [(0, .ref (oM 0)), (1, .int i1)] := hl
  obtain ⟨QQ, hQQ⟩ : ∃ Q : State → Prop, Q = MQ below (qiW rr D (cMod Y oM mMz tk) A) ([.ref (oM 0), .int i1] : List Value).toArray s 0 0 A := ⟨_, rfl⟩
  rw [← hQQ]
  unfold MX5_back at hM
  suffices hI : ∀ (H : Heap) (locs : List Loc), va_P D vwCl (cMod Y oM mM tk) H → va_S A s.heap H locs → W p l e (headSpec wsX5_back rmX5_back).room s m ([.ref (oM 0), .int i1] : List Value).toArray below meth c H locs 0 0 QQ (F0 m 0 ls []) from hI _ _ hP hS
  clear hP hS
  intro H locs hP hS
  refine lv_iload_n hx hb dX5_back_0 rfl (lv_at hl 1 rfl) ?_
  refine lv_iconst (v := (0 : Int32)) hx hb dX5_back_1 (by decide) ?_
  refine lv_iconst (v := (1 : Int32)) hx hb dX5_back_2 (by decide) ?_
  obtain ⟨r1, hc2, hM⟩ := bnd1_at hM
  refine cm_i (w2 := (cMod Y oM mM tk)) (va_runS (As := [.int i1, .int (0 : Int32), .int (1 : Int32)]) (rest := []) ⟨hx, hb, hml, hown, hts⟩ (ctX5_in l D Y H.size i1 (0 : Int32) (1 : Int32) r1 hc2) (cwS 3 hts gX5_back_X5_in rfl rfl rfl (by decide +kernel) ⟨Nat.le_of_ble_eq_true rfl, Nat.le_of_ble_eq_true rfl⟩) (pcW_S hK hP (hD.same rfl) [] rfl (pc_map pc_nil)) rfl rfl hl.1 rfl (lv_room (Nat.le_of_ble_eq_true rfl)) dX5_back_3 ⟨Nat.zero_le _, Nat.zero_le _⟩) hP (hD.same rfl) hS hA [] (pc_map pc_nil) (up_old rfl rfl (up_old rfl rfl (up_old rfl rfl (up_old rfl rfl (up_old rfl rfl (up_old rfl rfl (up_old rfl rfl (up_old rfl rfl (up_old rfl rfl (up_old rfl rfl (up_old rfl rfl (up_old rfl rfl (up_old rfl rfl (up_old rfl rfl (up_old rfl rfl (up_old rfl rfl (up_old rfl rfl (up_old rfl rfl (up_old rfl rfl up_nil))))))))))))))))))) (fun H locs hP hS => ?_)
  refine lv_if_ne (tgt := 12) hx hb dX5_back_6 (by decide) (fun c3 => ?_) (fun c3 => ?_)
  · replace hM := if_at_neg hM c3
    refine lv_aload_n hx hb dX5_back_12 rfl (lv_at hl 0 rfl) ?_
    refine va_get hx hb hts hi5 hown hK hP 0 rfl rfl 29 (by decide) (hts (.fieldLink RX5 47 "NightPlotsModel" "isKept" "[Z") (List.mem_of_getElem? (i := 1) rfl)) (fun _ h9 => h9) rfl dX5_back_13 ?_
    refine lv_iload_n hx hb dX5_back_16 rfl (lv_at hl 1 rfl) ?_
    obtain ⟨hi_4, hM⟩ := chkI_at hM
    refine va_zald hx hb hK hP 11 2 rfl rfl hi_4 dX5_back_17 ?_
    refine lv_if_ne (tgt := 24) hx hb dX5_back_18 (by decide) (fun c5 => ?_) (fun c5 => ?_)
    · replace hM := if_at_neg hM c5
      refine lv_aload_n hx hb dX5_back_24 rfl (lv_at hl 0 rfl) ?_
      refine va_get hx hb hts hi5 hown hK hP 0 rfl rfl 28 (by decide) (hts (.fieldLink RX5 44 "NightPlotsModel" "image" "[I") (List.mem_of_getElem? (i := 2) rfl)) (fun _ h9 => h9) rfl dX5_back_25 ?_
      refine lv_bipush (v := (19 : Int32)) hx hb dX5_back_28 (by decide) ?_
      refine lv_iload_n hx hb dX5_back_30 rfl (lv_at hl 1 rfl) ?_
      refine lv_imul hx hb dX5_back_31 ?_
      refine lv_aload_n hx hb dX5_back_32 rfl (lv_at hl 0 rfl) ?_
      refine va_get hx hb hts hi5 hown hK hP 0 rfl rfl 26 (by decide) (hts (.fieldLink RX5 38 "NightPlotsModel" "now" "[I") (List.mem_of_getElem? (i := 3) rfl)) (fun _ h9 => h9) rfl dX5_back_33 ?_
      refine lv_iconst (v := (0 : Int32)) hx hb dX5_back_36 (by decide) ?_
      obtain ⟨fR2_6, hc7, hM⟩ := bnd1_at hM
      refine cm_v (w2 := (cMod Y oM (upA mM 8 fR2_6) tk)) (va_runS (As := [.ref (oM 10), .int ((19 : Int32) * i1), .ref (oM 8), .int (0 : Int32)]) (rest := []) ⟨hx, hb, hml, hown, hts⟩ (ctX5_copy l D Y (oM 10) (38) (oM 8) (19) H.size (mM 10) (mM 8) ((19 : Int32) * i1) (0 : Int32) fR2_6 hc7) (cwS 4 hts gX5_back_X5_copy rfl rfl rfl (by decide +kernel) ⟨Nat.le_of_ble_eq_true rfl, Nat.le_of_ble_eq_true rfl⟩) (pcW_S hK hP (hD.same rfl) [10, 8] rfl (pc_map (pc_cons rfl (pc_cons rfl pc_nil)))) rfl rfl hl.1 rfl (lv_room (Nat.le_of_ble_eq_true rfl)) dX5_back_37 ⟨Nat.zero_le _, Nat.zero_le _⟩) hP (hD.same rfl) hS hA [10, 8] (pc_map (pc_cons rfl (pc_cons rfl pc_nil))) (up_old rfl rfl (up_old rfl rfl (up_old rfl rfl (up_old rfl rfl (up_old rfl rfl (up_old rfl rfl (up_old rfl rfl (up_old rfl rfl (up_new 1 rfl (up_old rfl rfl (up_new 0 rfl (up_old rfl rfl (up_old rfl rfl (up_old rfl rfl (up_old rfl rfl (up_old rfl rfl (up_old rfl rfl (up_old rfl rfl (up_old rfl rfl up_nil))))))))))))))))))) (fun H locs hP hS => ?_)
      obtain ⟨mM_8, emM_8⟩ : ∃ z : GS, z = (upA mM 8 fR2_6) := ⟨_, rfl⟩
      have hP : va_P D vwCl (cMod Y oM mM_8 tk) H := by rw [emM_8]; exact hP
      replace hM := nm_at hM emM_8
      refine lv_aload_n hx hb dX5_back_40 rfl (lv_at hl 0 rfl) ?_
      refine va_get hx hb hts hi5 hown hK hP 0 rfl rfl 26 (by decide) (hts (.fieldLink RX5 38 "NightPlotsModel" "now" "[I") (List.mem_of_getElem? (i := 3) rfl)) (fun _ h9 => h9) rfl dX5_back_41 ?_
      refine lv_bipush (v := (16 : Int32)) hx hb dX5_back_44 (by decide) ?_
      obtain ⟨hi_9, hM⟩ := chkI_at hM
      refine va_iald hx hb hK hP 8 0 rfl rfl hi_9 dX5_back_46 ?_
      cases hM
      rw [hQQ]
      exact W.iret hx hb hr (fun t ht hW => ⟨⟨_, (), rfl, rfl, by show va_P D vwCl _ t.heap; rw [ht]; exact hP⟩, hS.F ht⟩) hS.2.2 dX5_back_47
    · replace hM := if_at_pos hM c5
      refine lv_bipush (v := (-4 : Int32)) hx hb dX5_back_21 (by decide) ?_
      cases hM
      rw [hQQ]
      exact W.iret hx hb hr (fun t ht hW => ⟨⟨_, (), rfl, rfl, by show va_P D vwCl _ t.heap; rw [ht]; exact hP⟩, hS.F ht⟩) hS.2.2 dX5_back_23
  · replace hM := if_at_pos hM c3
    refine lv_bipush (v := (-2 : Int32)) hx hb dX5_back_9 (by decide) ?_
    cases hM
    rw [hQQ]
    exact W.iret hx hb hr (fun t ht hW => ⟨⟨_, (), rfl, rfl, by show va_P D vwCl _ t.heap; rw [ht]; exact hP⟩, hS.F ht⟩) hS.2.2 dX5_back_11
noncomputable def MX5_putAside (mM : GS) : Option (GS) := bnd1 (MX5_copy (19) (19) (mM 8) (mM 9) (0 : Int32) (0 : Int32)) fun (fR2_1 : Nat → Int32) => nm (upA mM 9 fR2_1) fun (mM_3 : GS) => nm (mM_3 0 9) fun (x4 : Int32) => nm (up2 mM_3 0 34 x4) fun (mM_5 : GS) => some (mM_5)
abbrev rmX5_putAside : Room := { frames := 2, cells := 0, slots := 0, locals := 80 }
set_option maxHeartbeats 4000000 in
set_option maxRecDepth 100000 in
theorem ctX5_putAside (l : Launch) (D : va_G) (Y : Nat → ClassId) (oM : Nat → Nat) (sz : Nat) (mM : GS) (tk : Int64) (mMz : GS) (hM : MX5_putAside mM = some (mMz)) : Met l yX5_putAside wsX5_putAside rmX5_putAside (pcW [.ref (oM 0)] sz D Y (cMod Y oM mM tk)) (qvW D (cMod Y oM mMz tk) (va_A (cMod Y oM mM tk) sz)) 0 0 (va_A (cMod Y oM mM tk) sz) := by
  refine Met.ofW (cc := cX5_putAside) (maxL := 1) (ret := (none)) (by decide) rfl ?_
  intro p e s m args below meth c s₁ B hml hv
  obtain ⟨rfl, hsz, hP, hK, hD0⟩ := hv
  have hx := B.exec
  have hb := B.bytes
  have hr := B.returns
  have hts := atoms_spec (ws := wsX5_putAside) B.pre
  have hown : s.vm.findClass RX5 = some m.cls := findClass_of_methodNamed B.named
  have hlocks := B.notSynchronized
  subst hsz
  have hD := hD0.self (sz := s.heap.size)
  generalize hAe : va_A (cMod Y oM mM tk) s.heap.size = A at hD ⊢
  have hA : ∀ q : Nat, s.heap.size ≤ q → A q := fun q h => by rw [← hAe]; exact Or.inr h
  have hS : va_S A s.heap s.heap [] := va_S.rf
  have hi5 : ∀ w ∈ wsX50, w ∈ wsX5_putAside := fun w h => List.mem_cons_of_mem _ (List.mem_append_right _ h)
  have hl := lv_entry ([.ref (oM 0)]) (n := 1) (Nat.le_of_ble_eq_true rfl)
  rw [lg_entry_eq]
  generalize (lg_sl ([.ref (oM 0)]) ++ List.replicate (1 - (lg_sl ([.ref (oM 0)])).length) Slot.unset).toArray = ls at hl ⊢
  have hl : lv_has ls 1 [(0, .ref (oM 0))] := hl
  obtain ⟨QQ, hQQ⟩ : ∃ Q : State → Prop, Q = MQ below (qvW D (cMod Y oM mMz tk) A) ([.ref (oM 0)] : List Value).toArray s 0 0 A := ⟨_, rfl⟩
  rw [← hQQ]
  unfold MX5_putAside at hM
  suffices hI : ∀ (H : Heap) (locs : List Loc), va_P D vwCl (cMod Y oM mM tk) H → va_S A s.heap H locs → W p l e (headSpec wsX5_putAside rmX5_putAside).room s m ([.ref (oM 0)] : List Value).toArray below meth c H locs 0 0 QQ (F0 m 0 ls []) from hI _ _ hP hS
  clear hP hS
  intro H locs hP hS
  refine lv_aload_n hx hb dX5_putAside_0 rfl (lv_at hl 0 rfl) ?_
  refine va_get hx hb hts hi5 hown hK hP 0 rfl rfl 26 (by decide) (hts (.fieldLink RX5 38 "NightPlotsModel" "now" "[I") (List.mem_of_getElem? (i := 1) rfl)) (fun _ h9 => h9) rfl dX5_putAside_1 ?_
  refine lv_iconst (v := (0 : Int32)) hx hb dX5_putAside_4 (by decide) ?_
  refine lv_aload_n hx hb dX5_putAside_5 rfl (lv_at hl 0 rfl) ?_
  refine va_get hx hb hts hi5 hown hK hP 0 rfl rfl 27 (by decide) (hts (.fieldLink RX5 41 "NightPlotsModel" "aside" "[I") (List.mem_of_getElem? (i := 2) rfl)) (fun _ h9 => h9) rfl dX5_putAside_6 ?_
  refine lv_iconst (v := (0 : Int32)) hx hb dX5_putAside_9 (by decide) ?_
  obtain ⟨fR2_1, hc2, hM⟩ := bnd1_at hM
  refine cm_v (w2 := (cMod Y oM (upA mM 9 fR2_1) tk)) (va_runS (As := [.ref (oM 8), .int (0 : Int32), .ref (oM 9), .int (0 : Int32)]) (rest := []) ⟨hx, hb, hml, hown, hts⟩ (ctX5_copy l D Y (oM 8) (19) (oM 9) (19) H.size (mM 8) (mM 9) (0 : Int32) (0 : Int32) fR2_1 hc2) (cwS 4 hts gX5_putAside_X5_copy rfl rfl rfl (by decide +kernel) ⟨Nat.le_of_ble_eq_true rfl, Nat.le_of_ble_eq_true rfl⟩) (pcW_S hK hP (hD.same rfl) [8, 9] rfl (pc_map (pc_cons rfl (pc_cons rfl pc_nil)))) rfl rfl hl.1 rfl (lv_room (Nat.le_of_ble_eq_true rfl)) dX5_putAside_10 ⟨Nat.zero_le _, Nat.zero_le _⟩) hP (hD.same rfl) hS hA [8, 9] (pc_map (pc_cons rfl (pc_cons rfl pc_nil))) (up_old rfl rfl (up_old rfl rfl (up_old rfl rfl (up_old rfl rfl (up_old rfl rfl (up_old rfl rfl (up_old rfl rfl (up_old rfl rfl (up_new 0 rfl (up_new 1 rfl (up_old rfl rfl (up_old rfl rfl (up_old rfl rfl (up_old rfl rfl (up_old rfl rfl (up_old rfl rfl (up_old rfl rfl (up_old rfl rfl (up_old rfl rfl up_nil))))))))))))))))))) (fun H locs hP hS => ?_)
  obtain ⟨mM_3, emM_3⟩ : ∃ z : GS, z = (upA mM 9 fR2_1) := ⟨_, rfl⟩
  have hP : va_P D vwCl (cMod Y oM mM_3 tk) H := by rw [emM_3]; exact hP
  replace hM := nm_at hM emM_3
  refine lv_aload_n hx hb dX5_putAside_13 rfl (lv_at hl 0 rfl) ?_
  refine lv_aload_n hx hb dX5_putAside_14 rfl (lv_at hl 0 rfl) ?_
  refine va_get hx hb hts hi5 hown hK hP 0 rfl rfl 9 (by decide) (hts (.fieldLink RX5 91 "NightPlotsModel" "law" "I") (List.mem_of_getElem? (i := 3) rfl)) (fun _ h9 => h9) rfl dX5_putAside_15 ?_
  refine lv_topi (fun x4 ex4 => ?_)
  replace hM := nm_at hM ex4
  refine va_put (ty := .int) hx hb hts hi5 tyX5 tyX5_ok nmX5 hown hK hP (hD.same rfl) hS 0 rfl rfl 34 (by decide) (hts (.fieldLink RX5 245 "NightPlotsModel" "triedLaw" "I") (List.mem_of_getElem? (i := 4) rfl)) (fun _ h9 => h9) rfl (by decide +kernel) rfl rfl (Nat.le_of_ble_eq_true rfl) dX5_putAside_18 (fun H locs hP _ hS => ?_)
  obtain ⟨mM_5, emM_5⟩ : ∃ z : GS, z = (up2 mM_3 0 34 x4) := ⟨_, rfl⟩
  have hP : va_P D vwCl (cMod Y oM mM_5 tk) H := by rw [emM_5]; exact hP
  replace hM := nm_at hM emM_5
  cases hM
  rw [hQQ]
  exact W.vret hx hb hr (fun t ht hW => ⟨⟨(), rfl, trivial, by show va_P D vwCl _ t.heap; rw [ht]; exact hP⟩, hS.F ht⟩) hS.2.2 dX5_putAside_21
noncomputable def MX5_putBack (mM : GS) : Option (GS) := bnd1 (MX5_copy (19) (19) (mM 9) (mM 8) (0 : Int32) (0 : Int32)) fun (fR2_1 : Nat → Int32) => nm (upA mM 8 fR2_1) fun (mM_3 : GS) => some (mM_3)
abbrev rmX5_putBack : Room := { frames := 2, cells := 0, slots := 0, locals := 80 }
set_option maxHeartbeats 4000000 in
set_option maxRecDepth 100000 in
theorem ctX5_putBack (l : Launch) (D : va_G) (Y : Nat → ClassId) (oM : Nat → Nat) (sz : Nat) (mM : GS) (tk : Int64) (mMz : GS) (hM : MX5_putBack mM = some (mMz)) : Met l yX5_putBack wsX5_putBack rmX5_putBack (pcW [.ref (oM 0)] sz D Y (cMod Y oM mM tk)) (qvW D (cMod Y oM mMz tk) (va_A (cMod Y oM mM tk) sz)) 0 0 (va_A (cMod Y oM mM tk) sz) := by
  refine Met.ofW (cc := cX5_putBack) (maxL := 1) (ret := (none)) (by decide) rfl ?_
  intro p e s m args below meth c s₁ B hml hv
  obtain ⟨rfl, hsz, hP, hK, hD0⟩ := hv
  have hx := B.exec
  have hb := B.bytes
  have hr := B.returns
  have hts := atoms_spec (ws := wsX5_putBack) B.pre
  have hown : s.vm.findClass RX5 = some m.cls := findClass_of_methodNamed B.named
  have hlocks := B.notSynchronized
  subst hsz
  have hD := hD0.self (sz := s.heap.size)
  generalize hAe : va_A (cMod Y oM mM tk) s.heap.size = A at hD ⊢
  have hA : ∀ q : Nat, s.heap.size ≤ q → A q := fun q h => by rw [← hAe]; exact Or.inr h
  have hS : va_S A s.heap s.heap [] := va_S.rf
  have hi5 : ∀ w ∈ wsX50, w ∈ wsX5_putBack := fun w h => List.mem_cons_of_mem _ (List.mem_append_right _ h)
  have hl := lv_entry ([.ref (oM 0)]) (n := 1) (Nat.le_of_ble_eq_true rfl)
  rw [lg_entry_eq]
  generalize (lg_sl ([.ref (oM 0)]) ++ List.replicate (1 - (lg_sl ([.ref (oM 0)])).length) Slot.unset).toArray = ls at hl ⊢
  have hl : lv_has ls 1 [(0, .ref (oM 0))] := hl
  obtain ⟨QQ, hQQ⟩ : ∃ Q : State → Prop, Q = MQ below (qvW D (cMod Y oM mMz tk) A) ([.ref (oM 0)] : List Value).toArray s 0 0 A := ⟨_, rfl⟩
  rw [← hQQ]
  unfold MX5_putBack at hM
  suffices hI : ∀ (H : Heap) (locs : List Loc), va_P D vwCl (cMod Y oM mM tk) H → va_S A s.heap H locs → W p l e (headSpec wsX5_putBack rmX5_putBack).room s m ([.ref (oM 0)] : List Value).toArray below meth c H locs 0 0 QQ (F0 m 0 ls []) from hI _ _ hP hS
  clear hP hS
  intro H locs hP hS
  refine lv_aload_n hx hb dX5_putBack_0 rfl (lv_at hl 0 rfl) ?_
  refine va_get hx hb hts hi5 hown hK hP 0 rfl rfl 27 (by decide) (hts (.fieldLink RX5 41 "NightPlotsModel" "aside" "[I") (List.mem_of_getElem? (i := 1) rfl)) (fun _ h9 => h9) rfl dX5_putBack_1 ?_
  refine lv_iconst (v := (0 : Int32)) hx hb dX5_putBack_4 (by decide) ?_
  refine lv_aload_n hx hb dX5_putBack_5 rfl (lv_at hl 0 rfl) ?_
  refine va_get hx hb hts hi5 hown hK hP 0 rfl rfl 26 (by decide) (hts (.fieldLink RX5 38 "NightPlotsModel" "now" "[I") (List.mem_of_getElem? (i := 2) rfl)) (fun _ h9 => h9) rfl dX5_putBack_6 ?_
  refine lv_iconst (v := (0 : Int32)) hx hb dX5_putBack_9 (by decide) ?_
  obtain ⟨fR2_1, hc2, hM⟩ := bnd1_at hM
  refine cm_v (w2 := (cMod Y oM (upA mM 8 fR2_1) tk)) (va_runS (As := [.ref (oM 9), .int (0 : Int32), .ref (oM 8), .int (0 : Int32)]) (rest := []) ⟨hx, hb, hml, hown, hts⟩ (ctX5_copy l D Y (oM 9) (19) (oM 8) (19) H.size (mM 9) (mM 8) (0 : Int32) (0 : Int32) fR2_1 hc2) (cwS 4 hts gX5_putBack_X5_copy rfl rfl rfl (by decide +kernel) ⟨Nat.le_of_ble_eq_true rfl, Nat.le_of_ble_eq_true rfl⟩) (pcW_S hK hP (hD.same rfl) [9, 8] rfl (pc_map (pc_cons rfl (pc_cons rfl pc_nil)))) rfl rfl hl.1 rfl (lv_room (Nat.le_of_ble_eq_true rfl)) dX5_putBack_10 ⟨Nat.zero_le _, Nat.zero_le _⟩) hP (hD.same rfl) hS hA [9, 8] (pc_map (pc_cons rfl (pc_cons rfl pc_nil))) (up_old rfl rfl (up_old rfl rfl (up_old rfl rfl (up_old rfl rfl (up_old rfl rfl (up_old rfl rfl (up_old rfl rfl (up_old rfl rfl (up_new 1 rfl (up_new 0 rfl (up_old rfl rfl (up_old rfl rfl (up_old rfl rfl (up_old rfl rfl (up_old rfl rfl (up_old rfl rfl (up_old rfl rfl (up_old rfl rfl (up_old rfl rfl up_nil))))))))))))))))))) (fun H locs hP hS => ?_)
  obtain ⟨mM_3, emM_3⟩ : ∃ z : GS, z = (upA mM 8 fR2_1) := ⟨_, rfl⟩
  have hP : va_P D vwCl (cMod Y oM mM_3 tk) H := by rw [emM_3]; exact hP
  replace hM := nm_at hM emM_3
  cases hM
  rw [hQQ]
  exact W.vret hx hb hr (fun t ht hW => ⟨⟨(), rfl, trivial, by show va_P D vwCl _ t.heap; rw [ht]; exact hP⟩, hS.F ht⟩) hS.2.2 dX5_putBack_13
noncomputable def BX5_later_30 (i2 : Int32) (k10 : GS → Option (Int32 × GS)) (rec17 : Int32 → GS → Option (Int32 × GS)) (x15 : Int32) (mM_16 : GS) : Option (Int32 × GS) := if i2 ≤ x15 then (k10 mM_16) else (bnd1 (MX5_goNight mM_16) fun (mM_19 : GS) => nm (x15 + 1) fun (x21 : Int32) => rec17 x21 mM_19)
noncomputable def MX5_later (mM : GS) (i1 : Int32) (i2 : Int32) : Option (Int32 × GS) := bnd1 (MX5_isHouse mM i1) fun (r1 : Int32) => if r1 = 0 then (some ((-2 : Int32), mM)) else (bnd1 (MX5_in i2 (0 : Int32) (99 : Int32)) fun (r4 : Int32) => if r4 = 0 then (some ((-3 : Int32), mM)) else (bnd1 (MX5_putAside mM) fun (mM_7 : GS) => jn1 (fun (mM_9 : GS) => chkI i1 19 (nm (mM_9 8 i1.toNatClampNeg) fun (x12 : Int32) => bnd1 (MX5_putBack mM_9) fun (mM_13 : GS) => some (x12, mM_13))) (fun k10 => lq2 (BX5_later_30 i2 k10) FU (0 : Int32) mM_7)))
abbrev rmX5_later : Room := { frames := 6, cells := 0, slots := 0, locals := 240 }
set_option maxHeartbeats 4000000 in
set_option maxRecDepth 100000 in
theorem ctX5_later (l : Launch) (D : va_G) (Y : Nat → ClassId) (oM : Nat → Nat) (sz : Nat) (mM : GS) (tk : Int64) (i1 : Int32) (i2 : Int32) (rr : Int32) (mMz : GS) (hM : MX5_later mM i1 i2 = some (rr, mMz)) : Met l yX5_later wsX5_later rmX5_later (pcW [.ref (oM 0), .int i1, .int i2] sz D Y (cMod Y oM mM tk)) (qiW rr D (cMod Y oM mMz tk) (va_A (cMod Y oM mM tk) sz)) 0 0 (va_A (cMod Y oM mM tk) sz) := by
  refine Met.ofW (cc := cX5_later) (maxL := 4) (ret := (some .int)) (by decide) rfl ?_
  intro p e s m args below meth c s₁ B hml hv
  obtain ⟨rfl, hsz, hP, hK, hD0⟩ := hv
  have hx := B.exec
  have hb := B.bytes
  have hr := B.returns
  have hts := atoms_spec (ws := wsX5_later) B.pre
  have hown : s.vm.findClass RX5 = some m.cls := findClass_of_methodNamed B.named
  have hlocks := B.notSynchronized
  subst hsz
  have hD := hD0.self (sz := s.heap.size)
  generalize hAe : va_A (cMod Y oM mM tk) s.heap.size = A at hD ⊢
  have hA : ∀ q : Nat, s.heap.size ≤ q → A q := fun q h => by rw [← hAe]; exact Or.inr h
  have hS : va_S A s.heap s.heap [] := va_S.rf
  have hi5 : ∀ w ∈ wsX50, w ∈ wsX5_later := fun w h => List.mem_cons_of_mem _ (List.mem_append_right _ h)
  have hl := lv_entry ([.ref (oM 0), .int i1, .int i2]) (n := 4) (Nat.le_of_ble_eq_true rfl)
  rw [lg_entry_eq]
  generalize (lg_sl ([.ref (oM 0), .int i1, .int i2]) ++ List.replicate (4 - (lg_sl ([.ref (oM 0), .int i1, .int i2])).length) Slot.unset).toArray = ls at hl ⊢
  have hl : lv_has ls 4 [(0, .ref (oM 0)), (1, .int i1), (2, .int i2)] := hl
  obtain ⟨QQ, hQQ⟩ : ∃ Q : State → Prop, Q = MQ below (qiW rr D (cMod Y oM mMz tk) A) ([.ref (oM 0), .int i1, .int i2] : List Value).toArray s 0 0 A := ⟨_, rfl⟩
  rw [← hQQ]
  unfold MX5_later at hM
  suffices hI : ∀ (H : Heap) (locs : List Loc), va_P D vwCl (cMod Y oM mM tk) H → va_S A s.heap H locs → W p l e (headSpec wsX5_later rmX5_later).room s m ([.ref (oM 0), .int i1, .int i2] : List Value).toArray below meth c H locs 0 0 QQ (F0 m 0 ls []) from hI _ _ hP hS
  clear hP hS
  intro H locs hP hS
  refine lv_aload_n hx hb dX5_later_0 rfl (lv_at hl 0 rfl) ?_
  refine lv_iload_n hx hb dX5_later_1 rfl (lv_at hl 1 rfl) ?_
  obtain ⟨r1, hc2, hM⟩ := bnd1_at hM
  refine co_i (va_runV (As := [.int i1]) (rest := []) ⟨hx, hb, hml, hown, hts⟩ (ctX5_isHouse l D Y oM H.size mM tk i1 r1 hc2) (cwV 1 hts gX5_later_X5_isHouse rfl rfl rfl (by decide +kernel) ⟨Nat.le_of_ble_eq_true rfl, Nat.le_of_ble_eq_true rfl⟩) (pcW_V0 (ci := 5) (q0 := 0) hK hP (hD.same rfl) rfl rfl) rfl rfl hl.1 rfl (lv_room (Nat.le_of_ble_eq_true rfl)) dX5_later_2 ⟨Nat.zero_le _, Nat.zero_le _⟩) (hD.same rfl) hS hA (fun H locs hP hS => ?_)
  refine lv_if_ne (tgt := 11) hx hb dX5_later_5 (by decide) (fun c3 => ?_) (fun c3 => ?_)
  · replace hM := if_at_neg hM c3
    refine lv_iload_n hx hb dX5_later_11 rfl (lv_at hl 2 rfl) ?_
    refine lv_iconst (v := (0 : Int32)) hx hb dX5_later_12 (by decide) ?_
    refine lv_bipush (v := (99 : Int32)) hx hb dX5_later_13 (by decide) ?_
    obtain ⟨r4, hc5, hM⟩ := bnd1_at hM
    refine cm_i (w2 := (cMod Y oM mM tk)) (va_runS (As := [.int i2, .int (0 : Int32), .int (99 : Int32)]) (rest := []) ⟨hx, hb, hml, hown, hts⟩ (ctX5_in l D Y H.size i2 (0 : Int32) (99 : Int32) r4 hc5) (cwS 3 hts gX5_later_X5_in rfl rfl rfl (by decide +kernel) ⟨Nat.le_of_ble_eq_true rfl, Nat.le_of_ble_eq_true rfl⟩) (pcW_S hK hP (hD.same rfl) [] rfl (pc_map pc_nil)) rfl rfl hl.1 rfl (lv_room (Nat.le_of_ble_eq_true rfl)) dX5_later_15 ⟨Nat.zero_le _, Nat.zero_le _⟩) hP (hD.same rfl) hS hA [] (pc_map pc_nil) (up_old rfl rfl (up_old rfl rfl (up_old rfl rfl (up_old rfl rfl (up_old rfl rfl (up_old rfl rfl (up_old rfl rfl (up_old rfl rfl (up_old rfl rfl (up_old rfl rfl (up_old rfl rfl (up_old rfl rfl (up_old rfl rfl (up_old rfl rfl (up_old rfl rfl (up_old rfl rfl (up_old rfl rfl (up_old rfl rfl (up_old rfl rfl up_nil))))))))))))))))))) (fun H locs hP hS => ?_)
    refine lv_if_ne (tgt := 24) hx hb dX5_later_18 (by decide) (fun c6 => ?_) (fun c6 => ?_)
    · replace hM := if_at_neg hM c6
      refine lv_aload_n hx hb dX5_later_24 rfl (lv_at hl 0 rfl) ?_
      obtain ⟨mM_7, hc8, hM⟩ := bnd1_at hM
      refine co_v (va_runV (As := []) (rest := []) ⟨hx, hb, hml, hown, hts⟩ (ctX5_putAside l D Y oM H.size mM tk mM_7 hc8) (cwV 0 hts gX5_later_X5_putAside rfl rfl rfl (by decide +kernel) ⟨Nat.le_of_ble_eq_true rfl, Nat.le_of_ble_eq_true rfl⟩) (pcW_V0 (ci := 5) (q0 := 0) hK hP (hD.same rfl) rfl rfl) rfl rfl hl.1 rfl (lv_room (Nat.le_of_ble_eq_true rfl)) dX5_later_25 ⟨Nat.zero_le _, Nat.zero_le _⟩) (hD.same rfl) hS hA (fun H locs hP hS => ?_)
      refine lv_iconst (v := (0 : Int32)) hx hb dX5_later_28 (by decide) ?_
      refine lv_istore_n (lv' := [(3, .int (0 : Int32)), (0, .ref (oM 0)), (1, .int i1), (2, .int i2)]) hx hb dX5_later_29 rfl hl (by decide) rfl (fun ls hl => ?_)
      refine jn1_at (fun (mM_9 : GS) => ∀ (H : Heap) (locs : List Loc) (ls : Array Slot), va_P D vwCl (cMod Y oM mM_9 tk) H → va_S A s.heap H locs → lv_has ls 4 [(0, .ref (oM 0)), (1, .int i1)] → W p l e (headSpec wsX5_later rmX5_later).room s m ([.ref (oM 0), .int i1, .int i2] : List Value).toArray below meth c H locs 0 0 QQ (F0 m 45 ls [])) hM (fun mM_9 hM H locs ls hP hS hl => ?_) (fun k10 hJ10 hM => ?_)
      · refine lv_aload_n hx hb dX5_later_45 rfl (lv_at hl 0 rfl) ?_
        refine va_get hx hb hts hi5 hown hK hP 0 rfl rfl 26 (by decide) (hts (.fieldLink RX5 38 "NightPlotsModel" "now" "[I") (List.mem_of_getElem? (i := 1) rfl)) (fun _ h9 => h9) rfl dX5_later_46 ?_
        refine lv_iload_n hx hb dX5_later_49 rfl (lv_at hl 1 rfl) ?_
        obtain ⟨hi_11, hM⟩ := chkI_at hM
        refine va_iald hx hb hK hP 8 0 rfl rfl hi_11 dX5_later_50 ?_
        refine lv_topi (fun x12 ex12 => ?_)
        replace hM := nm_at hM ex12
        refine lv_istore_n (lv' := [(3, .int x12), (0, .ref (oM 0)), (1, .int i1)]) hx hb dX5_later_51 rfl hl (by decide) rfl (fun ls hl => ?_)
        refine lv_aload_n hx hb dX5_later_52 rfl (lv_at hl 1 rfl) ?_
        obtain ⟨mM_13, hc14, hM⟩ := bnd1_at hM
        refine co_v (va_runV (As := []) (rest := []) ⟨hx, hb, hml, hown, hts⟩ (ctX5_putBack l D Y oM H.size mM_9 tk mM_13 hc14) (cwV 0 hts gX5_later_X5_putBack rfl rfl rfl (by decide +kernel) ⟨Nat.le_of_ble_eq_true rfl, Nat.le_of_ble_eq_true rfl⟩) (pcW_V0 (ci := 5) (q0 := 0) hK hP (hD.same rfl) rfl rfl) rfl rfl hl.1 rfl (lv_room (Nat.le_of_ble_eq_true rfl)) dX5_later_53 ⟨Nat.zero_le _, Nat.zero_le _⟩) (hD.same rfl) hS hA (fun H locs hP hS => ?_)
        refine lv_iload_n hx hb dX5_later_56 rfl (lv_at hl 0 rfl) ?_
        cases hM
        rw [hQQ]
        exact W.iret hx hb hr (fun t ht hW => ⟨⟨_, (), rfl, rfl, by show va_P D vwCl _ t.heap; rw [ht]; exact hP⟩, hS.F ht⟩) hS.2.2 dX5_later_57
      · refine lq2_at (fun (x15 : Int32) (mM_16 : GS) => ∀ (H : Heap) (locs : List Loc) (ls : Array Slot), va_P D vwCl (cMod Y oM mM_16 tk) H → va_S A s.heap H locs → lv_has ls 4 [(0, .ref (oM 0)), (1, .int i1), (2, .int i2), (3, .int x15)] → W p l e (headSpec wsX5_later rmX5_later).room s m ([.ref (oM 0), .int i1, .int i2] : List Value).toArray below meth c H locs 0 0 QQ (F0 m 30 ls [])) (fun rec17 x15 mM_16 ih17 hM H locs ls hP hS hl => ?_) FU (0 : Int32) mM_7 hM H locs ls hP hS (lv_sub hl [1, 2, 3, 0] rfl)
        unfold BX5_later_30 at hM
        refine lv_iload_n hx hb dX5_later_30 rfl (lv_at hl 3 rfl) ?_
        refine lv_iload_n hx hb dX5_later_31 rfl (lv_at hl 2 rfl) ?_
        refine lv_icmp_ge (tgt := 45) hx hb dX5_later_32 (by decide) (fun c18 => ?_) (fun c18 => ?_)
        · replace hM := if_at_pos hM c18
          exact hJ10 mM_16 hM H locs ls hP hS (lv_sub hl [0, 1] rfl)
        · replace hM := if_at_neg hM c18
          refine lv_aload_n hx hb dX5_later_35 rfl (lv_at hl 0 rfl) ?_
          obtain ⟨mM_19, hc20, hM⟩ := bnd1_at hM
          refine co_v (va_runV (As := []) (rest := []) ⟨hx, hb, hml, hown, hts⟩ (ctX5_goNight l D Y oM H.size mM_16 tk mM_19 hc20) (cwV 0 hts gX5_later_X5_goNight rfl rfl rfl (by decide +kernel) ⟨Nat.le_of_ble_eq_true rfl, Nat.le_of_ble_eq_true rfl⟩) (pcW_V0 (ci := 5) (q0 := 0) hK hP (hD.same rfl) rfl rfl) rfl rfl hl.1 rfl (lv_room (Nat.le_of_ble_eq_true rfl)) dX5_later_36 ⟨Nat.zero_le _, Nat.zero_le _⟩) (hD.same rfl) hS hA (fun H locs hP hS => ?_)
          obtain ⟨x21, ex21⟩ : ∃ z : Int32, z = (x15 + 1) := ⟨_, rfl⟩
          replace hM := nm_at hM ex21
          refine lv_iinc (v := x21) (lv' := [(3, .int x21), (0, .ref (oM 0)), (1, .int i1), (2, .int i2)]) hx hb dX5_later_39 hl (k := 3) rfl (by rw [ex21]; rfl) (by decide) rfl (fun ls hl => ?_)
          refine lv_goto (tgt := 30) hx hb dX5_later_42 (by decide) ?_
          exact ih17 x21 mM_19 hM H locs ls hP hS (lv_sub hl [1, 2, 3, 0] rfl)
    · replace hM := if_at_pos hM c6
      refine lv_bipush (v := (-3 : Int32)) hx hb dX5_later_21 (by decide) ?_
      cases hM
      rw [hQQ]
      exact W.iret hx hb hr (fun t ht hW => ⟨⟨_, (), rfl, rfl, by show va_P D vwCl _ t.heap; rw [ht]; exact hP⟩, hS.F ht⟩) hS.2.2 dX5_later_23
  · replace hM := if_at_pos hM c3
    refine lv_bipush (v := (-2 : Int32)) hx hb dX5_later_8 (by decide) ?_
    cases hM
    rw [hQQ]
    exact W.iret hx hb hr (fun t ht hW => ⟨⟨_, (), rfl, rfl, by show va_P D vwCl _ t.heap; rw [ht]; exact hP⟩, hS.F ht⟩) hS.2.2 dX5_later_10
noncomputable def BX5_rankOf_4 (mM : GS) (k2 : Int32 → Option (Int32)) (i1 : Int32) (rec5 : Int32 → Int32 → Option (Int32)) (x3 : Int32) (x4 : Int32) : Option (Int32) := if (mM 0 2) ≤ x4 then (k2 x3) else (chkI ((8 : Int32) + x4) 19 (chkI ((8 : Int32) + i1) 19 (jn1 (fun (x9 : Int32) => nm (x3 + x9) fun (x11 : Int32) => nm (x4 + 1) fun (x12 : Int32) => rec5 x11 x12) (fun k10 => if (mM 8 ((8 : Int32) + i1).toNatClampNeg) ≤ (mM 8 ((8 : Int32) + x4).toNatClampNeg) then (k10 (0 : Int32)) else (k10 (1 : Int32))))))
noncomputable def MX5_rankOf (mM : GS) (i1 : Int32) : Option (Int32) := jn1 (fun (x1 : Int32) => some (x1)) (fun k2 => lq2 (BX5_rankOf_4 mM k2 i1) FU (0 : Int32) (0 : Int32))
abbrev rmX5_rankOf : Room := { frames := 1, cells := 0, slots := 0, locals := 40 }
set_option maxHeartbeats 4000000 in
set_option maxRecDepth 100000 in
theorem ctX5_rankOf (l : Launch) (D : va_G) (Y : Nat → ClassId) (oM : Nat → Nat) (sz : Nat) (mM : GS) (tk : Int64) (i1 : Int32) (rr : Int32) (hM : MX5_rankOf mM i1 = some (rr)) : Met l yX5_rankOf wsX5_rankOf rmX5_rankOf (pcW [.ref (oM 0), .int i1] sz D Y (cMod Y oM mM tk)) (qiW rr D (cMod Y oM mM tk) (va_A (cMod Y oM mM tk) sz)) 0 0 (va_A (cMod Y oM mM tk) sz) := by
  refine Met.ofW (cc := cX5_rankOf) (maxL := 4) (ret := (some .int)) (by decide) rfl ?_
  intro p e s m args below meth c s₁ B hml hv
  obtain ⟨rfl, hsz, hP, hK, hD0⟩ := hv
  have hx := B.exec
  have hb := B.bytes
  have hr := B.returns
  have hts := atoms_spec (ws := wsX5_rankOf) B.pre
  have hown : s.vm.findClass RX5 = some m.cls := findClass_of_methodNamed B.named
  have hlocks := B.notSynchronized
  subst hsz
  have hD := hD0.self (sz := s.heap.size)
  generalize hAe : va_A (cMod Y oM mM tk) s.heap.size = A at hD ⊢
  have hA : ∀ q : Nat, s.heap.size ≤ q → A q := fun q h => by rw [← hAe]; exact Or.inr h
  have hS : va_S A s.heap s.heap [] := va_S.rf
  have hi5 : ∀ w ∈ wsX50, w ∈ wsX5_rankOf := fun w h => List.mem_cons_of_mem _ (List.mem_append_right _ h)
  have hl := lv_entry ([.ref (oM 0), .int i1]) (n := 4) (Nat.le_of_ble_eq_true rfl)
  rw [lg_entry_eq]
  generalize (lg_sl ([.ref (oM 0), .int i1]) ++ List.replicate (4 - (lg_sl ([.ref (oM 0), .int i1])).length) Slot.unset).toArray = ls at hl ⊢
  have hl : lv_has ls 4 [(0, .ref (oM 0)), (1, .int i1)] := hl
  obtain ⟨QQ, hQQ⟩ : ∃ Q : State → Prop, Q = MQ below (qiW rr D (cMod Y oM mM tk) A) ([.ref (oM 0), .int i1] : List Value).toArray s 0 0 A := ⟨_, rfl⟩
  rw [← hQQ]
  unfold MX5_rankOf at hM
  suffices hI : ∀ (H : Heap) (locs : List Loc), va_P D vwCl (cMod Y oM mM tk) H → va_S A s.heap H locs → W p l e (headSpec wsX5_rankOf rmX5_rankOf).room s m ([.ref (oM 0), .int i1] : List Value).toArray below meth c H locs 0 0 QQ (F0 m 0 ls []) from hI _ _ hP hS
  clear hP hS
  intro H locs hP hS
  refine lv_iconst (v := (0 : Int32)) hx hb dX5_rankOf_0 (by decide) ?_
  refine lv_istore_n (lv' := [(2, .int (0 : Int32)), (0, .ref (oM 0)), (1, .int i1)]) hx hb dX5_rankOf_1 rfl hl (by decide) rfl (fun ls hl => ?_)
  refine lv_iconst (v := (0 : Int32)) hx hb dX5_rankOf_2 (by decide) ?_
  refine lv_istore_n (lv' := [(3, .int (0 : Int32)), (2, .int (0 : Int32)), (0, .ref (oM 0)), (1, .int i1)]) hx hb dX5_rankOf_3 rfl hl (by decide) rfl (fun ls hl => ?_)
  refine jn1_at (fun (x1 : Int32) => ∀ (H : Heap) (locs : List Loc) (ls : Array Slot), va_P D vwCl (cMod Y oM mM tk) H → va_S A s.heap H locs → lv_has ls 4 [(2, .int x1)] → W p l e (headSpec wsX5_rankOf rmX5_rankOf).room s m ([.ref (oM 0), .int i1] : List Value).toArray below meth c H locs 0 0 QQ (F0 m 47 ls [])) hM (fun x1 hM H locs ls hP hS hl => ?_) (fun k2 hJ2 hM => ?_)
  · refine lv_iload_n hx hb dX5_rankOf_47 rfl (lv_at hl 0 rfl) ?_
    cases hM
    rw [hQQ]
    exact W.iret hx hb hr (fun t ht hW => ⟨⟨_, (), rfl, rfl, by show va_P D vwCl _ t.heap; rw [ht]; exact hP⟩, hS.F ht⟩) hS.2.2 dX5_rankOf_48
  · refine lq2_at (fun (x3 : Int32) (x4 : Int32) => ∀ (H : Heap) (locs : List Loc) (ls : Array Slot), va_P D vwCl (cMod Y oM mM tk) H → va_S A s.heap H locs → lv_has ls 4 [(0, .ref (oM 0)), (1, .int i1), (2, .int x3), (3, .int x4)] → W p l e (headSpec wsX5_rankOf rmX5_rankOf).room s m ([.ref (oM 0), .int i1] : List Value).toArray below meth c H locs 0 0 QQ (F0 m 4 ls [])) (fun rec5 x3 x4 ih5 hM H locs ls hP hS hl => ?_) FU (0 : Int32) (0 : Int32) hM H locs ls hP hS (lv_sub hl [2, 3, 1, 0] rfl)
    unfold BX5_rankOf_4 at hM
    refine lv_iload_n hx hb dX5_rankOf_4 rfl (lv_at hl 3 rfl) ?_
    refine lv_aload_n hx hb dX5_rankOf_5 rfl (lv_at hl 0 rfl) ?_
    refine va_get hx hb hts hi5 hown hK hP 0 rfl rfl 2 (by decide) (hts (.fieldLink RX5 78 "NightPlotsModel" "houses" "I") (List.mem_of_getElem? (i := 1) rfl)) (fun _ h9 => h9) rfl dX5_rankOf_6 ?_
    refine lv_icmp_ge (tgt := 47) hx hb dX5_rankOf_9 (by decide) (fun c6 => ?_) (fun c6 => ?_)
    · replace hM := if_at_pos hM c6
      exact hJ2 x3 hM H locs ls hP hS (lv_sub hl [2] rfl)
    · replace hM := if_at_neg hM c6
      refine lv_iload_n hx hb dX5_rankOf_12 rfl (lv_at hl 2 rfl) ?_
      refine lv_aload_n hx hb dX5_rankOf_13 rfl (lv_at hl 0 rfl) ?_
      refine va_get hx hb hts hi5 hown hK hP 0 rfl rfl 26 (by decide) (hts (.fieldLink RX5 38 "NightPlotsModel" "now" "[I") (List.mem_of_getElem? (i := 2) rfl)) (fun _ h9 => h9) rfl dX5_rankOf_14 ?_
      refine lv_bipush (v := (8 : Int32)) hx hb dX5_rankOf_17 (by decide) ?_
      refine lv_iload_n hx hb dX5_rankOf_19 rfl (lv_at hl 3 rfl) ?_
      refine lv_iadd hx hb dX5_rankOf_20 ?_
      obtain ⟨hi_7, hM⟩ := chkI_at hM
      refine va_iald hx hb hK hP 8 0 rfl rfl hi_7 dX5_rankOf_21 ?_
      refine lv_aload_n hx hb dX5_rankOf_22 rfl (lv_at hl 0 rfl) ?_
      refine va_get hx hb hts hi5 hown hK hP 0 rfl rfl 26 (by decide) (hts (.fieldLink RX5 38 "NightPlotsModel" "now" "[I") (List.mem_of_getElem? (i := 2) rfl)) (fun _ h9 => h9) rfl dX5_rankOf_23 ?_
      refine lv_bipush (v := (8 : Int32)) hx hb dX5_rankOf_26 (by decide) ?_
      refine lv_iload_n hx hb dX5_rankOf_28 rfl (lv_at hl 1 rfl) ?_
      refine lv_iadd hx hb dX5_rankOf_29 ?_
      obtain ⟨hi_8, hM⟩ := chkI_at hM
      refine va_iald hx hb hK hP 8 0 rfl rfl hi_8 dX5_rankOf_30 ?_
      refine jn1_at (fun (x9 : Int32) => ∀ (H : Heap) (locs : List Loc) (ls : Array Slot), va_P D vwCl (cMod Y oM mM tk) H → va_S A s.heap H locs → lv_has ls 4 [(0, .ref (oM 0)), (1, .int i1), (3, .int x4)] → W p l e (headSpec wsX5_rankOf rmX5_rankOf).room s m ([.ref (oM 0), .int i1] : List Value).toArray below meth c H locs 0 0 QQ (F0 m 39 ls [.int x9, .int x3])) hM (fun x9 hM H locs ls hP hS hl => ?_) (fun k10 hJ10 hM => ?_)
      · refine lv_iadd hx hb dX5_rankOf_39 ?_
        refine lv_topi (fun x11 ex11 => ?_)
        replace hM := nm_at hM ex11
        refine lv_istore_n (lv' := [(2, .int x11), (0, .ref (oM 0)), (1, .int i1), (3, .int x4)]) hx hb dX5_rankOf_40 rfl hl (by decide) rfl (fun ls hl => ?_)
        obtain ⟨x12, ex12⟩ : ∃ z : Int32, z = (x4 + 1) := ⟨_, rfl⟩
        replace hM := nm_at hM ex12
        refine lv_iinc (v := x12) (lv' := [(3, .int x12), (2, .int x11), (0, .ref (oM 0)), (1, .int i1)]) hx hb dX5_rankOf_41 hl (k := 3) rfl (by rw [ex12]; rfl) (by decide) rfl (fun ls hl => ?_)
        refine lv_goto (tgt := 4) hx hb dX5_rankOf_44 (by decide) ?_
        exact ih5 x11 x12 hM H locs ls hP hS (lv_sub hl [2, 3, 1, 0] rfl)
      · refine lv_icmp_ge (tgt := 38) hx hb dX5_rankOf_31 (by decide) (fun c13 => ?_) (fun c13 => ?_)
        · replace hM := if_at_pos hM c13
          refine lv_iconst (v := (0 : Int32)) hx hb dX5_rankOf_38 (by decide) ?_
          exact hJ10 (0 : Int32) hM H locs ls hP hS (lv_sub hl [0, 1, 3] rfl)
        · replace hM := if_at_neg hM c13
          refine lv_iconst (v := (1 : Int32)) hx hb dX5_rankOf_34 (by decide) ?_
          refine lv_goto (tgt := 39) hx hb dX5_rankOf_35 (by decide) ?_
          exact hJ10 (1 : Int32) hM H locs ls hP hS (lv_sub hl [0, 1, 3] rfl)
noncomputable def BX5_layState_2 (k2 : GS → Option (GS)) (i1 : Int32) (rec17 : Int32 → GS → Option (GS)) (x15 : Int32) (mM_16 : GS) : Option (GS) := if (8 : Int32) ≤ x15 then (k2 mM_16) else (jn1 (fun (x19 : Int32) => chkI (((18 : Int32) * i1) + x15) 9018 (nm (upA mM_16 14 (upd (mM_16 14) (((18 : Int32) * i1) + x15).toNatClampNeg x19)) fun (mM_22 : GS) => jn1 (fun (x23 : Int32) => chkI ((((18 : Int32) * i1) + (9 : Int32)) + x15) 9018 (nm (upA mM_22 14 (upd (mM_22 14) ((((18 : Int32) * i1) + (9 : Int32)) + x15).toNatClampNeg x23)) fun (mM_26 : GS) => nm (x15 + 1) fun (x27 : Int32) => rec17 x27 mM_26)) (fun k24 => jn0 (k24 (0 : Int32)) (fun k28 => if (mM_22 0 2) ≤ x15 then (k28) else (if (mM_22 0 9) = (2 : Int32) then (bnd1 (MX5_rankOf mM_22 x15) fun (r31 : Int32) => k24 r31) else (k28)))))) (fun k20 => if (mM_16 0 2) ≤ x15 then (k20 (0 : Int32)) else (chkI x15 19 (k20 (mM_16 8 x15.toNatClampNeg)))))
noncomputable def MX5_layState (mM : GS) (i1 : Int32) : Option (GS) := jn1 (fun (mM_1 : GS) => jn1 (fun (x3 : Int32) => chkI (((18 : Int32) * i1) + (8 : Int32)) 9018 (nm (upA mM_1 14 (upd (mM_1 14) (((18 : Int32) * i1) + (8 : Int32)).toNatClampNeg x3)) fun (mM_6 : GS) => jn1 (fun (x7 : Int32) => chkI (((18 : Int32) * i1) + (17 : Int32)) 9018 (nm (upA mM_6 14 (upd (mM_6 14) (((18 : Int32) * i1) + (17 : Int32)).toNatClampNeg x7)) fun (mM_10 : GS) => some (mM_10))) (fun k8 => if (mM_6 0 9) = (3 : Int32) then (chkI (18 : Int32) 19 (k8 (mM_6 8 (18 : Int32).toNatClampNeg))) else (k8 (0 : Int32))))) (fun k4 => if (mM_1 0 9) = (1 : Int32) then (chkI (17 : Int32) 19 (k4 (mM_1 8 (17 : Int32).toNatClampNeg))) else (k4 (0 : Int32)))) (fun k2 => lq2 (BX5_layState_2 k2 i1) FU (0 : Int32) mM)
abbrev rmX5_layState : Room := { frames := 2, cells := 0, slots := 0, locals := 80 }
set_option maxHeartbeats 4000000 in
set_option maxRecDepth 100000 in
theorem ctX5_layState (l : Launch) (D : va_G) (Y : Nat → ClassId) (oM : Nat → Nat) (sz : Nat) (mM : GS) (tk : Int64) (i1 : Int32) (mMz : GS) (hM : MX5_layState mM i1 = some (mMz)) : Met l yX5_layState wsX5_layState rmX5_layState (pcW [.ref (oM 0), .int i1] sz D Y (cMod Y oM mM tk)) (qvW D (cMod Y oM mMz tk) (va_A (cMod Y oM mM tk) sz)) 0 0 (va_A (cMod Y oM mM tk) sz) := by
  refine Met.ofW (cc := cX5_layState) (maxL := 3) (ret := (none)) (by decide) rfl ?_
  intro p e s m args below meth c s₁ B hml hv
  obtain ⟨rfl, hsz, hP, hK, hD0⟩ := hv
  have hx := B.exec
  have hb := B.bytes
  have hr := B.returns
  have hts := atoms_spec (ws := wsX5_layState) B.pre
  have hown : s.vm.findClass RX5 = some m.cls := findClass_of_methodNamed B.named
  have hlocks := B.notSynchronized
  subst hsz
  have hD := hD0.self (sz := s.heap.size)
  generalize hAe : va_A (cMod Y oM mM tk) s.heap.size = A at hD ⊢
  have hA : ∀ q : Nat, s.heap.size ≤ q → A q := fun q h => by rw [← hAe]; exact Or.inr h
  have hS : va_S A s.heap s.heap [] := va_S.rf
  have hi5 : ∀ w ∈ wsX50, w ∈ wsX5_layState := fun w h => List.mem_cons_of_mem _ (List.mem_append_right _ h)
  have hl := lv_entry ([.ref (oM 0), .int i1]) (n := 3) (Nat.le_of_ble_eq_true rfl)
  rw [lg_entry_eq]
  generalize (lg_sl ([.ref (oM 0), .int i1]) ++ List.replicate (3 - (lg_sl ([.ref (oM 0), .int i1])).length) Slot.unset).toArray = ls at hl ⊢
  have hl : lv_has ls 3 [(0, .ref (oM 0)), (1, .int i1)] := hl
  obtain ⟨QQ, hQQ⟩ : ∃ Q : State → Prop, Q = MQ below (qvW D (cMod Y oM mMz tk) A) ([.ref (oM 0), .int i1] : List Value).toArray s 0 0 A := ⟨_, rfl⟩
  rw [← hQQ]
  unfold MX5_layState at hM
  suffices hI : ∀ (H : Heap) (locs : List Loc), va_P D vwCl (cMod Y oM mM tk) H → va_S A s.heap H locs → W p l e (headSpec wsX5_layState rmX5_layState).room s m ([.ref (oM 0), .int i1] : List Value).toArray below meth c H locs 0 0 QQ (F0 m 0 ls []) from hI _ _ hP hS
  clear hP hS
  intro H locs hP hS
  refine lv_iconst (v := (0 : Int32)) hx hb dX5_layState_0 (by decide) ?_
  refine lv_istore_n (lv' := [(2, .int (0 : Int32)), (0, .ref (oM 0)), (1, .int i1)]) hx hb dX5_layState_1 rfl hl (by decide) rfl (fun ls hl => ?_)
  refine jn1_at (fun (mM_1 : GS) => ∀ (H : Heap) (locs : List Loc) (ls : Array Slot), va_P D vwCl (cMod Y oM mM_1 tk) H → va_S A s.heap H locs → lv_has ls 3 [(0, .ref (oM 0)), (1, .int i1)] → W p l e (headSpec wsX5_layState rmX5_layState).room s m ([.ref (oM 0), .int i1] : List Value).toArray below meth c H locs 0 0 QQ (F0 m 82 ls [])) hM (fun mM_1 hM H locs ls hP hS hl => ?_) (fun k2 hJ2 hM => ?_)
  · refine lv_aload_n hx hb dX5_layState_82 rfl (lv_at hl 0 rfl) ?_
    refine va_get hx hb hts hi5 hown hK hP 0 rfl rfl 35 (by decide) (hts (.fieldLink RX5 57 "NightPlotsModel" "states" "[I") (List.mem_of_getElem? (i := 1) rfl)) (fun _ h9 => h9) rfl dX5_layState_83 ?_
    refine lv_bipush (v := (18 : Int32)) hx hb dX5_layState_86 (by decide) ?_
    refine lv_iload_n hx hb dX5_layState_88 rfl (lv_at hl 1 rfl) ?_
    refine lv_imul hx hb dX5_layState_89 ?_
    refine lv_bipush (v := (8 : Int32)) hx hb dX5_layState_90 (by decide) ?_
    refine lv_iadd hx hb dX5_layState_92 ?_
    refine lv_aload_n hx hb dX5_layState_93 rfl (lv_at hl 0 rfl) ?_
    refine va_get hx hb hts hi5 hown hK hP 0 rfl rfl 9 (by decide) (hts (.fieldLink RX5 91 "NightPlotsModel" "law" "I") (List.mem_of_getElem? (i := 4) rfl)) (fun _ h9 => h9) rfl dX5_layState_94 ?_
    refine lv_iconst (v := (1 : Int32)) hx hb dX5_layState_97 (by decide) ?_
    refine jn1_at (fun (x3 : Int32) => ∀ (H : Heap) (locs : List Loc) (ls : Array Slot), va_P D vwCl (cMod Y oM mM_1 tk) H → va_S A s.heap H locs → lv_has ls 3 [(0, .ref (oM 0)), (1, .int i1)] → W p l e (headSpec wsX5_layState rmX5_layState).room s m ([.ref (oM 0), .int i1] : List Value).toArray below meth c H locs 0 0 QQ (F0 m 112 ls [.int x3, .int (((18 : Int32) * i1) + (8 : Int32)), .ref (oM 14)])) hM (fun x3 hM H locs ls hP hS hl => ?_) (fun k4 hJ4 hM => ?_)
    · obtain ⟨hi_5, hM⟩ := chkI_at hM
      refine va_iast hx hb hK hP (hD.same rfl) hS 14 0 rfl rfl hi_5 dX5_layState_112 (fun H locs hP _ hS => ?_)
      obtain ⟨mM_6, emM_6⟩ : ∃ z : GS, z = (upA mM_1 14 (upd (mM_1 14) (((18 : Int32) * i1) + (8 : Int32)).toNatClampNeg x3)) := ⟨_, rfl⟩
      have hP : va_P D vwCl (cMod Y oM mM_6 tk) H := by rw [emM_6]; exact hP
      replace hM := nm_at hM emM_6
      refine lv_aload_n hx hb dX5_layState_113 rfl (lv_at hl 0 rfl) ?_
      refine va_get hx hb hts hi5 hown hK hP 0 rfl rfl 35 (by decide) (hts (.fieldLink RX5 57 "NightPlotsModel" "states" "[I") (List.mem_of_getElem? (i := 1) rfl)) (fun _ h9 => h9) rfl dX5_layState_114 ?_
      refine lv_bipush (v := (18 : Int32)) hx hb dX5_layState_117 (by decide) ?_
      refine lv_iload_n hx hb dX5_layState_119 rfl (lv_at hl 1 rfl) ?_
      refine lv_imul hx hb dX5_layState_120 ?_
      refine lv_bipush (v := (17 : Int32)) hx hb dX5_layState_121 (by decide) ?_
      refine lv_iadd hx hb dX5_layState_123 ?_
      refine lv_aload_n hx hb dX5_layState_124 rfl (lv_at hl 0 rfl) ?_
      refine va_get hx hb hts hi5 hown hK hP 0 rfl rfl 9 (by decide) (hts (.fieldLink RX5 91 "NightPlotsModel" "law" "I") (List.mem_of_getElem? (i := 4) rfl)) (fun _ h9 => h9) rfl dX5_layState_125 ?_
      refine lv_iconst (v := (3 : Int32)) hx hb dX5_layState_128 (by decide) ?_
      refine jn1_at (fun (x7 : Int32) => ∀ (H : Heap) (locs : List Loc) (ls : Array Slot), va_P D vwCl (cMod Y oM mM_6 tk) H → va_S A s.heap H locs → lv_has ls 3 [] → W p l e (headSpec wsX5_layState rmX5_layState).room s m ([.ref (oM 0), .int i1] : List Value).toArray below meth c H locs 0 0 QQ (F0 m 143 ls [.int x7, .int (((18 : Int32) * i1) + (17 : Int32)), .ref (oM 14)])) hM (fun x7 hM H locs ls hP hS hl => ?_) (fun k8 hJ8 hM => ?_)
      · obtain ⟨hi_9, hM⟩ := chkI_at hM
        refine va_iast hx hb hK hP (hD.same rfl) hS 14 0 rfl rfl hi_9 dX5_layState_143 (fun H locs hP _ hS => ?_)
        obtain ⟨mM_10, emM_10⟩ : ∃ z : GS, z = (upA mM_6 14 (upd (mM_6 14) (((18 : Int32) * i1) + (17 : Int32)).toNatClampNeg x7)) := ⟨_, rfl⟩
        have hP : va_P D vwCl (cMod Y oM mM_10 tk) H := by rw [emM_10]; exact hP
        replace hM := nm_at hM emM_10
        cases hM
        rw [hQQ]
        exact W.vret hx hb hr (fun t ht hW => ⟨⟨(), rfl, trivial, by show va_P D vwCl _ t.heap; rw [ht]; exact hP⟩, hS.F ht⟩) hS.2.2 dX5_layState_144
      · refine lv_icmp_ne (tgt := 142) hx hb dX5_layState_129 (by decide) (fun c11 => ?_) (fun c11 => ?_)
        · replace hM := if_at_neg hM c11
          refine lv_iconst (v := (0 : Int32)) hx hb dX5_layState_142 (by decide) ?_
          exact hJ8 (0 : Int32) hM H locs ls hP hS (lv_sub hl [] rfl)
        · replace hM := if_at_pos hM c11
          refine lv_aload_n hx hb dX5_layState_132 rfl (lv_at hl 0 rfl) ?_
          refine va_get hx hb hts hi5 hown hK hP 0 rfl rfl 26 (by decide) (hts (.fieldLink RX5 38 "NightPlotsModel" "now" "[I") (List.mem_of_getElem? (i := 3) rfl)) (fun _ h9 => h9) rfl dX5_layState_133 ?_
          refine lv_bipush (v := (18 : Int32)) hx hb dX5_layState_136 (by decide) ?_
          obtain ⟨hi_12, hM⟩ := chkI_at hM
          refine va_iald hx hb hK hP 8 0 rfl rfl hi_12 dX5_layState_138 ?_
          refine lv_goto (tgt := 143) hx hb dX5_layState_139 (by decide) ?_
          exact hJ8 (mM_6 8 (18 : Int32).toNatClampNeg) hM H locs ls hP hS (lv_sub hl [] rfl)
    · refine lv_icmp_ne (tgt := 111) hx hb dX5_layState_98 (by decide) (fun c13 => ?_) (fun c13 => ?_)
      · replace hM := if_at_neg hM c13
        refine lv_iconst (v := (0 : Int32)) hx hb dX5_layState_111 (by decide) ?_
        exact hJ4 (0 : Int32) hM H locs ls hP hS (lv_sub hl [0, 1] rfl)
      · replace hM := if_at_pos hM c13
        refine lv_aload_n hx hb dX5_layState_101 rfl (lv_at hl 0 rfl) ?_
        refine va_get hx hb hts hi5 hown hK hP 0 rfl rfl 26 (by decide) (hts (.fieldLink RX5 38 "NightPlotsModel" "now" "[I") (List.mem_of_getElem? (i := 3) rfl)) (fun _ h9 => h9) rfl dX5_layState_102 ?_
        refine lv_bipush (v := (17 : Int32)) hx hb dX5_layState_105 (by decide) ?_
        obtain ⟨hi_14, hM⟩ := chkI_at hM
        refine va_iald hx hb hK hP 8 0 rfl rfl hi_14 dX5_layState_107 ?_
        refine lv_goto (tgt := 112) hx hb dX5_layState_108 (by decide) ?_
        exact hJ4 (mM_1 8 (17 : Int32).toNatClampNeg) hM H locs ls hP hS (lv_sub hl [0, 1] rfl)
  · refine lq2_at (fun (x15 : Int32) (mM_16 : GS) => ∀ (H : Heap) (locs : List Loc) (ls : Array Slot), va_P D vwCl (cMod Y oM mM_16 tk) H → va_S A s.heap H locs → lv_has ls 3 [(0, .ref (oM 0)), (1, .int i1), (2, .int x15)] → W p l e (headSpec wsX5_layState rmX5_layState).room s m ([.ref (oM 0), .int i1] : List Value).toArray below meth c H locs 0 0 QQ (F0 m 2 ls [])) (fun rec17 x15 mM_16 ih17 hM H locs ls hP hS hl => ?_) FU (0 : Int32) mM hM H locs ls hP hS (lv_sub hl [1, 2, 0] rfl)
    unfold BX5_layState_2 at hM
    refine lv_iload_n hx hb dX5_layState_2 rfl (lv_at hl 2 rfl) ?_
    refine lv_bipush (v := (8 : Int32)) hx hb dX5_layState_3 (by decide) ?_
    refine lv_icmp_ge (tgt := 82) hx hb dX5_layState_5 (by decide) (fun c18 => ?_) (fun c18 => ?_)
    · replace hM := if_at_pos hM c18
      exact hJ2 mM_16 hM H locs ls hP hS (lv_sub hl [0, 1] rfl)
    · replace hM := if_at_neg hM c18
      refine lv_aload_n hx hb dX5_layState_8 rfl (lv_at hl 0 rfl) ?_
      refine va_get hx hb hts hi5 hown hK hP 0 rfl rfl 35 (by decide) (hts (.fieldLink RX5 57 "NightPlotsModel" "states" "[I") (List.mem_of_getElem? (i := 1) rfl)) (fun _ h9 => h9) rfl dX5_layState_9 ?_
      refine lv_bipush (v := (18 : Int32)) hx hb dX5_layState_12 (by decide) ?_
      refine lv_iload_n hx hb dX5_layState_14 rfl (lv_at hl 1 rfl) ?_
      refine lv_imul hx hb dX5_layState_15 ?_
      refine lv_iload_n hx hb dX5_layState_16 rfl (lv_at hl 2 rfl) ?_
      refine lv_iadd hx hb dX5_layState_17 ?_
      refine lv_iload_n hx hb dX5_layState_18 rfl (lv_at hl 2 rfl) ?_
      refine lv_aload_n hx hb dX5_layState_19 rfl (lv_at hl 0 rfl) ?_
      refine va_get hx hb hts hi5 hown hK hP 0 rfl rfl 2 (by decide) (hts (.fieldLink RX5 78 "NightPlotsModel" "houses" "I") (List.mem_of_getElem? (i := 2) rfl)) (fun _ h9 => h9) rfl dX5_layState_20 ?_
      refine jn1_at (fun (x19 : Int32) => ∀ (H : Heap) (locs : List Loc) (ls : Array Slot), va_P D vwCl (cMod Y oM mM_16 tk) H → va_S A s.heap H locs → lv_has ls 3 [(0, .ref (oM 0)), (1, .int i1), (2, .int x15)] → W p l e (headSpec wsX5_layState rmX5_layState).room s m ([.ref (oM 0), .int i1] : List Value).toArray below meth c H locs 0 0 QQ (F0 m 36 ls [.int x19, .int (((18 : Int32) * i1) + x15), .ref (oM 14)])) hM (fun x19 hM H locs ls hP hS hl => ?_) (fun k20 hJ20 hM => ?_)
      · obtain ⟨hi_21, hM⟩ := chkI_at hM
        refine va_iast hx hb hK hP (hD.same rfl) hS 14 0 rfl rfl hi_21 dX5_layState_36 (fun H locs hP _ hS => ?_)
        obtain ⟨mM_22, emM_22⟩ : ∃ z : GS, z = (upA mM_16 14 (upd (mM_16 14) (((18 : Int32) * i1) + x15).toNatClampNeg x19)) := ⟨_, rfl⟩
        have hP : va_P D vwCl (cMod Y oM mM_22 tk) H := by rw [emM_22]; exact hP
        replace hM := nm_at hM emM_22
        refine lv_aload_n hx hb dX5_layState_37 rfl (lv_at hl 0 rfl) ?_
        refine va_get hx hb hts hi5 hown hK hP 0 rfl rfl 35 (by decide) (hts (.fieldLink RX5 57 "NightPlotsModel" "states" "[I") (List.mem_of_getElem? (i := 1) rfl)) (fun _ h9 => h9) rfl dX5_layState_38 ?_
        refine lv_bipush (v := (18 : Int32)) hx hb dX5_layState_41 (by decide) ?_
        refine lv_iload_n hx hb dX5_layState_43 rfl (lv_at hl 1 rfl) ?_
        refine lv_imul hx hb dX5_layState_44 ?_
        refine lv_bipush (v := (9 : Int32)) hx hb dX5_layState_45 (by decide) ?_
        refine lv_iadd hx hb dX5_layState_47 ?_
        refine lv_iload_n hx hb dX5_layState_48 rfl (lv_at hl 2 rfl) ?_
        refine lv_iadd hx hb dX5_layState_49 ?_
        refine lv_iload_n hx hb dX5_layState_50 rfl (lv_at hl 2 rfl) ?_
        refine lv_aload_n hx hb dX5_layState_51 rfl (lv_at hl 0 rfl) ?_
        refine va_get hx hb hts hi5 hown hK hP 0 rfl rfl 2 (by decide) (hts (.fieldLink RX5 78 "NightPlotsModel" "houses" "I") (List.mem_of_getElem? (i := 2) rfl)) (fun _ h9 => h9) rfl dX5_layState_52 ?_
        refine jn1_at (fun (x23 : Int32) => ∀ (H : Heap) (locs : List Loc) (ls : Array Slot), va_P D vwCl (cMod Y oM mM_22 tk) H → va_S A s.heap H locs → lv_has ls 3 [(0, .ref (oM 0)), (1, .int i1), (2, .int x15)] → W p l e (headSpec wsX5_layState rmX5_layState).room s m ([.ref (oM 0), .int i1] : List Value).toArray below meth c H locs 0 0 QQ (F0 m 75 ls [.int x23, .int ((((18 : Int32) * i1) + (9 : Int32)) + x15), .ref (oM 14)])) hM (fun x23 hM H locs ls hP hS hl => ?_) (fun k24 hJ24 hM => ?_)
        · obtain ⟨hi_25, hM⟩ := chkI_at hM
          refine va_iast hx hb hK hP (hD.same rfl) hS 14 0 rfl rfl hi_25 dX5_layState_75 (fun H locs hP _ hS => ?_)
          obtain ⟨mM_26, emM_26⟩ : ∃ z : GS, z = (upA mM_22 14 (upd (mM_22 14) ((((18 : Int32) * i1) + (9 : Int32)) + x15).toNatClampNeg x23)) := ⟨_, rfl⟩
          have hP : va_P D vwCl (cMod Y oM mM_26 tk) H := by rw [emM_26]; exact hP
          replace hM := nm_at hM emM_26
          obtain ⟨x27, ex27⟩ : ∃ z : Int32, z = (x15 + 1) := ⟨_, rfl⟩
          replace hM := nm_at hM ex27
          refine lv_iinc (v := x27) (lv' := [(2, .int x27), (0, .ref (oM 0)), (1, .int i1)]) hx hb dX5_layState_76 hl (k := 2) rfl (by rw [ex27]; rfl) (by decide) rfl (fun ls hl => ?_)
          refine lv_goto (tgt := 2) hx hb dX5_layState_79 (by decide) ?_
          exact ih17 x27 mM_26 hM H locs ls hP hS (lv_sub hl [1, 2, 0] rfl)
        · refine jn0_at (∀ (H : Heap) (locs : List Loc) (ls : Array Slot), va_P D vwCl (cMod Y oM mM_22 tk) H → va_S A s.heap H locs → lv_has ls 3 [(0, .ref (oM 0)), (1, .int i1), (2, .int x15)] → W p l e (headSpec wsX5_layState rmX5_layState).room s m ([.ref (oM 0), .int i1] : List Value).toArray below meth c H locs 0 0 QQ (F0 m 74 ls [.int ((((18 : Int32) * i1) + (9 : Int32)) + x15), .ref (oM 14)])) hM (fun  hM H locs ls hP hS hl => ?_) (fun k28 hJ28 hM => ?_)
          · refine lv_iconst (v := (0 : Int32)) hx hb dX5_layState_74 (by decide) ?_
            exact hJ24 (0 : Int32) hM H locs ls hP hS (lv_sub hl [0, 1, 2] rfl)
          · refine lv_icmp_ge (tgt := 74) hx hb dX5_layState_55 (by decide) (fun c29 => ?_) (fun c29 => ?_)
            · replace hM := if_at_pos hM c29
              exact hJ28 hM H locs ls hP hS (lv_sub hl [0, 1, 2] rfl)
            · replace hM := if_at_neg hM c29
              refine lv_aload_n hx hb dX5_layState_58 rfl (lv_at hl 0 rfl) ?_
              refine va_get hx hb hts hi5 hown hK hP 0 rfl rfl 9 (by decide) (hts (.fieldLink RX5 91 "NightPlotsModel" "law" "I") (List.mem_of_getElem? (i := 4) rfl)) (fun _ h9 => h9) rfl dX5_layState_59 ?_
              refine lv_iconst (v := (2 : Int32)) hx hb dX5_layState_62 (by decide) ?_
              refine lv_icmp_ne (tgt := 74) hx hb dX5_layState_63 (by decide) (fun c30 => ?_) (fun c30 => ?_)
              · replace hM := if_at_neg hM c30
                exact hJ28 hM H locs ls hP hS (lv_sub hl [0, 1, 2] rfl)
              · replace hM := if_at_pos hM c30
                refine lv_aload_n hx hb dX5_layState_66 rfl (lv_at hl 0 rfl) ?_
                refine lv_iload_n hx hb dX5_layState_67 rfl (lv_at hl 2 rfl) ?_
                obtain ⟨r31, hc32, hM⟩ := bnd1_at hM
                refine co_i (va_runV (As := [.int x15]) (rest := [.int ((((18 : Int32) * i1) + (9 : Int32)) + x15), .ref (oM 14)]) ⟨hx, hb, hml, hown, hts⟩ (ctX5_rankOf l D Y oM H.size mM_22 tk x15 r31 hc32) (cwV 1 hts gX5_layState_X5_rankOf rfl rfl rfl (by decide +kernel) ⟨Nat.le_of_ble_eq_true rfl, Nat.le_of_ble_eq_true rfl⟩) (pcW_V0 (ci := 5) (q0 := 0) hK hP (hD.same rfl) rfl rfl) rfl rfl hl.1 rfl (lv_room (Nat.le_of_ble_eq_true rfl)) dX5_layState_68 ⟨Nat.zero_le _, Nat.zero_le _⟩) (hD.same rfl) hS hA (fun H locs hP hS => ?_)
                refine lv_goto (tgt := 75) hx hb dX5_layState_71 (by decide) ?_
                exact hJ24 r31 hM H locs ls hP hS (lv_sub hl [0, 1, 2] rfl)
      · refine lv_icmp_ge (tgt := 35) hx hb dX5_layState_23 (by decide) (fun c33 => ?_) (fun c33 => ?_)
        · replace hM := if_at_pos hM c33
          refine lv_iconst (v := (0 : Int32)) hx hb dX5_layState_35 (by decide) ?_
          exact hJ20 (0 : Int32) hM H locs ls hP hS (lv_sub hl [0, 1, 2] rfl)
        · replace hM := if_at_neg hM c33
          refine lv_aload_n hx hb dX5_layState_26 rfl (lv_at hl 0 rfl) ?_
          refine va_get hx hb hts hi5 hown hK hP 0 rfl rfl 26 (by decide) (hts (.fieldLink RX5 38 "NightPlotsModel" "now" "[I") (List.mem_of_getElem? (i := 3) rfl)) (fun _ h9 => h9) rfl dX5_layState_27 ?_
          refine lv_iload_n hx hb dX5_layState_30 rfl (lv_at hl 2 rfl) ?_
          obtain ⟨hi_34, hM⟩ := chkI_at hM
          refine va_iald hx hb hK hP 8 0 rfl rfl hi_34 dX5_layState_31 ?_
          refine lv_goto (tgt := 36) hx hb dX5_layState_32 (by decide) ?_
          exact hJ20 (mM_16 8 x15.toNatClampNeg) hM H locs ls hP hS (lv_sub hl [0, 1, 2] rfl)
noncomputable def BX5_isLike_5 (k2 : Int32 → Option (Int32)) (i1 : Int32) (i2 : Int32) (mM : GS) (rec6 : Int32 → Int32 → Option (Int32)) (x4 : Int32) (x5 : Int32) : Option (Int32) := if (18 : Int32) ≤ x5 then (k2 x4) else (if x4 = 0 then (k2 x4) else (chkI (((18 : Int32) * i1) + x5) 9018 (chkI (((18 : Int32) * i2) + x5) 9018 (jn1 (fun (x11 : Int32) => nm (x5 + 1) fun (x13 : Int32) => rec6 x11 x13) (fun k12 => if (mM 14 (((18 : Int32) * i1) + x5).toNatClampNeg) = (mM 14 (((18 : Int32) * i2) + x5).toNatClampNeg) then (k12 (1 : Int32)) else (k12 (0 : Int32)))))))
noncomputable def MX5_isLike (mM : GS) (i1 : Int32) (i2 : Int32) : Option (Int32) := jn1 (fun (x1 : Int32) => chkB x1 (some (x1))) (fun k2 => lq2 (BX5_isLike_5 k2 i1 i2 mM) FU (1 : Int32) (0 : Int32))
abbrev rmX5_isLike : Room := { frames := 1, cells := 0, slots := 0, locals := 40 }
set_option maxHeartbeats 4000000 in
set_option maxRecDepth 100000 in
theorem ctX5_isLike (l : Launch) (D : va_G) (Y : Nat → ClassId) (oM : Nat → Nat) (sz : Nat) (mM : GS) (tk : Int64) (i1 : Int32) (i2 : Int32) (rr : Int32) (hM : MX5_isLike mM i1 i2 = some (rr)) : Met l yX5_isLike wsX5_isLike rmX5_isLike (pcW [.ref (oM 0), .int i1, .int i2] sz D Y (cMod Y oM mM tk)) (qiW rr D (cMod Y oM mM tk) (va_A (cMod Y oM mM tk) sz)) 0 0 (va_A (cMod Y oM mM tk) sz) := by
  refine Met.ofW (cc := cX5_isLike) (maxL := 5) (ret := (some .boolean)) (by decide) rfl ?_
  intro p e s m args below meth c s₁ B hml hv
  obtain ⟨rfl, hsz, hP, hK, hD0⟩ := hv
  have hx := B.exec
  have hb := B.bytes
  have hr := B.returns
  have hts := atoms_spec (ws := wsX5_isLike) B.pre
  have hown : s.vm.findClass RX5 = some m.cls := findClass_of_methodNamed B.named
  have hlocks := B.notSynchronized
  subst hsz
  have hD := hD0.self (sz := s.heap.size)
  generalize hAe : va_A (cMod Y oM mM tk) s.heap.size = A at hD ⊢
  have hA : ∀ q : Nat, s.heap.size ≤ q → A q := fun q h => by rw [← hAe]; exact Or.inr h
  have hS : va_S A s.heap s.heap [] := va_S.rf
  have hi5 : ∀ w ∈ wsX50, w ∈ wsX5_isLike := fun w h => List.mem_cons_of_mem _ (List.mem_append_right _ h)
  have hl := lv_entry ([.ref (oM 0), .int i1, .int i2]) (n := 5) (Nat.le_of_ble_eq_true rfl)
  rw [lg_entry_eq]
  generalize (lg_sl ([.ref (oM 0), .int i1, .int i2]) ++ List.replicate (5 - (lg_sl ([.ref (oM 0), .int i1, .int i2])).length) Slot.unset).toArray = ls at hl ⊢
  have hl : lv_has ls 5 [(0, .ref (oM 0)), (1, .int i1), (2, .int i2)] := hl
  obtain ⟨QQ, hQQ⟩ : ∃ Q : State → Prop, Q = MQ below (qiW rr D (cMod Y oM mM tk) A) ([.ref (oM 0), .int i1, .int i2] : List Value).toArray s 0 0 A := ⟨_, rfl⟩
  rw [← hQQ]
  unfold MX5_isLike at hM
  suffices hI : ∀ (H : Heap) (locs : List Loc), va_P D vwCl (cMod Y oM mM tk) H → va_S A s.heap H locs → W p l e (headSpec wsX5_isLike rmX5_isLike).room s m ([.ref (oM 0), .int i1, .int i2] : List Value).toArray below meth c H locs 0 0 QQ (F0 m 0 ls []) from hI _ _ hP hS
  clear hP hS
  intro H locs hP hS
  refine lv_iconst (v := (1 : Int32)) hx hb dX5_isLike_0 (by decide) ?_
  refine lv_istore_n (lv' := [(3, .int (1 : Int32)), (0, .ref (oM 0)), (1, .int i1), (2, .int i2)]) hx hb dX5_isLike_1 rfl hl (by decide) rfl (fun ls hl => ?_)
  refine lv_iconst (v := (0 : Int32)) hx hb dX5_isLike_2 (by decide) ?_
  refine lv_istore (lv' := [(4, .int (0 : Int32)), (3, .int (1 : Int32)), (0, .ref (oM 0)), (1, .int i1), (2, .int i2)]) hx hb dX5_isLike_3 hl (by decide) rfl (fun ls hl => ?_)
  refine jn1_at (fun (x1 : Int32) => ∀ (H : Heap) (locs : List Loc) (ls : Array Slot), va_P D vwCl (cMod Y oM mM tk) H → va_S A s.heap H locs → lv_has ls 5 [(3, .int x1)] → W p l e (headSpec wsX5_isLike rmX5_isLike).room s m ([.ref (oM 0), .int i1, .int i2] : List Value).toArray below meth c H locs 0 0 QQ (F0 m 55 ls [])) hM (fun x1 hM H locs ls hP hS hl => ?_) (fun k2 hJ2 hM => ?_)
  · refine lv_iload_n hx hb dX5_isLike_55 rfl (lv_at hl 0 rfl) ?_
    obtain ⟨hz3, hM⟩ := chkB_at hM
    cases hM
    rw [hQQ]
    exact W.zret (ty := .boolean) hx hb hr hz3 (fun t ht hW => ⟨⟨_, (), rfl, rfl, by show va_P D vwCl _ t.heap; rw [ht]; exact hP⟩, hS.F ht⟩) hS.2.2 dX5_isLike_56
  · refine lq2_at (fun (x4 : Int32) (x5 : Int32) => ∀ (H : Heap) (locs : List Loc) (ls : Array Slot), va_P D vwCl (cMod Y oM mM tk) H → va_S A s.heap H locs → lv_has ls 5 [(0, .ref (oM 0)), (1, .int i1), (2, .int i2), (3, .int x4), (4, .int x5)] → W p l e (headSpec wsX5_isLike rmX5_isLike).room s m ([.ref (oM 0), .int i1, .int i2] : List Value).toArray below meth c H locs 0 0 QQ (F0 m 5 ls [])) (fun rec6 x4 x5 ih6 hM H locs ls hP hS hl => ?_) FU (1 : Int32) (0 : Int32) hM H locs ls hP hS (lv_sub hl [2, 3, 4, 1, 0] rfl)
    unfold BX5_isLike_5 at hM
    refine lv_iload hx hb dX5_isLike_5 (lv_at hl 4 rfl) ?_
    refine lv_bipush (v := (18 : Int32)) hx hb dX5_isLike_7 (by decide) ?_
    refine lv_icmp_ge (tgt := 55) hx hb dX5_isLike_9 (by decide) (fun c7 => ?_) (fun c7 => ?_)
    · replace hM := if_at_pos hM c7
      exact hJ2 x4 hM H locs ls hP hS (lv_sub hl [3] rfl)
    · replace hM := if_at_neg hM c7
      refine lv_iload_n hx hb dX5_isLike_12 rfl (lv_at hl 3 rfl) ?_
      refine lv_if_eq (tgt := 55) hx hb dX5_isLike_13 (by decide) (fun c8 => ?_) (fun c8 => ?_)
      · replace hM := if_at_pos hM c8
        exact hJ2 x4 hM H locs ls hP hS (lv_sub hl [3] rfl)
      · replace hM := if_at_neg hM c8
        refine lv_aload_n hx hb dX5_isLike_16 rfl (lv_at hl 0 rfl) ?_
        refine va_get hx hb hts hi5 hown hK hP 0 rfl rfl 35 (by decide) (hts (.fieldLink RX5 57 "NightPlotsModel" "states" "[I") (List.mem_of_getElem? (i := 1) rfl)) (fun _ h9 => h9) rfl dX5_isLike_17 ?_
        refine lv_bipush (v := (18 : Int32)) hx hb dX5_isLike_20 (by decide) ?_
        refine lv_iload_n hx hb dX5_isLike_22 rfl (lv_at hl 1 rfl) ?_
        refine lv_imul hx hb dX5_isLike_23 ?_
        refine lv_iload hx hb dX5_isLike_24 (lv_at hl 4 rfl) ?_
        refine lv_iadd hx hb dX5_isLike_26 ?_
        obtain ⟨hi_9, hM⟩ := chkI_at hM
        refine va_iald hx hb hK hP 14 0 rfl rfl hi_9 dX5_isLike_27 ?_
        refine lv_aload_n hx hb dX5_isLike_28 rfl (lv_at hl 0 rfl) ?_
        refine va_get hx hb hts hi5 hown hK hP 0 rfl rfl 35 (by decide) (hts (.fieldLink RX5 57 "NightPlotsModel" "states" "[I") (List.mem_of_getElem? (i := 1) rfl)) (fun _ h9 => h9) rfl dX5_isLike_29 ?_
        refine lv_bipush (v := (18 : Int32)) hx hb dX5_isLike_32 (by decide) ?_
        refine lv_iload_n hx hb dX5_isLike_34 rfl (lv_at hl 2 rfl) ?_
        refine lv_imul hx hb dX5_isLike_35 ?_
        refine lv_iload hx hb dX5_isLike_36 (lv_at hl 4 rfl) ?_
        refine lv_iadd hx hb dX5_isLike_38 ?_
        obtain ⟨hi_10, hM⟩ := chkI_at hM
        refine va_iald hx hb hK hP 14 0 rfl rfl hi_10 dX5_isLike_39 ?_
        refine jn1_at (fun (x11 : Int32) => ∀ (H : Heap) (locs : List Loc) (ls : Array Slot), va_P D vwCl (cMod Y oM mM tk) H → va_S A s.heap H locs → lv_has ls 5 [(0, .ref (oM 0)), (1, .int i1), (2, .int i2), (4, .int x5)] → W p l e (headSpec wsX5_isLike rmX5_isLike).room s m ([.ref (oM 0), .int i1, .int i2] : List Value).toArray below meth c H locs 0 0 QQ (F0 m 48 ls [.int x11])) hM (fun x11 hM H locs ls hP hS hl => ?_) (fun k12 hJ12 hM => ?_)
        · refine lv_istore_n (lv' := [(3, .int x11), (0, .ref (oM 0)), (1, .int i1), (2, .int i2), (4, .int x5)]) hx hb dX5_isLike_48 rfl hl (by decide) rfl (fun ls hl => ?_)
          obtain ⟨x13, ex13⟩ : ∃ z : Int32, z = (x5 + 1) := ⟨_, rfl⟩
          replace hM := nm_at hM ex13
          refine lv_iinc (v := x13) (lv' := [(4, .int x13), (3, .int x11), (0, .ref (oM 0)), (1, .int i1), (2, .int i2)]) hx hb dX5_isLike_49 hl (k := 4) rfl (by rw [ex13]; rfl) (by decide) rfl (fun ls hl => ?_)
          refine lv_goto (tgt := 5) hx hb dX5_isLike_52 (by decide) ?_
          exact ih6 x11 x13 hM H locs ls hP hS (lv_sub hl [2, 3, 4, 1, 0] rfl)
        · refine lv_icmp_ne (tgt := 47) hx hb dX5_isLike_40 (by decide) (fun c14 => ?_) (fun c14 => ?_)
          · replace hM := if_at_neg hM c14
            refine lv_iconst (v := (0 : Int32)) hx hb dX5_isLike_47 (by decide) ?_
            exact hJ12 (0 : Int32) hM H locs ls hP hS (lv_sub hl [0, 1, 2, 4] rfl)
          · replace hM := if_at_pos hM c14
            refine lv_iconst (v := (1 : Int32)) hx hb dX5_isLike_43 (by decide) ?_
            refine lv_goto (tgt := 48) hx hb dX5_isLike_44 (by decide) ?_
            exact hJ12 (1 : Int32) hM H locs ls hP hS (lv_sub hl [0, 1, 2, 4] rfl)
