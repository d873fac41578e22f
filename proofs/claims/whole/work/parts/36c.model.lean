noncomputable def MX5_seen (mM : GS) (i1 : Int32) (i2 : Int32) (i3 : Int32) : Option (Int32 × GS) := bnd1 (MX5_isHouse mM i1) fun (r1 : Int32) => jn0 (some ((-2 : Int32), mM)) (fun k3 => if r1 = 0 then (k3) else (bnd1 (MX5_isPlot mM i2) fun (r5 : Int32) => if r5 = 0 then (k3) else (bnd1 (MX5_in i3 (0 : Int32) (99 : Int32)) fun (r8 : Int32) => if r8 = 0 then (some ((-3 : Int32), mM)) else (if (mM 0 30) = (8 : Int32) then (some ((-5 : Int32), mM)) else (chkI ((3 : Int32) * (mM 0 30)) 24 (nm (upA mM 12 (upd (mM 12) ((3 : Int32) * (mM 0 30)).toNatClampNeg i1)) fun (mM_13 : GS) => chkI (((3 : Int32) * (mM_13 0 30)) + (1 : Int32)) 24 (nm (upA mM_13 12 (upd (mM_13 12) (((3 : Int32) * (mM_13 0 30)) + (1 : Int32)).toNatClampNeg i2)) fun (mM_15 : GS) => chkI (((3 : Int32) * (mM_15 0 30)) + (2 : Int32)) 24 (nm (upA mM_15 12 (upd (mM_15 12) (((3 : Int32) * (mM_15 0 30)) + (2 : Int32)).toNatClampNeg i3)) fun (mM_17 : GS) => nm ((mM_17 0 30) + (1 : Int32)) fun (x18 : Int32) => nm (up2 mM_17 0 30 x18) fun (mM_19 : GS) => some ((mM_19 0 30), mM_19)))))))))
abbrev rmX5_seen : Room := { frames := 3, cells := 0, slots := 0, locals := 120 }
set_option maxHeartbeats 4000000 in
set_option maxRecDepth 100000 in
theorem ctX5_seen (l : Launch) (D : va_G) (Y : Nat → ClassId) (oM : Nat → Nat) (sz : Nat) (mM : GS) (tk : Int64) (i1 : Int32) (i2 : Int32) (i3 : Int32) (rr : Int32) (mMz : GS) (hM : MX5_seen mM i1 i2 i3 = some (rr, mMz)) : Met l yX5_seen wsX5_seen rmX5_seen (pcW [.ref (oM 0), .int i1, .int i2, .int i3] sz D Y (cMod Y oM mM tk)) (qiW rr D (cMod Y oM mMz tk) (va_A (cMod Y oM mM tk) sz)) 0 0 (va_A (cMod Y oM mM tk) sz) := by
  refine Met.ofW (cc := cX5_seen) (maxL := 4) (ret := (some .int)) (by decide) rfl ?_
  intro p e s m args below meth c s₁ B hml hv
  obtain ⟨rfl, hsz, hP, hK, hD0⟩ := hv
  have hx := B.exec
  have hb := B.bytes
  have hr := B.returns
  have hts := atoms_spec (ws := wsX5_seen) B.pre
  have hown : s.vm.findClass RX5 = some m.cls := findClass_of_methodNamed B.named
  have hlocks := B.notSynchronized
  subst hsz
  have hD := hD0.self (sz := s.heap.size)
  generalize hAe : va_A (cMod Y oM mM tk) s.heap.size = A at hD ⊢
  have hA : ∀ q : Nat, s.heap.size ≤ q → A q := fun q h => by rw [← hAe]; exact Or.inr h
  have hS : va_S A s.heap s.heap [] := va_S.rf
  have hi5 : ∀ w ∈ wsX50, w ∈ wsX5_seen := fun w h => List.mem_cons_of_mem _ (List.mem_append_right _ h)
  have hl := lv_entry ([.ref (oM 0), .int i1, .int i2, .int i3]) (n := 4) (Nat.le_of_ble_eq_true rfl)
  rw [lg_entry_eq]
  generalize (lg_sl ([.ref (oM 0), .int i1, .int i2, .int i3]) ++ List.replicate (4 - (lg_sl ([.ref (oM 0), .int i1, .int i2, .int i3])).length) Slot.unset).toArray = ls at hl ⊢
  have hl : lv_has ls 4 [(0, .ref (oM 0)), (1, .int i1), (2, .int i2), (3, .int i3)] := hl
  obtain ⟨QQ, hQQ⟩ : ∃ Q : State → Prop, Q = MQ below (qiW rr D (cMod Y oM mMz tk) A) ([.ref (oM 0), .int i1, .int i2, .int i3] : List Value).toArray s 0 0 A := ⟨_, rfl⟩
  rw [← hQQ]
  unfold MX5_seen at hM
  suffices hI : ∀ (H : Heap) (locs : List Loc), va_P D vwCl (cMod Y oM mM tk) H → va_S A s.heap H locs → W p l e (headSpec wsX5_seen rmX5_seen).room s m ([.ref (oM 0), .int i1, .int i2, .int i3] : List Value).toArray below meth c H locs 0 0 QQ (F0 m 0 ls []) from hI _ _ hP hS
  clear hP hS
  intro H locs hP hS
  refine lv_aload_n hx hb dX5_seen_0 rfl (lv_at hl 0 rfl) ?_
  refine lv_iload_n hx hb dX5_seen_1 rfl (lv_at hl 1 rfl) ?_
  obtain ⟨r1, hc2, hM⟩ := bnd1_at hM
  refine co_i (va_runV (As := [.int i1]) (rest := []) ⟨hx, hb, hml, hown, hts⟩ (ctX5_isHouse l D Y oM H.size mM tk i1 r1 hc2) (cwV 1 hts gX5_seen_X5_isHouse rfl rfl rfl (by decide +kernel) ⟨Nat.le_of_ble_eq_true rfl, Nat.le_of_ble_eq_true rfl⟩) (pcW_V0 (ci := 5) (q0 := 0) hK hP (hD.same rfl) rfl rfl) rfl rfl hl.1 rfl (lv_room (Nat.le_of_ble_eq_true rfl)) dX5_seen_2 ⟨Nat.zero_le _, Nat.zero_le _⟩) (hD.same rfl) hS hA (fun H locs hP hS => ?_)
  refine jn0_at (∀ (H : Heap) (locs : List Loc) (ls : Array Slot), va_P D vwCl (cMod Y oM mM tk) H → va_S A s.heap H locs → lv_has ls 4 [] → W p l e (headSpec wsX5_seen rmX5_seen).room s m ([.ref (oM 0), .int i1, .int i2, .int i3] : List Value).toArray below meth c H locs 0 0 QQ (F0 m 16 ls [])) hM (fun  hM H locs ls hP hS hl => ?_) (fun k3 hJ3 hM => ?_)
  · refine lv_bipush (v := (-2 : Int32)) hx hb dX5_seen_16 (by decide) ?_
    cases hM
    rw [hQQ]
    exact W.iret hx hb hr (fun t ht hW => ⟨⟨_, (), rfl, rfl, by show va_P D vwCl _ t.heap; rw [ht]; exact hP⟩, hS.F ht⟩) hS.2.2 dX5_seen_18
  · refine lv_if_eq (tgt := 16) hx hb dX5_seen_5 (by decide) (fun c4 => ?_) (fun c4 => ?_)
    · replace hM := if_at_pos hM c4
      exact hJ3 hM H locs ls hP hS (lv_sub hl [] rfl)
    · replace hM := if_at_neg hM c4
      refine lv_aload_n hx hb dX5_seen_8 rfl (lv_at hl 0 rfl) ?_
      refine lv_iload_n hx hb dX5_seen_9 rfl (lv_at hl 2 rfl) ?_
      obtain ⟨r5, hc6, hM⟩ := bnd1_at hM
      refine co_i (va_runV (As := [.int i2]) (rest := []) ⟨hx, hb, hml, hown, hts⟩ (ctX5_isPlot l D Y oM H.size mM tk i2 r5 hc6) (cwV 1 hts gX5_seen_X5_isPlot rfl rfl rfl (by decide +kernel) ⟨Nat.le_of_ble_eq_true rfl, Nat.le_of_ble_eq_true rfl⟩) (pcW_V0 (ci := 5) (q0 := 0) hK hP (hD.same rfl) rfl rfl) rfl rfl hl.1 rfl (lv_room (Nat.le_of_ble_eq_true rfl)) dX5_seen_10 ⟨Nat.zero_le _, Nat.zero_le _⟩) (hD.same rfl) hS hA (fun H locs hP hS => ?_)
      refine lv_if_ne (tgt := 19) hx hb dX5_seen_13 (by decide) (fun c7 => ?_) (fun c7 => ?_)
      · replace hM := if_at_neg hM c7
        refine lv_iload_n hx hb dX5_seen_19 rfl (lv_at hl 3 rfl) ?_
        refine lv_iconst (v := (0 : Int32)) hx hb dX5_seen_20 (by decide) ?_
        refine lv_bipush (v := (99 : Int32)) hx hb dX5_seen_21 (by decide) ?_
        obtain ⟨r8, hc9, hM⟩ := bnd1_at hM
        refine cm_i (w2 := (cMod Y oM mM tk)) (va_runS (As := [.int i3, .int (0 : Int32), .int (99 : Int32)]) (rest := []) ⟨hx, hb, hml, hown, hts⟩ (ctX5_in l D Y H.size i3 (0 : Int32) (99 : Int32) r8 hc9) (cwS 3 hts gX5_seen_X5_in rfl rfl rfl (by decide +kernel) ⟨Nat.le_of_ble_eq_true rfl, Nat.le_of_ble_eq_true rfl⟩) (pcW_S hK hP (hD.same rfl) [] rfl (pc_map pc_nil)) rfl rfl hl.1 rfl (lv_room (Nat.le_of_ble_eq_true rfl)) dX5_seen_23 ⟨Nat.zero_le _, Nat.zero_le _⟩) hP (hD.same rfl) hS hA [] (pc_map pc_nil) (up_old rfl rfl (up_old rfl rfl (up_old rfl rfl (up_old rfl rfl (up_old rfl rfl (up_old rfl rfl (up_old rfl rfl (up_old rfl rfl (up_old rfl rfl (up_old rfl rfl (up_old rfl rfl (up_old rfl rfl (up_old rfl rfl (up_old rfl rfl (up_old rfl rfl (up_old rfl rfl (up_old rfl rfl (up_old rfl rfl (up_old rfl rfl up_nil))))))))))))))))))) (fun H locs hP hS => ?_)
        refine lv_if_ne (tgt := 32) hx hb dX5_seen_26 (by decide) (fun c10 => ?_) (fun c10 => ?_)
        · replace hM := if_at_neg hM c10
          refine lv_aload_n hx hb dX5_seen_32 rfl (lv_at hl 0 rfl) ?_
          refine va_get hx hb hts hi5 hown hK hP 0 rfl rfl 30 (by decide) (hts (.fieldLink RX5 212 "NightPlotsModel" "sights" "I") (List.mem_of_getElem? (i := 1) rfl)) (fun _ h9 => h9) rfl dX5_seen_33 ?_
          refine lv_bipush (v := (8 : Int32)) hx hb dX5_seen_36 (by decide) ?_
          refine lv_icmp_ne (tgt := 44) hx hb dX5_seen_38 (by decide) (fun c11 => ?_) (fun c11 => ?_)
          · replace hM := if_at_neg hM c11
            refine lv_aload_n hx hb dX5_seen_44 rfl (lv_at hl 0 rfl) ?_
            refine va_get hx hb hts hi5 hown hK hP 0 rfl rfl 31 (by decide) (hts (.fieldLink RX5 51 "NightPlotsModel" "sight" "[I") (List.mem_of_getElem? (i := 2) rfl)) (fun _ h9 => h9) rfl dX5_seen_45 ?_
            refine lv_iconst (v := (3 : Int32)) hx hb dX5_seen_48 (by decide) ?_
            refine lv_aload_n hx hb dX5_seen_49 rfl (lv_at hl 0 rfl) ?_
            refine va_get hx hb hts hi5 hown hK hP 0 rfl rfl 30 (by decide) (hts (.fieldLink RX5 212 "NightPlotsModel" "sights" "I") (List.mem_of_getElem? (i := 1) rfl)) (fun _ h9 => h9) rfl dX5_seen_50 ?_
            refine lv_imul hx hb dX5_seen_53 ?_
            refine lv_iload_n hx hb dX5_seen_54 rfl (lv_at hl 1 rfl) ?_
            obtain ⟨hi_12, hM⟩ := chkI_at hM
            refine va_iast hx hb hK hP (hD.same rfl) hS 12 0 rfl rfl hi_12 dX5_seen_55 (fun H locs hP _ hS => ?_)
            obtain ⟨mM_13, emM_13⟩ : ∃ z : GS, z = (upA mM 12 (upd (mM 12) ((3 : Int32) * (mM 0 30)).toNatClampNeg i1)) := ⟨_, rfl⟩
            have hP : va_P D vwCl (cMod Y oM mM_13 tk) H := by rw [emM_13]; exact hP
            replace hM := nm_at hM emM_13
            refine lv_aload_n hx hb dX5_seen_56 rfl (lv_at hl 0 rfl) ?_
            refine va_get hx hb hts hi5 hown hK hP 0 rfl rfl 31 (by decide) (hts (.fieldLink RX5 51 "NightPlotsModel" "sight" "[I") (List.mem_of_getElem? (i := 2) rfl)) (fun _ h9 => h9) rfl dX5_seen_57 ?_
            refine lv_iconst (v := (3 : Int32)) hx hb dX5_seen_60 (by decide) ?_
            refine lv_aload_n hx hb dX5_seen_61 rfl (lv_at hl 0 rfl) ?_
            refine va_get hx hb hts hi5 hown hK hP 0 rfl rfl 30 (by decide) (hts (.fieldLink RX5 212 "NightPlotsModel" "sights" "I") (List.mem_of_getElem? (i := 1) rfl)) (fun _ h9 => h9) rfl dX5_seen_62 ?_
            refine lv_imul hx hb dX5_seen_65 ?_
            refine lv_iconst (v := (1 : Int32)) hx hb dX5_seen_66 (by decide) ?_
            refine lv_iadd hx hb dX5_seen_67 ?_
            refine lv_iload_n hx hb dX5_seen_68 rfl (lv_at hl 2 rfl) ?_
            obtain ⟨hi_14, hM⟩ := chkI_at hM
            refine va_iast hx hb hK hP (hD.same rfl) hS 12 0 rfl rfl hi_14 dX5_seen_69 (fun H locs hP _ hS => ?_)
            obtain ⟨mM_15, emM_15⟩ : ∃ z : GS, z = (upA mM_13 12 (upd (mM_13 12) (((3 : Int32) * (mM_13 0 30)) + (1 : Int32)).toNatClampNeg i2)) := ⟨_, rfl⟩
            have hP : va_P D vwCl (cMod Y oM mM_15 tk) H := by rw [emM_15]; exact hP
            replace hM := nm_at hM emM_15
            refine lv_aload_n hx hb dX5_seen_70 rfl (lv_at hl 0 rfl) ?_
            refine va_get hx hb hts hi5 hown hK hP 0 rfl rfl 31 (by decide) (hts (.fieldLink RX5 51 "NightPlotsModel" "sight" "[I") (List.mem_of_getElem? (i := 2) rfl)) (fun _ h9 => h9) rfl dX5_seen_71 ?_
            refine lv_iconst (v := (3 : Int32)) hx hb dX5_seen_74 (by decide) ?_
            refine lv_aload_n hx hb dX5_seen_75 rfl (lv_at hl 0 rfl) ?_
            refine va_get hx hb hts hi5 hown hK hP 0 rfl rfl 30 (by decide) (hts (.fieldLink RX5 212 "NightPlotsModel" "sights" "I") (List.mem_of_getElem? (i := 1) rfl)) (fun _ h9 => h9) rfl dX5_seen_76 ?_
            refine lv_imul hx hb dX5_seen_79 ?_
            refine lv_iconst (v := (2 : Int32)) hx hb dX5_seen_80 (by decide) ?_
            refine lv_iadd hx hb dX5_seen_81 ?_
            refine lv_iload_n hx hb dX5_seen_82 rfl (lv_at hl 3 rfl) ?_
            obtain ⟨hi_16, hM⟩ := chkI_at hM
            refine va_iast hx hb hK hP (hD.same rfl) hS 12 0 rfl rfl hi_16 dX5_seen_83 (fun H locs hP _ hS => ?_)
            obtain ⟨mM_17, emM_17⟩ : ∃ z : GS, z = (upA mM_15 12 (upd (mM_15 12) (((3 : Int32) * (mM_15 0 30)) + (2 : Int32)).toNatClampNeg i3)) := ⟨_, rfl⟩
            have hP : va_P D vwCl (cMod Y oM mM_17 tk) H := by rw [emM_17]; exact hP
            replace hM := nm_at hM emM_17
            refine lv_aload_n hx hb dX5_seen_84 rfl (lv_at hl 0 rfl) ?_
            refine lv_dup hx hb dX5_seen_85 rfl ?_
            refine va_get hx hb hts hi5 hown hK hP 0 rfl rfl 30 (by decide) (hts (.fieldLink RX5 212 "NightPlotsModel" "sights" "I") (List.mem_of_getElem? (i := 1) rfl)) (fun _ h9 => h9) rfl dX5_seen_86 ?_
            refine lv_iconst (v := (1 : Int32)) hx hb dX5_seen_89 (by decide) ?_
            refine lv_iadd hx hb dX5_seen_90 ?_
            refine lv_topi (fun x18 ex18 => ?_)
            replace hM := nm_at hM ex18
            refine va_put (ty := .int) hx hb hts hi5 tyX5 tyX5_ok nmX5 hown hK hP (hD.same rfl) hS 0 rfl rfl 30 (by decide) (hts (.fieldLink RX5 212 "NightPlotsModel" "sights" "I") (List.mem_of_getElem? (i := 1) rfl)) (fun _ h9 => h9) rfl (by decide +kernel) rfl rfl (Nat.le_of_ble_eq_true rfl) dX5_seen_91 (fun H locs hP _ hS => ?_)
            obtain ⟨mM_19, emM_19⟩ : ∃ z : GS, z = (up2 mM_17 0 30 x18) := ⟨_, rfl⟩
            have hP : va_P D vwCl (cMod Y oM mM_19 tk) H := by rw [emM_19]; exact hP
            replace hM := nm_at hM emM_19
            refine lv_aload_n hx hb dX5_seen_94 rfl (lv_at hl 0 rfl) ?_
            refine va_get hx hb hts hi5 hown hK hP 0 rfl rfl 30 (by decide) (hts (.fieldLink RX5 212 "NightPlotsModel" "sights" "I") (List.mem_of_getElem? (i := 1) rfl)) (fun _ h9 => h9) rfl dX5_seen_95 ?_
            cases hM
            rw [hQQ]
            exact W.iret hx hb hr (fun t ht hW => ⟨⟨_, (), rfl, rfl, by show va_P D vwCl _ t.heap; rw [ht]; exact hP⟩, hS.F ht⟩) hS.2.2 dX5_seen_98
          · replace hM := if_at_pos hM c11
            refine lv_bipush (v := (-5 : Int32)) hx hb dX5_seen_41 (by decide) ?_
            cases hM
            rw [hQQ]
            exact W.iret hx hb hr (fun t ht hW => ⟨⟨_, (), rfl, rfl, by show va_P D vwCl _ t.heap; rw [ht]; exact hP⟩, hS.F ht⟩) hS.2.2 dX5_seen_43
        · replace hM := if_at_pos hM c10
          refine lv_bipush (v := (-3 : Int32)) hx hb dX5_seen_29 (by decide) ?_
          cases hM
          rw [hQQ]
          exact W.iret hx hb hr (fun t ht hW => ⟨⟨_, (), rfl, rfl, by show va_P D vwCl _ t.heap; rw [ht]; exact hP⟩, hS.F ht⟩) hS.2.2 dX5_seen_31
      · replace hM := if_at_pos hM c7
        exact hJ3 hM H locs ls hP hS (lv_sub hl [] rfl)
noncomputable def MX5_forget (mM : GS) : Option (Int32 × GS) := nm (mM 0 30) fun (x1 : Int32) => nm (up2 mM 0 30 (0 : Int32)) fun (mM_2 : GS) => some (x1, mM_2)
abbrev rmX5_forget : Room := { frames := 1, cells := 0, slots := 0, locals := 40 }
set_option maxHeartbeats 4000000 in
set_option maxRecDepth 100000 in
theorem ctX5_forget (l : Launch) (D : va_G) (Y : Nat → ClassId) (oM : Nat → Nat) (sz : Nat) (mM : GS) (tk : Int64) (rr : Int32) (mMz : GS) (hM : MX5_forget mM = some (rr, mMz)) : Met l yX5_forget wsX5_forget rmX5_forget (pcW [.ref (oM 0)] sz D Y (cMod Y oM mM tk)) (qiW rr D (cMod Y oM mMz tk) (va_A (cMod Y oM mM tk) sz)) 0 0 (va_A (cMod Y oM mM tk) sz) := by
  refine Met.ofW (cc := cX5_forget) (maxL := 2) (ret := (some .int)) (by decide) rfl ?_
  intro p e s m args below meth c s₁ B hml hv
  obtain ⟨rfl, hsz, hP, hK, hD0⟩ := hv
  have hx := B.exec
  have hb := B.bytes
  have hr := B.returns
  have hts := atoms_spec (ws := wsX5_forget) B.pre
  have hown : s.vm.findClass RX5 = some m.cls := findClass_of_methodNamed B.named
  have hlocks := B.notSynchronized
  subst hsz
  have hD := hD0.self (sz := s.heap.size)
  generalize hAe : va_A (cMod Y oM mM tk) s.heap.size = A at hD ⊢
  have hA : ∀ q : Nat, s.heap.size ≤ q → A q := fun q h => by rw [← hAe]; exact Or.inr h
  have hS : va_S A s.heap s.heap [] := va_S.rf
  have hi5 : ∀ w ∈ wsX50, w ∈ wsX5_forget := fun w h => List.mem_cons_of_mem _ (List.mem_append_right _ h)
  have hl := lv_entry ([.ref (oM 0)]) (n := 2) (Nat.le_of_ble_eq_true rfl)
  rw [lg_entry_eq]
  generalize (lg_sl ([.ref (oM 0)]) ++ List.replicate (2 - (lg_sl ([.ref (oM 0)])).length) Slot.unset).toArray = ls at hl ⊢
  have hl : lv_has ls 2 [(0, .ref (oM 0))] := hl
  obtain ⟨QQ, hQQ⟩ : ∃ Q : State → Prop, Q = MQ below (qiW rr D (cMod Y oM mMz tk) A) ([.ref (oM 0)] : List Value).toArray s 0 0 A := ⟨_, rfl⟩
  rw [← hQQ]
  unfold MX5_forget at hM
  suffices hI : ∀ (H : Heap) (locs : List Loc), va_P D vwCl (cMod Y oM mM tk) H → va_S A s.heap H locs → W p l e (headSpec wsX5_forget rmX5_forget).room s m ([.ref (oM 0)] : List Value).toArray below meth c H locs 0 0 QQ (F0 m 0 ls []) from hI _ _ hP hS
  clear hP hS
  intro H locs hP hS
  refine lv_aload_n hx hb dX5_forget_0 rfl (lv_at hl 0 rfl) ?_
  refine va_get hx hb hts hi5 hown hK hP 0 rfl rfl 30 (by decide) (hts (.fieldLink RX5 212 "NightPlotsModel" "sights" "I") (List.mem_of_getElem? (i := 1) rfl)) (fun _ h9 => h9) rfl dX5_forget_1 ?_
  refine lv_topi (fun x1 ex1 => ?_)
  replace hM := nm_at hM ex1
  refine lv_istore_n (lv' := [(1, .int x1), (0, .ref (oM 0))]) hx hb dX5_forget_4 rfl hl (by decide) rfl (fun ls hl => ?_)
  refine lv_aload_n hx hb dX5_forget_5 rfl (lv_at hl 1 rfl) ?_
  refine lv_iconst (v := (0 : Int32)) hx hb dX5_forget_6 (by decide) ?_
  refine va_put (ty := .int) hx hb hts hi5 tyX5 tyX5_ok nmX5 hown hK hP (hD.same rfl) hS 0 rfl rfl 30 (by decide) (hts (.fieldLink RX5 212 "NightPlotsModel" "sights" "I") (List.mem_of_getElem? (i := 1) rfl)) (fun _ h9 => h9) rfl (by decide +kernel) rfl rfl (Nat.le_of_ble_eq_true rfl) dX5_forget_7 (fun H locs hP _ hS => ?_)
  obtain ⟨mM_2, emM_2⟩ : ∃ z : GS, z = (up2 mM 0 30 (0 : Int32)) := ⟨_, rfl⟩
  have hP : va_P D vwCl (cMod Y oM mM_2 tk) H := by rw [emM_2]; exact hP
  replace hM := nm_at hM emM_2
  refine lv_iload_n hx hb dX5_forget_10 rfl (lv_at hl 0 rfl) ?_
  cases hM
  rw [hQQ]
  exact W.iret hx hb hr (fun t ht hW => ⟨⟨_, (), rfl, rfl, by show va_P D vwCl _ t.heap; rw [ht]; exact hP⟩, hS.F ht⟩) hS.2.2 dX5_forget_11
noncomputable def BX5_laws_37 (mM_26 : GS) (k30 : Int32 → Option (Int32 × GS)) (x25 : Int32) (rec36 : Int32 → Int32 → Option (Int32 × GS)) (x34 : Int32) (x35 : Int32) : Option (Int32 × GS) := if (mM_26 0 30) ≤ x35 then (k30 x34) else (jn1 (fun (x38 : Int32) => nm (x35 + 1) fun (x40 : Int32) => rec36 x38 x40) (fun k39 => jn0 (k39 (0 : Int32)) (fun k41 => if x34 = 0 then (k41) else (chkI (((3 : Int32) * x35) + (2 : Int32)) 24 (jn0 (k39 (1 : Int32)) (fun k44 => if (mM_26 12 (((3 : Int32) * x35) + (2 : Int32)).toNatClampNeg) = x25 then (chkI ((3 : Int32) * x35) 24 (chkI (mM_26 12 ((3 : Int32) * x35).toNatClampNeg) 19 (chkI (((3 : Int32) * x35) + (1 : Int32)) 24 (if (mM_26 8 (mM_26 12 ((3 : Int32) * x35).toNatClampNeg).toNatClampNeg) = (mM_26 12 (((3 : Int32) * x35) + (1 : Int32)).toNatClampNeg) then (k44) else (k41))))) else (k44)))))))
noncomputable def BX5_laws_27 (k18 : Int32 → GS → Option (Int32 × GS)) (rec27 : Int32 → Int32 → GS → Option (Int32 × GS)) (x24 : Int32) (x25 : Int32) (mM_26 : GS) : Option (Int32 × GS) := if (100 : Int32) ≤ x25 then (k18 x24 mM_26) else (jn1 (fun (x29 : Int32) => bnd1 (MX5_goNight mM_26) fun (mM_31 : GS) => nm (x25 + 1) fun (x33 : Int32) => rec27 x29 x33 mM_31) (fun k30 => lq2 (BX5_laws_37 mM_26 k30 x25) FU x24 (0 : Int32)))
noncomputable def BX5_laws_8 (k5 : Int32 → GS → Option (Int32 × GS)) (rec11 : Int32 → Int32 → GS → Option (Int32 × GS)) (x8 : Int32) (x9 : Int32) (mM_10 : GS) : Option (Int32 × GS) := if (3 : Int32) ≤ x9 then (k5 x8 mM_10) else (bnd1 (MX5_begin mM_10) fun (mM_13 : GS) => nm (up2 mM_13 0 34 x9) fun (mM_15 : GS) => jn2 (fun (x16 : Int32) (mM_17 : GS) => jn1 (fun (x19 : Int32) => nm (x8 ||| x19) fun (x21 : Int32) => nm (x9 + 1) fun (x22 : Int32) => rec11 x21 x22 mM_17) (fun k20 => if x16 = 0 then (k20 (0 : Int32)) else (k20 ((1 : Int32) <<< (x9 &&& 31))))) (fun k18 => lq3 (BX5_laws_27 k18) FU (1 : Int32) (0 : Int32) mM_15))
noncomputable def MX5_laws (mM : GS) : Option (Int32 × GS) := bnd1 (MX5_putAside mM) fun (mM_1 : GS) => jn2 (fun (x3 : Int32) (mM_4 : GS) => bnd1 (MX5_putBack mM_4) fun (mM_6 : GS) => some (x3, mM_6)) (fun k5 => lq3 (BX5_laws_8 k5) FU (0 : Int32) (0 : Int32) mM_1)
abbrev rmX5_laws : Room := { frames := 6, cells := 0, slots := 0, locals := 240 }
set_option maxHeartbeats 4000000 in
set_option maxRecDepth 100000 in
theorem ctX5_laws (l : Launch) (D : va_G) (Y : Nat → ClassId) (oM : Nat → Nat) (sz : Nat) (mM : GS) (tk : Int64) (rr : Int32) (mMz : GS) (hM : MX5_laws mM = some (rr, mMz)) : Met l yX5_laws wsX5_laws rmX5_laws (pcW [.ref (oM 0)] sz D Y (cMod Y oM mM tk)) (qiW rr D (cMod Y oM mMz tk) (va_A (cMod Y oM mM tk) sz)) 0 0 (va_A (cMod Y oM mM tk) sz) := by
  refine Met.ofW (cc := cX5_laws) (maxL := 6) (ret := (some .int)) (by decide) rfl ?_
  intro p e s m args below meth c s₁ B hml hv
  obtain ⟨rfl, hsz, hP, hK, hD0⟩ := hv
  have hx := B.exec
  have hb := B.bytes
  have hr := B.returns
  have hts := atoms_spec (ws := wsX5_laws) B.pre
  have hown : s.vm.findClass RX5 = some m.cls := findClass_of_methodNamed B.named
  have hlocks := B.notSynchronized
  subst hsz
  have hD := hD0.self (sz := s.heap.size)
  generalize hAe : va_A (cMod Y oM mM tk) s.heap.size = A at hD ⊢
  have hA : ∀ q : Nat, s.heap.size ≤ q → A q := fun q h => by rw [← hAe]; exact Or.inr h
  have hS : va_S A s.heap s.heap [] := va_S.rf
  have hi5 : ∀ w ∈ wsX50, w ∈ wsX5_laws := fun w h => List.mem_cons_of_mem _ (List.mem_append_right _ h)
  have hl := lv_entry ([.ref (oM 0)]) (n := 6) (Nat.le_of_ble_eq_true rfl)
  rw [lg_entry_eq]
  generalize (lg_sl ([.ref (oM 0)]) ++ List.replicate (6 - (lg_sl ([.ref (oM 0)])).length) Slot.unset).toArray = ls at hl ⊢
  have hl : lv_has ls 6 [(0, .ref (oM 0))] := hl
  obtain ⟨QQ, hQQ⟩ : ∃ Q : State → Prop, Q = MQ below (qiW rr D (cMod Y oM mMz tk) A) ([.ref (oM 0)] : List Value).toArray s 0 0 A := ⟨_, rfl⟩
  rw [← hQQ]
  unfold MX5_laws at hM
  suffices hI : ∀ (H : Heap) (locs : List Loc), va_P D vwCl (cMod Y oM mM tk) H → va_S A s.heap H locs → W p l e (headSpec wsX5_laws rmX5_laws).room s m ([.ref (oM 0)] : List Value).toArray below meth c H locs 0 0 QQ (F0 m 0 ls []) from hI _ _ hP hS
  clear hP hS
  intro H locs hP hS
  refine lv_iconst (v := (0 : Int32)) hx hb dX5_laws_0 (by decide) ?_
  refine lv_istore_n (lv' := [(1, .int (0 : Int32)), (0, .ref (oM 0))]) hx hb dX5_laws_1 rfl hl (by decide) rfl (fun ls hl => ?_)
  refine lv_aload_n hx hb dX5_laws_2 rfl (lv_at hl 1 rfl) ?_
  obtain ⟨mM_1, hc2, hM⟩ := bnd1_at hM
  refine co_v (va_runV (As := []) (rest := []) ⟨hx, hb, hml, hown, hts⟩ (ctX5_putAside l D Y oM H.size mM tk mM_1 hc2) (cwV 0 hts gX5_laws_X5_putAside rfl rfl rfl (by decide +kernel) ⟨Nat.le_of_ble_eq_true rfl, Nat.le_of_ble_eq_true rfl⟩) (pcW_V0 (ci := 5) (q0 := 0) hK hP (hD.same rfl) rfl rfl) rfl rfl hl.1 rfl (lv_room (Nat.le_of_ble_eq_true rfl)) dX5_laws_3 ⟨Nat.zero_le _, Nat.zero_le _⟩) (hD.same rfl) hS hA (fun H locs hP hS => ?_)
  refine lv_iconst (v := (0 : Int32)) hx hb dX5_laws_6 (by decide) ?_
  refine lv_istore_n (lv' := [(2, .int (0 : Int32)), (1, .int (0 : Int32)), (0, .ref (oM 0))]) hx hb dX5_laws_7 rfl hl (by decide) rfl (fun ls hl => ?_)
  refine jn2_at (fun (x3 : Int32) (mM_4 : GS) => ∀ (H : Heap) (locs : List Loc) (ls : Array Slot), va_P D vwCl (cMod Y oM mM_4 tk) H → va_S A s.heap H locs → lv_has ls 6 [(0, .ref (oM 0)), (1, .int x3)] → W p l e (headSpec wsX5_laws rmX5_laws).room s m ([.ref (oM 0)] : List Value).toArray below meth c H locs 0 0 QQ (F0 m 136 ls [])) hM (fun x3 mM_4 hM H locs ls hP hS hl => ?_) (fun k5 hJ5 hM => ?_)
  · refine lv_aload_n hx hb dX5_laws_136 rfl (lv_at hl 0 rfl) ?_
    obtain ⟨mM_6, hc7, hM⟩ := bnd1_at hM
    refine co_v (va_runV (As := []) (rest := []) ⟨hx, hb, hml, hown, hts⟩ (ctX5_putBack l D Y oM H.size mM_4 tk mM_6 hc7) (cwV 0 hts gX5_laws_X5_putBack rfl rfl rfl (by decide +kernel) ⟨Nat.le_of_ble_eq_true rfl, Nat.le_of_ble_eq_true rfl⟩) (pcW_V0 (ci := 5) (q0 := 0) hK hP (hD.same rfl) rfl rfl) rfl rfl hl.1 rfl (lv_room (Nat.le_of_ble_eq_true rfl)) dX5_laws_137 ⟨Nat.zero_le _, Nat.zero_le _⟩) (hD.same rfl) hS hA (fun H locs hP hS => ?_)
    refine lv_iload_n hx hb dX5_laws_140 rfl (lv_at hl 1 rfl) ?_
    cases hM
    rw [hQQ]
    exact W.iret hx hb hr (fun t ht hW => ⟨⟨_, (), rfl, rfl, by show va_P D vwCl _ t.heap; rw [ht]; exact hP⟩, hS.F ht⟩) hS.2.2 dX5_laws_141
  · refine lq3_at (fun (x8 : Int32) (x9 : Int32) (mM_10 : GS) => ∀ (H : Heap) (locs : List Loc) (ls : Array Slot), va_P D vwCl (cMod Y oM mM_10 tk) H → va_S A s.heap H locs → lv_has ls 6 [(0, .ref (oM 0)), (1, .int x8), (2, .int x9)] → W p l e (headSpec wsX5_laws rmX5_laws).room s m ([.ref (oM 0)] : List Value).toArray below meth c H locs 0 0 QQ (F0 m 8 ls [])) (fun rec11 x8 x9 mM_10 ih11 hM H locs ls hP hS hl => ?_) FU (0 : Int32) (0 : Int32) mM_1 hM H locs ls hP hS (lv_sub hl [2, 1, 0] rfl)
    unfold BX5_laws_8 at hM
    refine lv_iload_n hx hb dX5_laws_8 rfl (lv_at hl 2 rfl) ?_
    refine lv_iconst (v := (3 : Int32)) hx hb dX5_laws_9 (by decide) ?_
    refine lv_icmp_ge (tgt := 136) hx hb dX5_laws_10 (by decide) (fun c12 => ?_) (fun c12 => ?_)
    · replace hM := if_at_pos hM c12
      exact hJ5 x8 mM_10 hM H locs ls hP hS (lv_sub hl [0, 1] rfl)
    · replace hM := if_at_neg hM c12
      refine lv_aload_n hx hb dX5_laws_13 rfl (lv_at hl 0 rfl) ?_
      obtain ⟨mM_13, hc14, hM⟩ := bnd1_at hM
      refine co_v (va_runV (As := []) (rest := []) ⟨hx, hb, hml, hown, hts⟩ (ctX5_begin l D Y oM H.size mM_10 tk mM_13 hc14) (cwV 0 hts gX5_laws_X5_begin rfl rfl rfl (by decide +kernel) ⟨Nat.le_of_ble_eq_true rfl, Nat.le_of_ble_eq_true rfl⟩) (pcW_V0 (ci := 5) (q0 := 0) hK hP (hD.same rfl) rfl rfl) rfl rfl hl.1 rfl (lv_room (Nat.le_of_ble_eq_true rfl)) dX5_laws_14 ⟨Nat.zero_le _, Nat.zero_le _⟩) (hD.same rfl) hS hA (fun H locs hP hS => ?_)
      refine lv_aload_n hx hb dX5_laws_17 rfl (lv_at hl 0 rfl) ?_
      refine lv_iload_n hx hb dX5_laws_18 rfl (lv_at hl 2 rfl) ?_
      refine va_put (ty := .int) hx hb hts hi5 tyX5 tyX5_ok nmX5 hown hK hP (hD.same rfl) hS 0 rfl rfl 34 (by decide) (hts (.fieldLink RX5 245 "NightPlotsModel" "triedLaw" "I") (List.mem_of_getElem? (i := 1) rfl)) (fun _ h9 => h9) rfl (by decide +kernel) rfl rfl (Nat.le_of_ble_eq_true rfl) dX5_laws_19 (fun H locs hP _ hS => ?_)
      obtain ⟨mM_15, emM_15⟩ : ∃ z : GS, z = (up2 mM_13 0 34 x9) := ⟨_, rfl⟩
      have hP : va_P D vwCl (cMod Y oM mM_15 tk) H := by rw [emM_15]; exact hP
      replace hM := nm_at hM emM_15
      refine lv_iconst (v := (1 : Int32)) hx hb dX5_laws_22 (by decide) ?_
      refine lv_istore_n (lv' := [(3, .int (1 : Int32)), (0, .ref (oM 0)), (1, .int x8), (2, .int x9)]) hx hb dX5_laws_23 rfl hl (by decide) rfl (fun ls hl => ?_)
      refine lv_iconst (v := (0 : Int32)) hx hb dX5_laws_24 (by decide) ?_
      refine lv_istore (lv' := [(4, .int (0 : Int32)), (3, .int (1 : Int32)), (0, .ref (oM 0)), (1, .int x8), (2, .int x9)]) hx hb dX5_laws_25 hl (by decide) rfl (fun ls hl => ?_)
      refine jn2_at (fun (x16 : Int32) (mM_17 : GS) => ∀ (H : Heap) (locs : List Loc) (ls : Array Slot), va_P D vwCl (cMod Y oM mM_17 tk) H → va_S A s.heap H locs → lv_has ls 6 [(0, .ref (oM 0)), (1, .int x8), (2, .int x9), (3, .int x16)] → W p l e (headSpec wsX5_laws rmX5_laws).room s m ([.ref (oM 0)] : List Value).toArray below meth c H locs 0 0 QQ (F0 m 116 ls [])) hM (fun x16 mM_17 hM H locs ls hP hS hl => ?_) (fun k18 hJ18 hM => ?_)
      · refine lv_iload_n hx hb dX5_laws_116 rfl (lv_at hl 1 rfl) ?_
        refine lv_iload_n hx hb dX5_laws_117 rfl (lv_at hl 3 rfl) ?_
        refine jn1_at (fun (x19 : Int32) => ∀ (H : Heap) (locs : List Loc) (ls : Array Slot), va_P D vwCl (cMod Y oM mM_17 tk) H → va_S A s.heap H locs → lv_has ls 6 [(0, .ref (oM 0)), (2, .int x9)] → W p l e (headSpec wsX5_laws rmX5_laws).room s m ([.ref (oM 0)] : List Value).toArray below meth c H locs 0 0 QQ (F0 m 128 ls [.int x19, .int x8])) hM (fun x19 hM H locs ls hP hS hl => ?_) (fun k20 hJ20 hM => ?_)
        · refine lv_ior hx hb dX5_laws_128 ?_
          refine lv_topi (fun x21 ex21 => ?_)
          replace hM := nm_at hM ex21
          refine lv_istore_n (lv' := [(1, .int x21), (0, .ref (oM 0)), (2, .int x9)]) hx hb dX5_laws_129 rfl hl (by decide) rfl (fun ls hl => ?_)
          obtain ⟨x22, ex22⟩ : ∃ z : Int32, z = (x9 + 1) := ⟨_, rfl⟩
          replace hM := nm_at hM ex22
          refine lv_iinc (v := x22) (lv' := [(2, .int x22), (1, .int x21), (0, .ref (oM 0))]) hx hb dX5_laws_130 hl (k := 2) rfl (by rw [ex22]; rfl) (by decide) rfl (fun ls hl => ?_)
          refine lv_goto (tgt := 8) hx hb dX5_laws_133 (by decide) ?_
          exact ih11 x21 x22 mM_17 hM H locs ls hP hS (lv_sub hl [2, 1, 0] rfl)
        · refine lv_if_eq (tgt := 127) hx hb dX5_laws_118 (by decide) (fun c23 => ?_) (fun c23 => ?_)
          · replace hM := if_at_pos hM c23
            refine lv_iconst (v := (0 : Int32)) hx hb dX5_laws_127 (by decide) ?_
            exact hJ20 (0 : Int32) hM H locs ls hP hS (lv_sub hl [0, 2] rfl)
          · replace hM := if_at_neg hM c23
            refine lv_iconst (v := (1 : Int32)) hx hb dX5_laws_121 (by decide) ?_
            refine lv_iload_n hx hb dX5_laws_122 rfl (lv_at hl 2 rfl) ?_
            refine lv_ishl hx hb dX5_laws_123 ?_
            refine lv_goto (tgt := 128) hx hb dX5_laws_124 (by decide) ?_
            exact hJ20 ((1 : Int32) <<< (x9 &&& 31)) hM H locs ls hP hS (lv_sub hl [0, 2] rfl)
      · refine lq3_at (fun (x24 : Int32) (x25 : Int32) (mM_26 : GS) => ∀ (H : Heap) (locs : List Loc) (ls : Array Slot), va_P D vwCl (cMod Y oM mM_26 tk) H → va_S A s.heap H locs → lv_has ls 6 [(0, .ref (oM 0)), (1, .int x8), (2, .int x9), (3, .int x24), (4, .int x25)] → W p l e (headSpec wsX5_laws rmX5_laws).room s m ([.ref (oM 0)] : List Value).toArray below meth c H locs 0 0 QQ (F0 m 27 ls [])) (fun rec27 x24 x25 mM_26 ih27 hM H locs ls hP hS hl => ?_) FU (1 : Int32) (0 : Int32) mM_15 hM H locs ls hP hS (lv_sub hl [2, 3, 4, 1, 0] rfl)
        unfold BX5_laws_27 at hM
        refine lv_iload hx hb dX5_laws_27 (lv_at hl 4 rfl) ?_
        refine lv_bipush (v := (100 : Int32)) hx hb dX5_laws_29 (by decide) ?_
        refine lv_icmp_ge (tgt := 116) hx hb dX5_laws_31 (by decide) (fun c28 => ?_) (fun c28 => ?_)
        · replace hM := if_at_pos hM c28
          exact hJ18 x24 mM_26 hM H locs ls hP hS (lv_sub hl [0, 1, 2, 3] rfl)
        · replace hM := if_at_neg hM c28
          refine lv_iconst (v := (0 : Int32)) hx hb dX5_laws_34 (by decide) ?_
          refine lv_istore (lv' := [(5, .int (0 : Int32)), (0, .ref (oM 0)), (1, .int x8), (2, .int x9), (3, .int x24), (4, .int x25)]) hx hb dX5_laws_35 hl (by decide) rfl (fun ls hl => ?_)
          refine jn1_at (fun (x29 : Int32) => ∀ (H : Heap) (locs : List Loc) (ls : Array Slot), va_P D vwCl (cMod Y oM mM_26 tk) H → va_S A s.heap H locs → lv_has ls 6 [(0, .ref (oM 0)), (1, .int x8), (2, .int x9), (3, .int x29), (4, .int x25)] → W p l e (headSpec wsX5_laws rmX5_laws).room s m ([.ref (oM 0)] : List Value).toArray below meth c H locs 0 0 QQ (F0 m 106 ls [])) hM (fun x29 hM H locs ls hP hS hl => ?_) (fun k30 hJ30 hM => ?_)
          · refine lv_aload_n hx hb dX5_laws_106 rfl (lv_at hl 0 rfl) ?_
            obtain ⟨mM_31, hc32, hM⟩ := bnd1_at hM
            refine co_v (va_runV (As := []) (rest := []) ⟨hx, hb, hml, hown, hts⟩ (ctX5_goNight l D Y oM H.size mM_26 tk mM_31 hc32) (cwV 0 hts gX5_laws_X5_goNight rfl rfl rfl (by decide +kernel) ⟨Nat.le_of_ble_eq_true rfl, Nat.le_of_ble_eq_true rfl⟩) (pcW_V0 (ci := 5) (q0 := 0) hK hP (hD.same rfl) rfl rfl) rfl rfl hl.1 rfl (lv_room (Nat.le_of_ble_eq_true rfl)) dX5_laws_107 ⟨Nat.zero_le _, Nat.zero_le _⟩) (hD.same rfl) hS hA (fun H locs hP hS => ?_)
            obtain ⟨x33, ex33⟩ : ∃ z : Int32, z = (x25 + 1) := ⟨_, rfl⟩
            replace hM := nm_at hM ex33
            refine lv_iinc (v := x33) (lv' := [(4, .int x33), (0, .ref (oM 0)), (1, .int x8), (2, .int x9), (3, .int x29)]) hx hb dX5_laws_110 hl (k := 4) rfl (by rw [ex33]; rfl) (by decide) rfl (fun ls hl => ?_)
            refine lv_goto (tgt := 27) hx hb dX5_laws_113 (by decide) ?_
            exact ih27 x29 x33 mM_31 hM H locs ls hP hS (lv_sub hl [1, 2, 3, 4, 0] rfl)
          · refine lq2_at (fun (x34 : Int32) (x35 : Int32) => ∀ (H : Heap) (locs : List Loc) (ls : Array Slot), va_P D vwCl (cMod Y oM mM_26 tk) H → va_S A s.heap H locs → lv_has ls 6 [(0, .ref (oM 0)), (1, .int x8), (2, .int x9), (3, .int x34), (4, .int x25), (5, .int x35)] → W p l e (headSpec wsX5_laws rmX5_laws).room s m ([.ref (oM 0)] : List Value).toArray below meth c H locs 0 0 QQ (F0 m 37 ls [])) (fun rec36 x34 x35 ih36 hM H locs ls hP hS hl => ?_) FU x24 (0 : Int32) hM H locs ls hP hS (lv_sub hl [1, 2, 3, 4, 5, 0] rfl)
            unfold BX5_laws_37 at hM
            refine lv_iload hx hb dX5_laws_37 (lv_at hl 5 rfl) ?_
            refine lv_aload_n hx hb dX5_laws_39 rfl (lv_at hl 0 rfl) ?_
            refine va_get hx hb hts hi5 hown hK hP 0 rfl rfl 30 (by decide) (hts (.fieldLink RX5 212 "NightPlotsModel" "sights" "I") (List.mem_of_getElem? (i := 2) rfl)) (fun _ h9 => h9) rfl dX5_laws_40 ?_
            refine lv_icmp_ge (tgt := 106) hx hb dX5_laws_43 (by decide) (fun c37 => ?_) (fun c37 => ?_)
            · replace hM := if_at_pos hM c37
              exact hJ30 x34 hM H locs ls hP hS (lv_sub hl [0, 1, 2, 3, 4] rfl)
            · replace hM := if_at_neg hM c37
              refine lv_iload_n hx hb dX5_laws_46 rfl (lv_at hl 3 rfl) ?_
              refine jn1_at (fun (x38 : Int32) => ∀ (H : Heap) (locs : List Loc) (ls : Array Slot), va_P D vwCl (cMod Y oM mM_26 tk) H → va_S A s.heap H locs → lv_has ls 6 [(0, .ref (oM 0)), (1, .int x8), (2, .int x9), (4, .int x25), (5, .int x35)] → W p l e (headSpec wsX5_laws rmX5_laws).room s m ([.ref (oM 0)] : List Value).toArray below meth c H locs 0 0 QQ (F0 m 99 ls [.int x38])) hM (fun x38 hM H locs ls hP hS hl => ?_) (fun k39 hJ39 hM => ?_)
              · refine lv_istore_n (lv' := [(3, .int x38), (0, .ref (oM 0)), (1, .int x8), (2, .int x9), (4, .int x25), (5, .int x35)]) hx hb dX5_laws_99 rfl hl (by decide) rfl (fun ls hl => ?_)
                obtain ⟨x40, ex40⟩ : ∃ z : Int32, z = (x35 + 1) := ⟨_, rfl⟩
                replace hM := nm_at hM ex40
                refine lv_iinc (v := x40) (lv' := [(5, .int x40), (3, .int x38), (0, .ref (oM 0)), (1, .int x8), (2, .int x9), (4, .int x25)]) hx hb dX5_laws_100 hl (k := 5) rfl (by rw [ex40]; rfl) (by decide) rfl (fun ls hl => ?_)
                refine lv_goto (tgt := 37) hx hb dX5_laws_103 (by decide) ?_
                exact ih36 x38 x40 hM H locs ls hP hS (lv_sub hl [2, 3, 4, 1, 5, 0] rfl)
              · refine jn0_at (∀ (H : Heap) (locs : List Loc) (ls : Array Slot), va_P D vwCl (cMod Y oM mM_26 tk) H → va_S A s.heap H locs → lv_has ls 6 [(0, .ref (oM 0)), (1, .int x8), (2, .int x9), (4, .int x25), (5, .int x35)] → W p l e (headSpec wsX5_laws rmX5_laws).room s m ([.ref (oM 0)] : List Value).toArray below meth c H locs 0 0 QQ (F0 m 98 ls [])) hM (fun  hM H locs ls hP hS hl => ?_) (fun k41 hJ41 hM => ?_)
                · refine lv_iconst (v := (0 : Int32)) hx hb dX5_laws_98 (by decide) ?_
                  exact hJ39 (0 : Int32) hM H locs ls hP hS (lv_sub hl [0, 1, 2, 3, 4] rfl)
                · refine lv_if_eq (tgt := 98) hx hb dX5_laws_47 (by decide) (fun c42 => ?_) (fun c42 => ?_)
                  · replace hM := if_at_pos hM c42
                    exact hJ41 hM H locs ls hP hS (lv_sub hl [0, 1, 2, 4, 5] rfl)
                  · replace hM := if_at_neg hM c42
                    refine lv_aload_n hx hb dX5_laws_50 rfl (lv_at hl 0 rfl) ?_
                    refine va_get hx hb hts hi5 hown hK hP 0 rfl rfl 31 (by decide) (hts (.fieldLink RX5 51 "NightPlotsModel" "sight" "[I") (List.mem_of_getElem? (i := 3) rfl)) (fun _ h9 => h9) rfl dX5_laws_51 ?_
                    refine lv_iconst (v := (3 : Int32)) hx hb dX5_laws_54 (by decide) ?_
                    refine lv_iload hx hb dX5_laws_55 (lv_at hl 5 rfl) ?_
                    refine lv_imul hx hb dX5_laws_57 ?_
                    refine lv_iconst (v := (2 : Int32)) hx hb dX5_laws_58 (by decide) ?_
                    refine lv_iadd hx hb dX5_laws_59 ?_
                    obtain ⟨hi_43, hM⟩ := chkI_at hM
                    refine va_iald hx hb hK hP 12 0 rfl rfl hi_43 dX5_laws_60 ?_
                    refine lv_iload hx hb dX5_laws_61 (lv_at hl 4 rfl) ?_
                    refine jn0_at (∀ (H : Heap) (locs : List Loc) (ls : Array Slot), va_P D vwCl (cMod Y oM mM_26 tk) H → va_S A s.heap H locs → lv_has ls 6 [(0, .ref (oM 0)), (1, .int x8), (2, .int x9), (4, .int x25), (5, .int x35)] → W p l e (headSpec wsX5_laws rmX5_laws).room s m ([.ref (oM 0)] : List Value).toArray below meth c H locs 0 0 QQ (F0 m 94 ls [])) hM (fun  hM H locs ls hP hS hl => ?_) (fun k44 hJ44 hM => ?_)
                    · refine lv_iconst (v := (1 : Int32)) hx hb dX5_laws_94 (by decide) ?_
                      refine lv_goto (tgt := 99) hx hb dX5_laws_95 (by decide) ?_
                      exact hJ39 (1 : Int32) hM H locs ls hP hS (lv_sub hl [0, 1, 2, 3, 4] rfl)
                    · refine lv_icmp_ne (tgt := 94) hx hb dX5_laws_63 (by decide) (fun c45 => ?_) (fun c45 => ?_)
                      · replace hM := if_at_neg hM c45
                        exact hJ44 hM H locs ls hP hS (lv_sub hl [0, 1, 2, 4, 5] rfl)
                      · replace hM := if_at_pos hM c45
                        refine lv_aload_n hx hb dX5_laws_66 rfl (lv_at hl 0 rfl) ?_
                        refine va_get hx hb hts hi5 hown hK hP 0 rfl rfl 26 (by decide) (hts (.fieldLink RX5 38 "NightPlotsModel" "now" "[I") (List.mem_of_getElem? (i := 4) rfl)) (fun _ h9 => h9) rfl dX5_laws_67 ?_
                        refine lv_aload_n hx hb dX5_laws_70 rfl (lv_at hl 0 rfl) ?_
                        refine va_get hx hb hts hi5 hown hK hP 0 rfl rfl 31 (by decide) (hts (.fieldLink RX5 51 "NightPlotsModel" "sight" "[I") (List.mem_of_getElem? (i := 3) rfl)) (fun _ h9 => h9) rfl dX5_laws_71 ?_
                        refine lv_iconst (v := (3 : Int32)) hx hb dX5_laws_74 (by decide) ?_
                        refine lv_iload hx hb dX5_laws_75 (lv_at hl 5 rfl) ?_
                        refine lv_imul hx hb dX5_laws_77 ?_
                        obtain ⟨hi_46, hM⟩ := chkI_at hM
                        refine va_iald hx hb hK hP 12 0 rfl rfl hi_46 dX5_laws_78 ?_
                        obtain ⟨hi_47, hM⟩ := chkI_at hM
                        refine va_iald hx hb hK hP 8 0 rfl rfl hi_47 dX5_laws_79 ?_
                        refine lv_aload_n hx hb dX5_laws_80 rfl (lv_at hl 0 rfl) ?_
                        refine va_get hx hb hts hi5 hown hK hP 0 rfl rfl 31 (by decide) (hts (.fieldLink RX5 51 "NightPlotsModel" "sight" "[I") (List.mem_of_getElem? (i := 3) rfl)) (fun _ h9 => h9) rfl dX5_laws_81 ?_
                        refine lv_iconst (v := (3 : Int32)) hx hb dX5_laws_84 (by decide) ?_
                        refine lv_iload hx hb dX5_laws_85 (lv_at hl 5 rfl) ?_
                        refine lv_imul hx hb dX5_laws_87 ?_
                        refine lv_iconst (v := (1 : Int32)) hx hb dX5_laws_88 (by decide) ?_
                        refine lv_iadd hx hb dX5_laws_89 ?_
                        obtain ⟨hi_48, hM⟩ := chkI_at hM
                        refine va_iald hx hb hK hP 12 0 rfl rfl hi_48 dX5_laws_90 ?_
                        refine lv_icmp_ne (tgt := 98) hx hb dX5_laws_91 (by decide) (fun c49 => ?_) (fun c49 => ?_)
                        · replace hM := if_at_neg hM c49
                          exact hJ41 hM H locs ls hP hS (lv_sub hl [0, 1, 2, 4, 5] rfl)
                        · replace hM := if_at_pos hM c49
                          exact hJ44 hM H locs ls hP hS (lv_sub hl [0, 1, 2, 4, 5] rfl)
noncomputable def MX5_count (mM : GS) (i1 : Int32) : Option (Int32) := if i1 = (0 : Int32) then (some ((mM 0 0))) else (if i1 = (1 : Int32) then (some ((mM 0 2))) else (if i1 = (2 : Int32) then (some ((mM 0 5))) else (if i1 = (3 : Int32) then (some ((mM 0 7))) else (if i1 = (4 : Int32) then (some ((mM 0 9))) else (if i1 = (5 : Int32) then (chkI (16 : Int32) 19 (some ((mM 8 (16 : Int32).toNatClampNeg)))) else (if i1 = (6 : Int32) then (jn1 (fun (x3 : Int32) => some (x3)) (fun k4 => if (mM 0 9) = (1 : Int32) then (chkI (17 : Int32) 19 (k4 (mM 8 (17 : Int32).toNatClampNeg))) else (k4 (-1 : Int32)))) else (if i1 = (7 : Int32) then (jn1 (fun (x7 : Int32) => some (x7)) (fun k8 => if (mM 0 9) = (3 : Int32) then (chkI (18 : Int32) 19 (k8 (mM 8 (18 : Int32).toNatClampNeg))) else (k8 (-1 : Int32)))) else (if i1 = (8 : Int32) then (some ((mM 0 30))) else (if i1 = (9 : Int32) then (bnd1 (MX5_full mM) fun (r11 : Int32) => some (((((1 : Int32) <<< ((mM 0 0) &&& 31)) - (1 : Int32)) &&& (r11 ^^^ (-1 : Int32))))) else (if i1 = (10 : Int32) then (some ((mM 0 11))) else (some ((-3 : Int32)))))))))))))
abbrev rmX5_count : Room := { frames := 3, cells := 0, slots := 0, locals := 120 }
set_option maxHeartbeats 4000000 in
set_option maxRecDepth 100000 in
theorem ctX5_count (l : Launch) (D : va_G) (Y : Nat → ClassId) (oM : Nat → Nat) (sz : Nat) (mM : GS) (tk : Int64) (i1 : Int32) (rr : Int32) (hM : MX5_count mM i1 = some (rr)) : Met l yX5_count wsX5_count rmX5_count (pcW [.ref (oM 0), .int i1] sz D Y (cMod Y oM mM tk)) (qiW rr D (cMod Y oM mM tk) (va_A (cMod Y oM mM tk) sz)) 0 0 (va_A (cMod Y oM mM tk) sz) := by
  refine Met.ofW (cc := cX5_count) (maxL := 2) (ret := (some .int)) (by decide) rfl ?_
  intro p e s m args below meth c s₁ B hml hv
  obtain ⟨rfl, hsz, hP, hK, hD0⟩ := hv
  have hx := B.exec
  have hb := B.bytes
  have hr := B.returns
  have hts := atoms_spec (ws := wsX5_count) B.pre
  have hown : s.vm.findClass RX5 = some m.cls := findClass_of_methodNamed B.named
  have hlocks := B.notSynchronized
  subst hsz
  have hD := hD0.self (sz := s.heap.size)
  generalize hAe : va_A (cMod Y oM mM tk) s.heap.size = A at hD ⊢
  have hA : ∀ q : Nat, s.heap.size ≤ q → A q := fun q h => by rw [← hAe]; exact Or.inr h
  have hS : va_S A s.heap s.heap [] := va_S.rf
  have hi5 : ∀ w ∈ wsX50, w ∈ wsX5_count := fun w h => List.mem_cons_of_mem _ (List.mem_append_right _ h)
  have hl := lv_entry ([.ref (oM 0), .int i1]) (n := 2) (Nat.le_of_ble_eq_true rfl)
  rw [lg_entry_eq]
  generalize (lg_sl ([.ref (oM 0), .int i1]) ++ List.replicate (2 - (lg_sl ([.ref (oM 0), .int i1])).length) Slot.unset).toArray = ls at hl ⊢
  have hl : lv_has ls 2 [(0, .ref (oM 0)), (1, .int i1)] := hl
  obtain ⟨QQ, hQQ⟩ : ∃ Q : State → Prop, Q = MQ below (qiW rr D (cMod Y oM mM tk) A) ([.ref (oM 0), .int i1] : List Value).toArray s 0 0 A := ⟨_, rfl⟩
  rw [← hQQ]
  unfold MX5_count at hM
  suffices hI : ∀ (H : Heap) (locs : List Loc), va_P D vwCl (cMod Y oM mM tk) H → va_S A s.heap H locs → W p l e (headSpec wsX5_count rmX5_count).room s m ([.ref (oM 0), .int i1] : List Value).toArray below meth c H locs 0 0 QQ (F0 m 0 ls []) from hI _ _ hP hS
  clear hP hS
  intro H locs hP hS
  refine lv_iload_n hx hb dX5_count_0 rfl (lv_at hl 1 rfl) ?_
  by_cases c1_0 : i1 = (0 : Int32)
  · replace hM := if_at_pos hM c1_0
    refine lv_tableIn (off := 59) (tgt := 60) hx hb dX5_count_1 (by rw [c1_0]; decide) (by rw [c1_0]; decide) (by rw [c1_0]; rfl) (by decide) ?_
    refine lv_aload_n hx hb dX5_count_60 rfl (lv_at hl 0 rfl) ?_
    refine va_get hx hb hts hi5 hown hK hP 0 rfl rfl 0 (by decide) (hts (.fieldLink RX5 7 "NightPlotsModel" "plots" "I") (List.mem_of_getElem? (i := 1) rfl)) (fun _ h9 => h9) rfl dX5_count_61 ?_
    cases hM
    rw [hQQ]
    exact W.iret hx hb hr (fun t ht hW => ⟨⟨_, (), rfl, rfl, by show va_P D vwCl _ t.heap; rw [ht]; exact hP⟩, hS.F ht⟩) hS.2.2 dX5_count_64
  · replace hM := if_at_neg hM c1_0
    by_cases c1_1 : i1 = (1 : Int32)
    · replace hM := if_at_pos hM c1_1
      refine lv_tableIn (off := 64) (tgt := 65) hx hb dX5_count_1 (by rw [c1_1]; decide) (by rw [c1_1]; decide) (by rw [c1_1]; rfl) (by decide) ?_
      refine lv_aload_n hx hb dX5_count_65 rfl (lv_at hl 0 rfl) ?_
      refine va_get hx hb hts hi5 hown hK hP 0 rfl rfl 2 (by decide) (hts (.fieldLink RX5 78 "NightPlotsModel" "houses" "I") (List.mem_of_getElem? (i := 2) rfl)) (fun _ h9 => h9) rfl dX5_count_66 ?_
      cases hM
      rw [hQQ]
      exact W.iret hx hb hr (fun t ht hW => ⟨⟨_, (), rfl, rfl, by show va_P D vwCl _ t.heap; rw [ht]; exact hP⟩, hS.F ht⟩) hS.2.2 dX5_count_69
    · replace hM := if_at_neg hM c1_1
      by_cases c1_2 : i1 = (2 : Int32)
      · replace hM := if_at_pos hM c1_2
        refine lv_tableIn (off := 69) (tgt := 70) hx hb dX5_count_1 (by rw [c1_2]; decide) (by rw [c1_2]; decide) (by rw [c1_2]; rfl) (by decide) ?_
        refine lv_aload_n hx hb dX5_count_70 rfl (lv_at hl 0 rfl) ?_
        refine va_get hx hb hts hi5 hown hK hP 0 rfl rfl 5 (by decide) (hts (.fieldLink RX5 85 "NightPlotsModel" "paths" "I") (List.mem_of_getElem? (i := 3) rfl)) (fun _ h9 => h9) rfl dX5_count_71 ?_
        cases hM
        rw [hQQ]
        exact W.iret hx hb hr (fun t ht hW => ⟨⟨_, (), rfl, rfl, by show va_P D vwCl _ t.heap; rw [ht]; exact hP⟩, hS.F ht⟩) hS.2.2 dX5_count_74
      · replace hM := if_at_neg hM c1_2
        by_cases c1_3 : i1 = (3 : Int32)
        · replace hM := if_at_pos hM c1_3
          refine lv_tableIn (off := 74) (tgt := 75) hx hb dX5_count_1 (by rw [c1_3]; decide) (by rw [c1_3]; decide) (by rw [c1_3]; rfl) (by decide) ?_
          refine lv_aload_n hx hb dX5_count_75 rfl (lv_at hl 0 rfl) ?_
          refine va_get hx hb hts hi5 hown hK hP 0 rfl rfl 7 (by decide) (hts (.fieldLink RX5 88 "NightPlotsModel" "feuds" "I") (List.mem_of_getElem? (i := 4) rfl)) (fun _ h9 => h9) rfl dX5_count_76 ?_
          cases hM
          rw [hQQ]
          exact W.iret hx hb hr (fun t ht hW => ⟨⟨_, (), rfl, rfl, by show va_P D vwCl _ t.heap; rw [ht]; exact hP⟩, hS.F ht⟩) hS.2.2 dX5_count_79
        · replace hM := if_at_neg hM c1_3
          by_cases c1_4 : i1 = (4 : Int32)
          · replace hM := if_at_pos hM c1_4
            refine lv_tableIn (off := 79) (tgt := 80) hx hb dX5_count_1 (by rw [c1_4]; decide) (by rw [c1_4]; decide) (by rw [c1_4]; rfl) (by decide) ?_
            refine lv_aload_n hx hb dX5_count_80 rfl (lv_at hl 0 rfl) ?_
            refine va_get hx hb hts hi5 hown hK hP 0 rfl rfl 9 (by decide) (hts (.fieldLink RX5 91 "NightPlotsModel" "law" "I") (List.mem_of_getElem? (i := 5) rfl)) (fun _ h9 => h9) rfl dX5_count_81 ?_
            cases hM
            rw [hQQ]
            exact W.iret hx hb hr (fun t ht hW => ⟨⟨_, (), rfl, rfl, by show va_P D vwCl _ t.heap; rw [ht]; exact hP⟩, hS.F ht⟩) hS.2.2 dX5_count_84
          · replace hM := if_at_neg hM c1_4
            by_cases c1_5 : i1 = (5 : Int32)
            · replace hM := if_at_pos hM c1_5
              refine lv_tableIn (off := 84) (tgt := 85) hx hb dX5_count_1 (by rw [c1_5]; decide) (by rw [c1_5]; decide) (by rw [c1_5]; rfl) (by decide) ?_
              refine lv_aload_n hx hb dX5_count_85 rfl (lv_at hl 0 rfl) ?_
              refine va_get hx hb hts hi5 hown hK hP 0 rfl rfl 26 (by decide) (hts (.fieldLink RX5 38 "NightPlotsModel" "now" "[I") (List.mem_of_getElem? (i := 6) rfl)) (fun _ h9 => h9) rfl dX5_count_86 ?_
              refine lv_bipush (v := (16 : Int32)) hx hb dX5_count_89 (by decide) ?_
              obtain ⟨hi_2, hM⟩ := chkI_at hM
              refine va_iald hx hb hK hP 8 0 rfl rfl hi_2 dX5_count_91 ?_
              cases hM
              rw [hQQ]
              exact W.iret hx hb hr (fun t ht hW => ⟨⟨_, (), rfl, rfl, by show va_P D vwCl _ t.heap; rw [ht]; exact hP⟩, hS.F ht⟩) hS.2.2 dX5_count_92
            · replace hM := if_at_neg hM c1_5
              by_cases c1_6 : i1 = (6 : Int32)
              · replace hM := if_at_pos hM c1_6
                refine lv_tableIn (off := 92) (tgt := 93) hx hb dX5_count_1 (by rw [c1_6]; decide) (by rw [c1_6]; decide) (by rw [c1_6]; rfl) (by decide) ?_
                refine lv_aload_n hx hb dX5_count_93 rfl (lv_at hl 0 rfl) ?_
                refine va_get hx hb hts hi5 hown hK hP 0 rfl rfl 9 (by decide) (hts (.fieldLink RX5 91 "NightPlotsModel" "law" "I") (List.mem_of_getElem? (i := 5) rfl)) (fun _ h9 => h9) rfl dX5_count_94 ?_
                refine lv_iconst (v := (1 : Int32)) hx hb dX5_count_97 (by decide) ?_
                refine jn1_at (fun (x3 : Int32) => ∀ (H : Heap) (locs : List Loc) (ls : Array Slot), va_P D vwCl (cMod Y oM mM tk) H → va_S A s.heap H locs → lv_has ls 2 [] → W p l e (headSpec wsX5_count rmX5_count).room s m ([.ref (oM 0), .int i1] : List Value).toArray below meth c H locs 0 0 QQ (F0 m 112 ls [.int x3])) hM (fun x3 hM H locs ls hP hS hl => ?_) (fun k4 hJ4 hM => ?_)
                · cases hM
                  rw [hQQ]
                  exact W.iret hx hb hr (fun t ht hW => ⟨⟨_, (), rfl, rfl, by show va_P D vwCl _ t.heap; rw [ht]; exact hP⟩, hS.F ht⟩) hS.2.2 dX5_count_112
                · refine lv_icmp_ne (tgt := 111) hx hb dX5_count_98 (by decide) (fun c5 => ?_) (fun c5 => ?_)
                  · replace hM := if_at_neg hM c5
                    refine lv_iconst (v := (-1 : Int32)) hx hb dX5_count_111 (by decide) ?_
                    exact hJ4 (-1 : Int32) hM H locs ls hP hS (lv_sub hl [] rfl)
                  · replace hM := if_at_pos hM c5
                    refine lv_aload_n hx hb dX5_count_101 rfl (lv_at hl 0 rfl) ?_
                    refine va_get hx hb hts hi5 hown hK hP 0 rfl rfl 26 (by decide) (hts (.fieldLink RX5 38 "NightPlotsModel" "now" "[I") (List.mem_of_getElem? (i := 6) rfl)) (fun _ h9 => h9) rfl dX5_count_102 ?_
                    refine lv_bipush (v := (17 : Int32)) hx hb dX5_count_105 (by decide) ?_
                    obtain ⟨hi_6, hM⟩ := chkI_at hM
                    refine va_iald hx hb hK hP 8 0 rfl rfl hi_6 dX5_count_107 ?_
                    refine lv_goto (tgt := 112) hx hb dX5_count_108 (by decide) ?_
                    exact hJ4 (mM 8 (17 : Int32).toNatClampNeg) hM H locs ls hP hS (lv_sub hl [] rfl)
              · replace hM := if_at_neg hM c1_6
                by_cases c1_7 : i1 = (7 : Int32)
                · replace hM := if_at_pos hM c1_7
                  refine lv_tableIn (off := 112) (tgt := 113) hx hb dX5_count_1 (by rw [c1_7]; decide) (by rw [c1_7]; decide) (by rw [c1_7]; rfl) (by decide) ?_
                  refine lv_aload_n hx hb dX5_count_113 rfl (lv_at hl 0 rfl) ?_
                  refine va_get hx hb hts hi5 hown hK hP 0 rfl rfl 9 (by decide) (hts (.fieldLink RX5 91 "NightPlotsModel" "law" "I") (List.mem_of_getElem? (i := 5) rfl)) (fun _ h9 => h9) rfl dX5_count_114 ?_
                  refine lv_iconst (v := (3 : Int32)) hx hb dX5_count_117 (by decide) ?_
                  refine jn1_at (fun (x7 : Int32) => ∀ (H : Heap) (locs : List Loc) (ls : Array Slot), va_P D vwCl (cMod Y oM mM tk) H → va_S A s.heap H locs → lv_has ls 2 [] → W p l e (headSpec wsX5_count rmX5_count).room s m ([.ref (oM 0), .int i1] : List Value).toArray below meth c H locs 0 0 QQ (F0 m 132 ls [.int x7])) hM (fun x7 hM H locs ls hP hS hl => ?_) (fun k8 hJ8 hM => ?_)
                  · cases hM
                    rw [hQQ]
                    exact W.iret hx hb hr (fun t ht hW => ⟨⟨_, (), rfl, rfl, by show va_P D vwCl _ t.heap; rw [ht]; exact hP⟩, hS.F ht⟩) hS.2.2 dX5_count_132
                  · refine lv_icmp_ne (tgt := 131) hx hb dX5_count_118 (by decide) (fun c9 => ?_) (fun c9 => ?_)
                    · replace hM := if_at_neg hM c9
                      refine lv_iconst (v := (-1 : Int32)) hx hb dX5_count_131 (by decide) ?_
                      exact hJ8 (-1 : Int32) hM H locs ls hP hS (lv_sub hl [] rfl)
                    · replace hM := if_at_pos hM c9
                      refine lv_aload_n hx hb dX5_count_121 rfl (lv_at hl 0 rfl) ?_
                      refine va_get hx hb hts hi5 hown hK hP 0 rfl rfl 26 (by decide) (hts (.fieldLink RX5 38 "NightPlotsModel" "now" "[I") (List.mem_of_getElem? (i := 6) rfl)) (fun _ h9 => h9) rfl dX5_count_122 ?_
                      refine lv_bipush (v := (18 : Int32)) hx hb dX5_count_125 (by decide) ?_
                      obtain ⟨hi_10, hM⟩ := chkI_at hM
                      refine va_iald hx hb hK hP 8 0 rfl rfl hi_10 dX5_count_127 ?_
                      refine lv_goto (tgt := 132) hx hb dX5_count_128 (by decide) ?_
                      exact hJ8 (mM 8 (18 : Int32).toNatClampNeg) hM H locs ls hP hS (lv_sub hl [] rfl)
                · replace hM := if_at_neg hM c1_7
                  by_cases c1_8 : i1 = (8 : Int32)
                  · replace hM := if_at_pos hM c1_8
                    refine lv_tableIn (off := 132) (tgt := 133) hx hb dX5_count_1 (by rw [c1_8]; decide) (by rw [c1_8]; decide) (by rw [c1_8]; rfl) (by decide) ?_
                    refine lv_aload_n hx hb dX5_count_133 rfl (lv_at hl 0 rfl) ?_
                    refine va_get hx hb hts hi5 hown hK hP 0 rfl rfl 30 (by decide) (hts (.fieldLink RX5 212 "NightPlotsModel" "sights" "I") (List.mem_of_getElem? (i := 7) rfl)) (fun _ h9 => h9) rfl dX5_count_134 ?_
                    cases hM
                    rw [hQQ]
                    exact W.iret hx hb hr (fun t ht hW => ⟨⟨_, (), rfl, rfl, by show va_P D vwCl _ t.heap; rw [ht]; exact hP⟩, hS.F ht⟩) hS.2.2 dX5_count_137
                  · replace hM := if_at_neg hM c1_8
                    by_cases c1_9 : i1 = (9 : Int32)
                    · replace hM := if_at_pos hM c1_9
                      refine lv_tableIn (off := 137) (tgt := 138) hx hb dX5_count_1 (by rw [c1_9]; decide) (by rw [c1_9]; decide) (by rw [c1_9]; rfl) (by decide) ?_
                      refine lv_iconst (v := (1 : Int32)) hx hb dX5_count_138 (by decide) ?_
                      refine lv_aload_n hx hb dX5_count_139 rfl (lv_at hl 0 rfl) ?_
                      refine va_get hx hb hts hi5 hown hK hP 0 rfl rfl 0 (by decide) (hts (.fieldLink RX5 7 "NightPlotsModel" "plots" "I") (List.mem_of_getElem? (i := 1) rfl)) (fun _ h9 => h9) rfl dX5_count_140 ?_
                      refine lv_ishl hx hb dX5_count_143 ?_
                      refine lv_iconst (v := (1 : Int32)) hx hb dX5_count_144 (by decide) ?_
                      refine lv_isub hx hb dX5_count_145 ?_
                      refine lv_aload_n hx hb dX5_count_146 rfl (lv_at hl 0 rfl) ?_
                      obtain ⟨r11, hc12, hM⟩ := bnd1_at hM
                      refine co_i (va_runV (As := []) (rest := [.int (((1 : Int32) <<< ((mM 0 0) &&& 31)) - (1 : Int32))]) ⟨hx, hb, hml, hown, hts⟩ (ctX5_full l D Y oM H.size mM tk r11 hc12) (cwV 0 hts gX5_count_X5_full rfl rfl rfl (by decide +kernel) ⟨Nat.le_of_ble_eq_true rfl, Nat.le_of_ble_eq_true rfl⟩) (pcW_V0 (ci := 5) (q0 := 0) hK hP (hD.same rfl) rfl rfl) rfl rfl hl.1 rfl (lv_room (Nat.le_of_ble_eq_true rfl)) dX5_count_147 ⟨Nat.zero_le _, Nat.zero_le _⟩) (hD.same rfl) hS hA (fun H locs hP hS => ?_)
                      refine lv_iconst (v := (-1 : Int32)) hx hb dX5_count_150 (by decide) ?_
                      refine lv_ixor hx hb dX5_count_151 ?_
                      refine lv_iand hx hb dX5_count_152 ?_
                      cases hM
                      rw [hQQ]
                      exact W.iret hx hb hr (fun t ht hW => ⟨⟨_, (), rfl, rfl, by show va_P D vwCl _ t.heap; rw [ht]; exact hP⟩, hS.F ht⟩) hS.2.2 dX5_count_153
                    · replace hM := if_at_neg hM c1_9
                      by_cases c1_10 : i1 = (10 : Int32)
                      · replace hM := if_at_pos hM c1_10
                        refine lv_tableIn (off := 153) (tgt := 154) hx hb dX5_count_1 (by rw [c1_10]; decide) (by rw [c1_10]; decide) (by rw [c1_10]; rfl) (by decide) ?_
                        refine lv_aload_n hx hb dX5_count_154 rfl (lv_at hl 0 rfl) ?_
                        refine va_get hx hb hts hi5 hown hK hP 0 rfl rfl 11 (by decide) (hts (.fieldLink RX5 94 "NightPlotsModel" "bytes" "I") (List.mem_of_getElem? (i := 8) rfl)) (fun _ h9 => h9) rfl dX5_count_155 ?_
                        cases hM
                        rw [hQQ]
                        exact W.iret hx hb hr (fun t ht hW => ⟨⟨_, (), rfl, rfl, by show va_P D vwCl _ t.heap; rw [ht]; exact hP⟩, hS.F ht⟩) hS.2.2 dX5_count_158
                      · replace hM := if_at_neg hM c1_10
                        refine lv_tableOut (tgt := 159) hx hb dX5_count_1 (by have n1_0 := lv_neT (a := 0) c1_0 rfl; have n1_1 := lv_neT (a := 1) c1_1 rfl; have n1_2 := lv_neT (a := 2) c1_2 rfl; have n1_3 := lv_neT (a := 3) c1_3 rfl; have n1_4 := lv_neT (a := 4) c1_4 rfl; have n1_5 := lv_neT (a := 5) c1_5 rfl; have n1_6 := lv_neT (a := 6) c1_6 rfl; have n1_7 := lv_neT (a := 7) c1_7 rfl; have n1_8 := lv_neT (a := 8) c1_8 rfl; have n1_9 := lv_neT (a := 9) c1_9 rfl; have n1_10 := lv_neT (a := 10) c1_10 rfl; omega) (by decide) ?_
                        refine lv_bipush (v := (-3 : Int32)) hx hb dX5_count_159 (by decide) ?_
                        cases hM
                        rw [hQQ]
                        exact W.iret hx hb hr (fun t ht hW => ⟨⟨_, (), rfl, rfl, by show va_P D vwCl _ t.heap; rw [ht]; exact hP⟩, hS.F ht⟩) hS.2.2 dX5_count_161
