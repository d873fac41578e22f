noncomputable def MX0_mayHelp (zZ : GS) (i1 : Int32) (i2 : Int32) : Option (Int32) := jn1 (fun (x1 : Int32) => chkB x1 (some (x1))) (fun k2 => jn0 (k2 (1 : Int32)) (fun k4 => if (1 : Int32) < i2 then (k4) else (if i1 = (zZ 0 3) then (k4) else (if i1 = (zZ 0 4) then (k4) else (k2 (0 : Int32))))))
abbrev rmX0_mayHelp : Room := { frames := 1, cells := 0, slots := 0, locals := 40 }
set_option maxHeartbeats 4000000 in
set_option maxRecDepth 100000 in
theorem ctX0_mayHelp (l : Launch) (D : va_G) (Y : Nat → ClassId) (zA : Nat → Nat) (uS : Nat) (sz : Nat) (zZ : GS) (lZ : Nat → Int64) (i1 : Int32) (i2 : Int32) (rr : Int32) (hM : MX0_mayHelp zZ i1 i2 = some (rr)) : Met l yX0_mayHelp wsX0_mayHelp rmX0_mayHelp (pcW [.ref (zA 0), .int i1, .int i2] sz D Y (cSearch Y zA uS zZ lZ)) (qiW rr D (cSearch Y zA uS zZ lZ) (va_A (cSearch Y zA uS zZ lZ) sz)) 0 0 (va_A (cSearch Y zA uS zZ lZ) sz) := by
  refine Met.ofW (cc := cX0_mayHelp) (maxL := 3) (ret := (some .boolean)) (by decide) rfl ?_
  intro p e s m args below meth c s₁ B hml hv
  obtain ⟨rfl, hsz, hP, hK, hD0⟩ := hv
  have hx := B.exec
  have hb := B.bytes
  have hr := B.returns
  have hts := atoms_spec (ws := wsX0_mayHelp) B.pre
  have hown : s.vm.findClass RX0 = some m.cls := findClass_of_methodNamed B.named
  have hlocks := B.notSynchronized
  subst hsz
  have hD := hD0.self (sz := s.heap.size)
  generalize hAe : va_A (cSearch Y zA uS zZ lZ) s.heap.size = A at hD ⊢
  have hA : ∀ q : Nat, s.heap.size ≤ q → A q := fun q h => by rw [← hAe]; exact Or.inr h
  have hS : va_S A s.heap s.heap [] := va_S.rf
  have hi0 : ∀ w ∈ wsX00, w ∈ wsX0_mayHelp := fun w h => List.mem_cons_of_mem _ (List.mem_append_right _ h)
  have hl := lv_entry ([.ref (zA 0), .int i1, .int i2]) (n := 3) (Nat.le_of_ble_eq_true rfl)
  rw [lg_entry_eq]
  generalize (lg_sl ([.ref (zA 0), .int i1, .int i2]) ++ List.replicate (3 - (lg_sl ([.ref (zA 0), .int i1, .int i2])).length) Slot.unset).toArray = ls at hl ⊢
  have hl : lv_has ls 3 [(0, .ref (zA 0)), (1, .int i1), (2, .int i2)] := hl
  obtain ⟨QQ, hQQ⟩ : ∃ Q : State → Prop, Q = MQ below (qiW rr D (cSearch Y zA uS zZ lZ) A) ([.ref (zA 0), .int i1, .int i2] : List Value).toArray s 0 0 A := ⟨_, rfl⟩
  rw [← hQQ]
  unfold MX0_mayHelp at hM
  suffices hI : ∀ (H : Heap) (locs : List Loc), va_P D vwCl (cSearch Y zA uS zZ lZ) H → va_S A s.heap H locs → W p l e (headSpec wsX0_mayHelp rmX0_mayHelp).room s m ([.ref (zA 0), .int i1, .int i2] : List Value).toArray below meth c H locs 0 0 QQ (F0 m 0 ls []) from hI _ _ hP hS
  clear hP hS
  intro H locs hP hS
  refine lv_iload_n hx hb dX0_mayHelp_0 rfl (lv_at hl 2 rfl) ?_
  refine lv_iconst (v := (1 : Int32)) hx hb dX0_mayHelp_1 (by decide) ?_
  refine jn1_at (fun (x1 : Int32) => ∀ (H : Heap) (locs : List Loc) (ls : Array Slot), va_P D vwCl (cSearch Y zA uS zZ lZ) H → va_S A s.heap H locs → lv_has ls 3 [] → W p l e (headSpec wsX0_mayHelp rmX0_mayHelp).room s m ([.ref (zA 0), .int i1, .int i2] : List Value).toArray below meth c H locs 0 0 QQ (F0 m 26 ls [.int x1])) hM (fun x1 hM H locs ls hP hS hl => ?_) (fun k2 hJ2 hM => ?_)
  · obtain ⟨hz3, hM⟩ := chkB_at hM
    cases hM
    rw [hQQ]
    exact W.zret (ty := .boolean) hx hb hr hz3 (fun t ht hW => ⟨⟨_, (), rfl, rfl, by show va_P D vwCl _ t.heap; rw [ht]; exact hP⟩, hS.F ht⟩) hS.2.2 dX0_mayHelp_26
  · refine jn0_at (∀ (H : Heap) (locs : List Loc) (ls : Array Slot), va_P D vwCl (cSearch Y zA uS zZ lZ) H → va_S A s.heap H locs → lv_has ls 3 [] → W p l e (headSpec wsX0_mayHelp rmX0_mayHelp).room s m ([.ref (zA 0), .int i1, .int i2] : List Value).toArray below meth c H locs 0 0 QQ (F0 m 21 ls [])) hM (fun  hM H locs ls hP hS hl => ?_) (fun k4 hJ4 hM => ?_)
    · refine lv_iconst (v := (1 : Int32)) hx hb dX0_mayHelp_21 (by decide) ?_
      refine lv_goto (tgt := 26) hx hb dX0_mayHelp_22 (by decide) ?_
      exact hJ2 (1 : Int32) hM H locs ls hP hS (lv_sub hl [] rfl)
    · refine lv_icmp_gt (tgt := 21) hx hb dX0_mayHelp_2 (by decide) (fun c5 => ?_) (fun c5 => ?_)
      · replace hM := if_at_pos hM c5
        exact hJ4 hM H locs ls hP hS (lv_sub hl [] rfl)
      · replace hM := if_at_neg hM c5
        refine lv_iload_n hx hb dX0_mayHelp_5 rfl (lv_at hl 1 rfl) ?_
        refine lv_aload_n hx hb dX0_mayHelp_6 rfl (lv_at hl 0 rfl) ?_
        refine va_get hx hb hts hi0 hown hK hP 0 rfl rfl 3 (by decide) (hts (.fieldLink RX0 24 "NightPlots$Search" "a" "I") (List.mem_of_getElem? (i := 1) rfl)) (fun _ h9 => h9) rfl dX0_mayHelp_7 ?_
        refine lv_icmp_eq (tgt := 21) hx hb dX0_mayHelp_10 (by decide) (fun c6 => ?_) (fun c6 => ?_)
        · replace hM := if_at_pos hM c6
          exact hJ4 hM H locs ls hP hS (lv_sub hl [] rfl)
        · replace hM := if_at_neg hM c6
          refine lv_iload_n hx hb dX0_mayHelp_13 rfl (lv_at hl 1 rfl) ?_
          refine lv_aload_n hx hb dX0_mayHelp_14 rfl (lv_at hl 0 rfl) ?_
          refine va_get hx hb hts hi0 hown hK hP 0 rfl rfl 4 (by decide) (hts (.fieldLink RX0 28 "NightPlots$Search" "b" "I") (List.mem_of_getElem? (i := 2) rfl)) (fun _ h9 => h9) rfl dX0_mayHelp_15 ?_
          refine lv_icmp_ne (tgt := 25) hx hb dX0_mayHelp_18 (by decide) (fun c7 => ?_) (fun c7 => ?_)
          · replace hM := if_at_neg hM c7
            refine lv_iconst (v := (0 : Int32)) hx hb dX0_mayHelp_25 (by decide) ?_
            exact hJ2 (0 : Int32) hM H locs ls hP hS (lv_sub hl [] rfl)
          · replace hM := if_at_pos hM c7
            exact hJ4 hM H locs ls hP hS (lv_sub hl [] rfl)
noncomputable def MX0_prepare (zZ : GS) (lZ : Nat → Int64) (i1 : Int32) (i2 : Int32) : Option (GS × (Nat → Int64)) := nm (up2 zZ 0 3 i1) fun (zZ_1 : GS) => nm (up2 zZ_1 0 4 i2) fun (zZ_2 : GS) => nm (up2 zZ_2 0 5 (-1 : Int32)) fun (zZ_3 : GS) => bnd1 (MJ7_fill_d0a16 (4096) lZ (0 : Int64)) fun (fR_4 : Nat → Int64) => some (zZ_3, fR_4)
abbrev rmX0_prepare : Room := { frames := 2, cells := 0, slots := 0, locals := 80 }
set_option maxHeartbeats 4000000 in
set_option maxRecDepth 100000 in
theorem ctX0_prepare (l : Launch) (D : va_G) (Y : Nat → ClassId) (zA : Nat → Nat) (uS : Nat) (sz : Nat) (zZ : GS) (lZ : Nat → Int64) (i1 : Int32) (i2 : Int32) (zZz : GS) (lZz : Nat → Int64) (hM : MX0_prepare zZ lZ i1 i2 = some (zZz, lZz)) : Met l yX0_prepare wsX0_prepare rmX0_prepare (pcW [.ref (zA 0), .int i1, .int i2] sz D Y (cSearch Y zA uS zZ lZ)) (qvW D (cSearch Y zA uS zZz lZz) (va_A (cSearch Y zA uS zZ lZ) sz)) 0 0 (va_A (cSearch Y zA uS zZ lZ) sz) := by
  refine Met.ofW (cc := cX0_prepare) (maxL := 3) (ret := (none)) (by decide) rfl ?_
  intro p e s m args below meth c s₁ B hml hv
  obtain ⟨rfl, hsz, hP, hK, hD0⟩ := hv
  have hx := B.exec
  have hb := B.bytes
  have hr := B.returns
  have hts := atoms_spec (ws := wsX0_prepare) B.pre
  have hown : s.vm.findClass RX0 = some m.cls := findClass_of_methodNamed B.named
  have hlocks := B.notSynchronized
  subst hsz
  have hD := hD0.self (sz := s.heap.size)
  generalize hAe : va_A (cSearch Y zA uS zZ lZ) s.heap.size = A at hD ⊢
  have hA : ∀ q : Nat, s.heap.size ≤ q → A q := fun q h => by rw [← hAe]; exact Or.inr h
  have hS : va_S A s.heap s.heap [] := va_S.rf
  have hi0 : ∀ w ∈ wsX00, w ∈ wsX0_prepare := fun w h => List.mem_cons_of_mem _ (List.mem_append_right _ h)
  have hl := lv_entry ([.ref (zA 0), .int i1, .int i2]) (n := 3) (Nat.le_of_ble_eq_true rfl)
  rw [lg_entry_eq]
  generalize (lg_sl ([.ref (zA 0), .int i1, .int i2]) ++ List.replicate (3 - (lg_sl ([.ref (zA 0), .int i1, .int i2])).length) Slot.unset).toArray = ls at hl ⊢
  have hl : lv_has ls 3 [(0, .ref (zA 0)), (1, .int i1), (2, .int i2)] := hl
  obtain ⟨QQ, hQQ⟩ : ∃ Q : State → Prop, Q = MQ below (qvW D (cSearch Y zA uS zZz lZz) A) ([.ref (zA 0), .int i1, .int i2] : List Value).toArray s 0 0 A := ⟨_, rfl⟩
  rw [← hQQ]
  unfold MX0_prepare at hM
  suffices hI : ∀ (H : Heap) (locs : List Loc), va_P D vwCl (cSearch Y zA uS zZ lZ) H → va_S A s.heap H locs → W p l e (headSpec wsX0_prepare rmX0_prepare).room s m ([.ref (zA 0), .int i1, .int i2] : List Value).toArray below meth c H locs 0 0 QQ (F0 m 0 ls []) from hI _ _ hP hS
  clear hP hS
  intro H locs hP hS
  refine lv_aload_n hx hb dX0_prepare_0 rfl (lv_at hl 0 rfl) ?_
  refine lv_iload_n hx hb dX0_prepare_1 rfl (lv_at hl 1 rfl) ?_
  refine va_put (ty := .int) hx hb hts hi0 tyX0 tyX0_ok nmX0 hown hK hP (hD.same rfl) hS 0 rfl rfl 3 (by decide) (hts (.fieldLink RX0 24 "NightPlots$Search" "a" "I") (List.mem_of_getElem? (i := 1) rfl)) (fun _ h9 => h9) rfl (by decide +kernel) rfl rfl (Nat.le_of_ble_eq_true rfl) dX0_prepare_2 (fun H locs hP _ hS => ?_)
  obtain ⟨zZ_1, ezZ_1⟩ : ∃ z : GS, z = (up2 zZ 0 3 i1) := ⟨_, rfl⟩
  have hP : va_P D vwCl (cSearch Y zA uS zZ_1 lZ) H := by rw [ezZ_1]; exact hP
  replace hM := nm_at hM ezZ_1
  refine lv_aload_n hx hb dX0_prepare_5 rfl (lv_at hl 0 rfl) ?_
  refine lv_iload_n hx hb dX0_prepare_6 rfl (lv_at hl 2 rfl) ?_
  refine va_put (ty := .int) hx hb hts hi0 tyX0 tyX0_ok nmX0 hown hK hP (hD.same rfl) hS 0 rfl rfl 4 (by decide) (hts (.fieldLink RX0 28 "NightPlots$Search" "b" "I") (List.mem_of_getElem? (i := 2) rfl)) (fun _ h9 => h9) rfl (by decide +kernel) rfl rfl (Nat.le_of_ble_eq_true rfl) dX0_prepare_7 (fun H locs hP _ hS => ?_)
  obtain ⟨zZ_2, ezZ_2⟩ : ∃ z : GS, z = (up2 zZ_1 0 4 i2) := ⟨_, rfl⟩
  have hP : va_P D vwCl (cSearch Y zA uS zZ_2 lZ) H := by rw [ezZ_2]; exact hP
  replace hM := nm_at hM ezZ_2
  refine lv_aload_n hx hb dX0_prepare_10 rfl (lv_at hl 0 rfl) ?_
  refine lv_iconst (v := (-1 : Int32)) hx hb dX0_prepare_11 (by decide) ?_
  refine va_put (ty := .int) hx hb hts hi0 tyX0 tyX0_ok nmX0 hown hK hP (hD.same rfl) hS 0 rfl rfl 5 (by decide) (hts (.fieldLink RX0 31 "NightPlots$Search" "firstRoll" "I") (List.mem_of_getElem? (i := 3) rfl)) (fun _ h9 => h9) rfl (by decide +kernel) rfl rfl (Nat.le_of_ble_eq_true rfl) dX0_prepare_12 (fun H locs hP _ hS => ?_)
  obtain ⟨zZ_3, ezZ_3⟩ : ∃ z : GS, z = (up2 zZ_2 0 5 (-1 : Int32)) := ⟨_, rfl⟩
  have hP : va_P D vwCl (cSearch Y zA uS zZ_3 lZ) H := by rw [ezZ_3]; exact hP
  replace hM := nm_at hM ezZ_3
  refine lv_aload_n hx hb dX0_prepare_15 rfl (lv_at hl 0 rfl) ?_
  refine va_get hx hb hts hi0 hown hK hP 0 rfl rfl 2 (by decide) (hts (.fieldLink RX0 16 "NightPlots$Search" "deadEnds" "[J") (List.mem_of_getElem? (i := 4) rfl)) (fun _ h9 => h9) rfl dX0_prepare_16 ?_
  refine lv_lconst (v := (0 : Int64)) hx hb dX0_prepare_19 (by decide) ?_
  obtain ⟨fR_4, hc5, hM⟩ := bnd1_at hM
  refine cm_v (w2 := (cSearch Y zA uS zZ_3 fR_4)) (va_runS (As := [.ref (zA 2), .long (0 : Int64)]) (rest := []) ⟨hx, hb, hml, hown, hts⟩ (ctJ7_fill_d0a16 l D Y (zA 2) (4096) H.size lZ (0 : Int64) fR_4 hc5) ⟨callB_of 2 hts ggX0_prepare_J7_fill_d0a16 rfl rfl rfl (hts (.initialized RJ7) (List.mem_of_getElem? (i := 7) rfl)) (hts (.methodLink RX0 34 yJ7_fill_d0a16) (List.mem_of_getElem? (i := 5) rfl)) (by decide +kernel) ⟨Nat.le_of_ble_eq_true rfl, Nat.le_of_ble_eq_true rfl⟩, (hts (.static yJ7_fill_d0a16) (List.mem_of_getElem? (i := 6) rfl))⟩ (pcW_S hK hP (hD.same rfl) [2] rfl (pc_map (pc_cons rfl pc_nil))) rfl rfl hl.1 rfl (lv_room (Nat.le_of_ble_eq_true rfl)) dX0_prepare_20 ⟨Nat.zero_le _, Nat.zero_le _⟩) hP (hD.same rfl) hS hA [2] (pc_map (pc_cons rfl pc_nil)) (up_old rfl rfl (up_old rfl rfl (up_new 0 rfl (up_old rfl rfl (up_old rfl rfl (up_old rfl rfl (up_old rfl rfl (up_old rfl rfl (up_old rfl rfl up_nil))))))))) (fun H locs hP hS => ?_)
  cases hM
  rw [hQQ]
  exact W.vret hx hb hr (fun t ht hW => ⟨⟨(), rfl, trivial, by show va_P D vwCl _ t.heap; rw [ht]; exact hP⟩, hS.F ht⟩) hS.2.2 dX0_prepare_23
noncomputable def BX0_reachesBy_1_32 (r4 : Int32) (k9 : GS → Option (Int32 × GS × GS)) (tT : GS) (i2 : Int32) (zZ_7 : GS) (x3 : Int32) (k12 : Int32 → GS → Option (Int32 × GS × GS)) (rec18 : Int32 → GS → Option (Int32 × GS × GS)) (x16 : Int32) (gS_17 : GS) : Option (Int32 × GS × GS) := if r4 ≤ x16 then (k9 gS_17) else (if (8 : Int32) ≤ x16 then (k9 gS_17) else (chkI x16 8 (bnd1 (MX1_moveHouse gS_17 tT i2 (zZ_7 2 x16.toNatClampNeg)) fun (gS_22 : GS) => jn1 (fun (x24 : Int32) => bnd1 (MX1_moveHouse gS_22 tT i2 x3) fun (gS_26 : GS) => if x24 = 0 then (nm (x16 + 1) fun (x29 : Int32) => rec18 x29 gS_26) else (k12 x16 gS_26)) (fun k25 => bnd1 (MX1_areBeside gS_22 tT (zZ_7 0 3) (zZ_7 0 4)) fun (r30 : Int32) => k25 r30))))
noncomputable def MX0_reachesBy_1 (zZ : GS) (gS : GS) (tT : GS) (i2 : Int32) : Option (Int32 × GS × GS) := chkI (1 : Int32) 6 (chkI i2 8 (nm (gS 1 i2.toNatClampNeg) fun (x3 : Int32) => bnd2 (MX1_findWays gS (zZ 2) tT i2) fun (r4 : Int32) (fR_5 : Nat → Int32) => nm (upA zZ 2 fR_5) fun (zZ_7 : GS) => jn1 (fun (gS_8 : GS) => some ((0 : Int32), zZ_7, gS_8)) (fun k9 => jn2 (fun (x10 : Int32) (gS_11 : GS) => chkI x10 8 (nm (((20 : Int32) * i2) + (zZ_7 2 x10.toNatClampNeg)) fun (x14 : Int32) => nm (up2 zZ_7 0 5 x14) fun (zZ_15 : GS) => some ((1 : Int32), zZ_15, gS_11))) (fun k12 => lq2 (BX0_reachesBy_1_32 r4 k9 tT i2 zZ_7 x3 k12) FU (0 : Int32) gS))))
abbrev rmX0_reachesBy_1 : Room := { frames := 5, cells := 0, slots := 0, locals := 200 }
set_option maxHeartbeats 4000000 in
set_option maxRecDepth 100000 in
theorem ctX0_reachesBy_1 (l : Launch) (D : va_G) (Y : Nat → ClassId) (zA : Nat → Nat) (aS : Nat → Nat) (hT : Nat → Nat) (vS : Nat) (sz : Nat) (zZ : GS) (lZ : Nat → Int64) (gS : GS) (tT : GS) (i2 : Int32) (rr : Int32) (zZz : GS) (gSz : GS) (hM : MX0_reachesBy_1 zZ gS tT i2 = some (rr, zZz, gSz)) : Met l yX0_reachesBy wsX0_reachesBy rmX0_reachesBy_1 (pcN [.ref (zA 0), .int i2, .int (1 : Int32)] sz D Y (cSearch Y zA (aS 0) zZ lZ ++ cStand Y aS (hT 0) vS gS ++ cTold Y hT tT)) (qiW rr D (cSearch Y zA (aS 0) zZz lZ ++ cStand Y aS (hT 0) vS gSz ++ cTold Y hT tT) (va_A (cSearch Y zA (aS 0) zZ lZ ++ cStand Y aS (hT 0) vS gS ++ cTold Y hT tT) sz)) 0 0 (va_A (cSearch Y zA (aS 0) zZ lZ ++ cStand Y aS (hT 0) vS gS ++ cTold Y hT tT) sz) := by
  refine Met.ofW (cc := cX0_reachesBy) (maxL := 8) (ret := (some .boolean)) (by decide) rfl ?_
  intro p e s m args below meth c s₁ B hml hv
  obtain ⟨⟨rfl, hsz, hP, hK, hD0⟩, hNF⟩ := hv
  have hx := B.exec
  have hb := B.bytes
  have hr := B.returns
  have hts := atoms_spec (ws := wsX0_reachesBy) B.pre
  have hown : s.vm.findClass RX0 = some m.cls := findClass_of_methodNamed B.named
  have hlocks := B.notSynchronized
  subst hsz
  have hD := hD0.self (sz := s.heap.size)
  generalize hAe : va_A (cSearch Y zA (aS 0) zZ lZ ++ cStand Y aS (hT 0) vS gS ++ cTold Y hT tT) s.heap.size = A at hD ⊢
  have hA : ∀ q : Nat, s.heap.size ≤ q → A q := fun q h => by rw [← hAe]; exact Or.inr h
  have hS : va_S A s.heap s.heap [] := va_S.rf
  have hi0 : ∀ w ∈ wsX00, w ∈ wsX0_reachesBy := fun w h => List.mem_cons_of_mem _ (List.mem_append_left _ (List.mem_append_left _ (List.mem_append_right _ h)))
  have hi1 : ∀ w ∈ wsX10, w ∈ wsX0_reachesBy := fun w h => List.mem_cons_of_mem _ (List.mem_append_left _ (List.mem_append_right _ h))
  have hl := lv_entry ([.ref (zA 0), .int i2, .int (1 : Int32)]) (n := 8) (Nat.le_of_ble_eq_true rfl)
  rw [lg_entry_eq]
  generalize (lg_sl ([.ref (zA 0), .int i2, .int (1 : Int32)]) ++ List.replicate (8 - (lg_sl ([.ref (zA 0), .int i2, .int (1 : Int32)])).length) Slot.unset).toArray = ls at hl ⊢
  have hl : lv_has ls 8 [(0, .ref (zA 0)), (1, .int i2), (2, .int (1 : Int32))] := hl
  obtain ⟨QQ, hQQ⟩ : ∃ Q : State → Prop, Q = MQ below (qiW rr D (cSearch Y zA (aS 0) zZz lZ ++ cStand Y aS (hT 0) vS gSz ++ cTold Y hT tT) A) ([.ref (zA 0), .int i2, .int (1 : Int32)] : List Value).toArray s 0 0 A := ⟨_, rfl⟩
  rw [← hQQ]
  unfold MX0_reachesBy_1 at hM
  suffices hI : ∀ (H : Heap) (locs : List Loc), va_P D vwCl (cSearch Y zA (aS 0) zZ lZ ++ cStand Y aS (hT 0) vS gS ++ cTold Y hT tT) H → va_S A s.heap H locs → W p l e (headSpec wsX0_reachesBy rmX0_reachesBy_1).room s m ([.ref (zA 0), .int i2, .int (1 : Int32)] : List Value).toArray below meth c H locs 0 0 QQ (F0 m 0 ls []) from hI _ _ hP hS
  clear hP hS
  intro H locs hP hS
  refine lv_aload_n hx hb dX0_reachesBy_0 rfl (lv_at hl 0 rfl) ?_
  refine va_get hx hb hts hi0 hown hK hP 0 rfl rfl 1 (by decide) (hts (.fieldLink RX0 11 "NightPlots$Search" "ways" "[[I") (List.mem_of_getElem? (i := 1) rfl)) (fun _ h9 => h9) rfl dX0_reachesBy_1 ?_
  refine lv_iload_n hx hb dX0_reachesBy_4 rfl (lv_at hl 2 rfl) ?_
  obtain ⟨hi_1, hM⟩ := chkI_at hM
  refine va_ald2 (v := .ref (zA 4)) hx hb hK hP 1 4 rfl rfl hi_1 rfl dX0_reachesBy_5 ?_
  refine lv_astore_n (lv' := [(3, .ref (zA 4)), (0, .ref (zA 0)), (1, .int i2), (2, .int (1 : Int32))]) hx hb dX0_reachesBy_6 rfl hl (by decide) rfl (fun ls hl => ?_)
  refine lv_aload_n hx hb dX0_reachesBy_7 rfl (lv_at hl 1 rfl) ?_
  refine va_get hx hb hts hi0 hown hK hP 0 rfl rfl 0 (by decide) (hts (.fieldLink RX0 20 "NightPlots$Search" "standing" "LNightPlots$Standing;") (List.mem_of_getElem? (i := 2) rfl)) (fun _ h9 => h9) rfl dX0_reachesBy_8 ?_
  refine va_get hx hb hts hi1 hown hK hP 9 rfl rfl 1 (by decide) (hts (.fieldLink RX0 67 "NightPlots$Standing" "place" "[I") (List.mem_of_getElem? (i := 3) rfl)) (fun _ h9 => h9) rfl dX0_reachesBy_11 ?_
  refine lv_iload_n hx hb dX0_reachesBy_14 rfl (lv_at hl 2 rfl) ?_
  obtain ⟨hi_2, hM⟩ := chkI_at hM
  refine va_iald hx hb hK hP 10 0 rfl rfl hi_2 dX0_reachesBy_15 ?_
  refine lv_topi (fun x3 ex3 => ?_)
  replace hM := nm_at hM ex3
  refine lv_istore (lv' := [(4, .int x3), (3, .ref (zA 4)), (0, .ref (zA 0)), (1, .int i2), (2, .int (1 : Int32))]) hx hb dX0_reachesBy_16 hl (by decide) rfl (fun ls hl => ?_)
  refine lv_aload_n hx hb dX0_reachesBy_18 rfl (lv_at hl 2 rfl) ?_
  refine va_get hx hb hts hi0 hown hK hP 0 rfl rfl 0 (by decide) (hts (.fieldLink RX0 20 "NightPlots$Search" "standing" "LNightPlots$Standing;") (List.mem_of_getElem? (i := 2) rfl)) (fun _ h9 => h9) rfl dX0_reachesBy_19 ?_
  refine lv_iload_n hx hb dX0_reachesBy_22 rfl (lv_at hl 3 rfl) ?_
  refine lv_aload_n hx hb dX0_reachesBy_23 rfl (lv_at hl 1 rfl) ?_
  obtain ⟨r4, fR_5, hc6, hM⟩ := bnd2_at hM
  refine cm_i (w2 := (cSearch Y zA (aS 0) (upA zZ 2 fR_5) lZ ++ cStand Y aS (hT 0) vS gS ++ cTold Y hT tT)) (va_runV (As := [.int i2, .ref (zA 4)]) (rest := []) ⟨hx, hb, hml, hown, hts⟩ (ctX1_findWays l D Y aS (zA 4) hT vS H.size gS (zZ 2) tT i2 r4 fR_5 hc6) (cwV 2 hts gX0_reachesBy_X1_findWays rfl rfl rfl (by decide +kernel) ⟨Nat.le_of_ble_eq_true rfl, Nat.le_of_ble_eq_true rfl⟩) (pcW_V (ci := 1) (q0 := 9) hK hP (hD.same rfl) [9, 10, 11, 4, 12, 13, 14, 15, 16, 17, 18, 19] rfl (pc_map (pc_cons rfl (pc_cons rfl (pc_cons rfl (pc_cons rfl (pc_cons rfl (pc_cons rfl (pc_cons rfl (pc_cons rfl (pc_cons rfl (pc_cons rfl (pc_cons rfl (pc_cons rfl pc_nil))))))))))))) rfl rfl) rfl rfl hl.1 rfl (lv_room (Nat.le_of_ble_eq_true rfl)) dX0_reachesBy_24 ⟨Nat.zero_le _, Nat.zero_le _⟩) hP (hD.same rfl) hS hA [9, 10, 11, 4, 12, 13, 14, 15, 16, 17, 18, 19] (pc_map (pc_cons rfl (pc_cons rfl (pc_cons rfl (pc_cons rfl (pc_cons rfl (pc_cons rfl (pc_cons rfl (pc_cons rfl (pc_cons rfl (pc_cons rfl (pc_cons rfl (pc_cons rfl pc_nil))))))))))))) (up_old rfl rfl (up_old rfl rfl (up_old rfl rfl (up_old rfl rfl (up_new 3 rfl (up_old rfl rfl (up_old rfl rfl (up_old rfl rfl (up_old rfl rfl (up_new 0 rfl (up_new 1 rfl (up_new 2 rfl (up_new 4 rfl (up_new 5 rfl (up_new 6 rfl (up_new 7 rfl (up_new 8 rfl (up_new 9 rfl (up_new 10 rfl (up_new 11 rfl up_nil)))))))))))))))))))) (fun H locs hP hS => ?_)
  obtain ⟨zZ_7, ezZ_7⟩ : ∃ z : GS, z = (upA zZ 2 fR_5) := ⟨_, rfl⟩
  have hP : va_P D vwCl (cSearch Y zA (aS 0) zZ_7 lZ ++ cStand Y aS (hT 0) vS gS ++ cTold Y hT tT) H := by rw [ezZ_7]; exact hP
  replace hM := nm_at hM ezZ_7
  refine lv_istore (lv' := [(5, .int r4), (4, .int x3), (3, .ref (zA 4)), (0, .ref (zA 0)), (1, .int i2), (2, .int (1 : Int32))]) hx hb dX0_reachesBy_27 hl (by decide) rfl (fun ls hl => ?_)
  refine lv_iconst (v := (0 : Int32)) hx hb dX0_reachesBy_29 (by decide) ?_
  refine lv_istore (lv' := [(6, .int (0 : Int32)), (5, .int r4), (4, .int x3), (3, .ref (zA 4)), (0, .ref (zA 0)), (1, .int i2), (2, .int (1 : Int32))]) hx hb dX0_reachesBy_30 hl (by decide) rfl (fun ls hl => ?_)
  refine jn1_at (fun (gS_8 : GS) => ∀ (H : Heap) (locs : List Loc) (ls : Array Slot), va_P D vwCl (cSearch Y zA (aS 0) zZ_7 lZ ++ cStand Y aS (hT 0) vS gS_8 ++ cTold Y hT tT) H → va_S A s.heap H locs → lv_has ls 8 [] → W p l e (headSpec wsX0_reachesBy rmX0_reachesBy_1).room s m ([.ref (zA 0), .int i2, .int (1 : Int32)] : List Value).toArray below meth c H locs 0 0 QQ (F0 m 126 ls [])) hM (fun gS_8 hM H locs ls hP hS hl => ?_) (fun k9 hJ9 hM => ?_)
  · refine lv_iconst (v := (0 : Int32)) hx hb dX0_reachesBy_126 (by decide) ?_
    cases hM
    rw [hQQ]
    exact W.zret (ty := .boolean) hx hb hr rfl (fun t ht hW => ⟨⟨_, (), rfl, rfl, by show va_P D vwCl _ t.heap; rw [ht]; exact hP⟩, hS.F ht⟩) hS.2.2 dX0_reachesBy_127
  · refine jn2_at (fun (x10 : Int32) (gS_11 : GS) => ∀ (H : Heap) (locs : List Loc) (ls : Array Slot), va_P D vwCl (cSearch Y zA (aS 0) zZ_7 lZ ++ cStand Y aS (hT 0) vS gS_11 ++ cTold Y hT tT) H → va_S A s.heap H locs → lv_has ls 8 [(0, .ref (zA 0)), (1, .int i2), (3, .ref (zA 4)), (6, .int x10)] → W p l e (headSpec wsX0_reachesBy rmX0_reachesBy_1).room s m ([.ref (zA 0), .int i2, .int (1 : Int32)] : List Value).toArray below meth c H locs 0 0 QQ (F0 m 105 ls [])) hM (fun x10 gS_11 hM H locs ls hP hS hl => ?_) (fun k12 hJ12 hM => ?_)
    · refine lv_aload_n hx hb dX0_reachesBy_105 rfl (lv_at hl 0 rfl) ?_
      refine lv_bipush (v := (20 : Int32)) hx hb dX0_reachesBy_106 (by decide) ?_
      refine lv_iload_n hx hb dX0_reachesBy_108 rfl (lv_at hl 1 rfl) ?_
      refine lv_imul hx hb dX0_reachesBy_109 ?_
      refine lv_aload_n hx hb dX0_reachesBy_110 rfl (lv_at hl 2 rfl) ?_
      refine lv_iload hx hb dX0_reachesBy_111 (lv_at hl 3 rfl) ?_
      obtain ⟨hi_13, hM⟩ := chkI_at hM
      refine va_iald hx hb hK hP 4 0 rfl rfl hi_13 dX0_reachesBy_113 ?_
      refine lv_iadd hx hb dX0_reachesBy_114 ?_
      refine lv_topi (fun x14 ex14 => ?_)
      replace hM := nm_at hM ex14
      refine va_put (ty := .int) hx hb hts hi0 tyX0 tyX0_ok nmX0 hown hK hP (hD.same rfl) hS 0 rfl rfl 5 (by decide) (hts (.fieldLink RX0 31 "NightPlots$Search" "firstRoll" "I") (List.mem_of_getElem? (i := 6) rfl)) (fun _ h9 => h9) rfl (by decide +kernel) rfl rfl (Nat.le_of_ble_eq_true rfl) dX0_reachesBy_115 (fun H locs hP _ hS => ?_)
      obtain ⟨zZ_15, ezZ_15⟩ : ∃ z : GS, z = (up2 zZ_7 0 5 x14) := ⟨_, rfl⟩
      have hP : va_P D vwCl (cSearch Y zA (aS 0) zZ_15 lZ ++ cStand Y aS (hT 0) vS gS_11 ++ cTold Y hT tT) H := by rw [ezZ_15]; exact hP
      replace hM := nm_at hM ezZ_15
      refine lv_iconst (v := (1 : Int32)) hx hb dX0_reachesBy_118 (by decide) ?_
      cases hM
      rw [hQQ]
      exact W.zret (ty := .boolean) hx hb hr rfl (fun t ht hW => ⟨⟨_, (), rfl, rfl, by show va_P D vwCl _ t.heap; rw [ht]; exact hP⟩, hS.F ht⟩) hS.2.2 dX0_reachesBy_119
    · refine lq2_at (fun (x16 : Int32) (gS_17 : GS) => ∀ (H : Heap) (locs : List Loc) (ls : Array Slot), va_P D vwCl (cSearch Y zA (aS 0) zZ_7 lZ ++ cStand Y aS (hT 0) vS gS_17 ++ cTold Y hT tT) H → va_S A s.heap H locs → lv_has ls 8 [(0, .ref (zA 0)), (1, .int i2), (2, .int (1 : Int32)), (3, .ref (zA 4)), (4, .int x3), (5, .int r4), (6, .int x16)] → W p l e (headSpec wsX0_reachesBy rmX0_reachesBy_1).room s m ([.ref (zA 0), .int i2, .int (1 : Int32)] : List Value).toArray below meth c H locs 0 0 QQ (F0 m 32 ls [])) (fun rec18 x16 gS_17 ih18 hM H locs ls hP hS hl => ?_) FU (0 : Int32) gS hM H locs ls hP hS (lv_sub hl [4, 5, 6, 3, 2, 1, 0] rfl)
      unfold BX0_reachesBy_1_32 at hM
      refine lv_iload hx hb dX0_reachesBy_32 (lv_at hl 6 rfl) ?_
      refine lv_iload hx hb dX0_reachesBy_34 (lv_at hl 5 rfl) ?_
      refine lv_icmp_ge (tgt := 126) hx hb dX0_reachesBy_36 (by decide) (fun c19 => ?_) (fun c19 => ?_)
      · replace hM := if_at_pos hM c19
        exact hJ9 gS_17 hM H locs ls hP hS (lv_sub hl [] rfl)
      · replace hM := if_at_neg hM c19
        refine lv_iload hx hb dX0_reachesBy_39 (lv_at hl 6 rfl) ?_
        refine lv_aload_n hx hb dX0_reachesBy_41 rfl (lv_at hl 3 rfl) ?_
        refine va_alen (v := (8 : Int32)) hx hb hK hP 4 0 rfl rfl rfl dX0_reachesBy_42 ?_
        refine lv_icmp_ge (tgt := 126) hx hb dX0_reachesBy_43 (by decide) (fun c20 => ?_) (fun c20 => ?_)
        · replace hM := if_at_pos hM c20
          exact hJ9 gS_17 hM H locs ls hP hS (lv_sub hl [] rfl)
        · replace hM := if_at_neg hM c20
          refine lv_aload_n hx hb dX0_reachesBy_46 rfl (lv_at hl 0 rfl) ?_
          refine va_get hx hb hts hi0 hown hK hP 0 rfl rfl 0 (by decide) (hts (.fieldLink RX0 20 "NightPlots$Search" "standing" "LNightPlots$Standing;") (List.mem_of_getElem? (i := 2) rfl)) (fun _ h9 => h9) rfl dX0_reachesBy_47 ?_
          refine lv_iload_n hx hb dX0_reachesBy_50 rfl (lv_at hl 1 rfl) ?_
          refine lv_aload_n hx hb dX0_reachesBy_51 rfl (lv_at hl 3 rfl) ?_
          refine lv_iload hx hb dX0_reachesBy_52 (lv_at hl 6 rfl) ?_
          obtain ⟨hi_21, hM⟩ := chkI_at hM
          refine va_iald hx hb hK hP 4 0 rfl rfl hi_21 dX0_reachesBy_54 ?_
          obtain ⟨gS_22, hc23, hM⟩ := bnd1_at hM
          refine cm_v (w2 := (cSearch Y zA (aS 0) zZ_7 lZ ++ cStand Y aS (hT 0) vS gS_22 ++ cTold Y hT tT)) (va_runV (As := [.int i2, .int (zZ_7 2 x16.toNatClampNeg)]) (rest := []) ⟨hx, hb, hml, hown, hts⟩ (ctX1_moveHouse l D Y aS hT vS H.size gS_17 tT i2 (zZ_7 2 x16.toNatClampNeg) gS_22 hc23) (cwV 2 hts gX0_reachesBy_X1_moveHouse rfl rfl rfl (by decide +kernel) ⟨Nat.le_of_ble_eq_true rfl, Nat.le_of_ble_eq_true rfl⟩) (pcW_V (ci := 1) (q0 := 9) hK hP (hD.same rfl) [9, 10, 11, 12, 13, 14, 15, 16, 17, 18, 19] rfl (pc_map (pc_cons rfl (pc_cons rfl (pc_cons rfl (pc_cons rfl (pc_cons rfl (pc_cons rfl (pc_cons rfl (pc_cons rfl (pc_cons rfl (pc_cons rfl (pc_cons rfl pc_nil)))))))))))) rfl rfl) rfl rfl hl.1 rfl (lv_room (Nat.le_of_ble_eq_true rfl)) dX0_reachesBy_55 ⟨Nat.zero_le _, Nat.zero_le _⟩) hP (hD.same rfl) hS hA [9, 10, 11, 12, 13, 14, 15, 16, 17, 18, 19] (pc_map (pc_cons rfl (pc_cons rfl (pc_cons rfl (pc_cons rfl (pc_cons rfl (pc_cons rfl (pc_cons rfl (pc_cons rfl (pc_cons rfl (pc_cons rfl (pc_cons rfl pc_nil)))))))))))) (up_old rfl rfl (up_old rfl rfl (up_old rfl rfl (up_old rfl rfl (up_old rfl rfl (up_old rfl rfl (up_old rfl rfl (up_old rfl rfl (up_old rfl rfl (up_new 0 rfl (up_new 1 rfl (up_new 2 rfl (up_new 3 rfl (up_new 4 rfl (up_new 5 rfl (up_new 6 rfl (up_new 7 rfl (up_new 8 rfl (up_new 9 rfl (up_new 10 rfl up_nil)))))))))))))))))))) (fun H locs hP hS => ?_)
          refine lv_iload_n hx hb dX0_reachesBy_58 rfl (lv_at hl 2 rfl) ?_
          refine lv_iconst (v := (1 : Int32)) hx hb dX0_reachesBy_59 (by decide) ?_
          refine jn1_at (fun (x24 : Int32) => ∀ (H : Heap) (locs : List Loc) (ls : Array Slot), va_P D vwCl (cSearch Y zA (aS 0) zZ_7 lZ ++ cStand Y aS (hT 0) vS gS_22 ++ cTold Y hT tT) H → va_S A s.heap H locs → lv_has ls 8 [(0, .ref (zA 0)), (1, .int i2), (2, .int (1 : Int32)), (3, .ref (zA 4)), (4, .int x3), (5, .int r4), (6, .int x16)] → W p l e (headSpec wsX0_reachesBy rmX0_reachesBy_1).room s m ([.ref (zA 0), .int i2, .int (1 : Int32)] : List Value).toArray below meth c H locs 0 0 QQ (F0 m 88 ls [.int x24])) hM (fun x24 hM H locs ls hP hS hl => ?_) (fun k25 hJ25 hM => ?_)
          · refine lv_istore (lv' := [(7, .int x24), (0, .ref (zA 0)), (1, .int i2), (2, .int (1 : Int32)), (3, .ref (zA 4)), (4, .int x3), (5, .int r4), (6, .int x16)]) hx hb dX0_reachesBy_88 hl (by decide) rfl (fun ls hl => ?_)
            refine lv_aload_n hx hb dX0_reachesBy_90 rfl (lv_at hl 1 rfl) ?_
            refine va_get hx hb hts hi0 hown hK hP 0 rfl rfl 0 (by decide) (hts (.fieldLink RX0 20 "NightPlots$Search" "standing" "LNightPlots$Standing;") (List.mem_of_getElem? (i := 2) rfl)) (fun _ h9 => h9) rfl dX0_reachesBy_91 ?_
            refine lv_iload_n hx hb dX0_reachesBy_94 rfl (lv_at hl 2 rfl) ?_
            refine lv_iload hx hb dX0_reachesBy_95 (lv_at hl 5 rfl) ?_
            obtain ⟨gS_26, hc27, hM⟩ := bnd1_at hM
            refine cm_v (w2 := (cSearch Y zA (aS 0) zZ_7 lZ ++ cStand Y aS (hT 0) vS gS_26 ++ cTold Y hT tT)) (va_runV (As := [.int i2, .int x3]) (rest := []) ⟨hx, hb, hml, hown, hts⟩ (ctX1_moveHouse l D Y aS hT vS H.size gS_22 tT i2 x3 gS_26 hc27) (cwV 2 hts gX0_reachesBy_X1_moveHouse rfl rfl rfl (by decide +kernel) ⟨Nat.le_of_ble_eq_true rfl, Nat.le_of_ble_eq_true rfl⟩) (pcW_V (ci := 1) (q0 := 9) hK hP (hD.same rfl) [9, 10, 11, 12, 13, 14, 15, 16, 17, 18, 19] rfl (pc_map (pc_cons rfl (pc_cons rfl (pc_cons rfl (pc_cons rfl (pc_cons rfl (pc_cons rfl (pc_cons rfl (pc_cons rfl (pc_cons rfl (pc_cons rfl (pc_cons rfl pc_nil)))))))))))) rfl rfl) rfl rfl hl.1 rfl (lv_room (Nat.le_of_ble_eq_true rfl)) dX0_reachesBy_97 ⟨Nat.zero_le _, Nat.zero_le _⟩) hP (hD.same rfl) hS hA [9, 10, 11, 12, 13, 14, 15, 16, 17, 18, 19] (pc_map (pc_cons rfl (pc_cons rfl (pc_cons rfl (pc_cons rfl (pc_cons rfl (pc_cons rfl (pc_cons rfl (pc_cons rfl (pc_cons rfl (pc_cons rfl (pc_cons rfl pc_nil)))))))))))) (up_old rfl rfl (up_old rfl rfl (up_old rfl rfl (up_old rfl rfl (up_old rfl rfl (up_old rfl rfl (up_old rfl rfl (up_old rfl rfl (up_old rfl rfl (up_new 0 rfl (up_new 1 rfl (up_new 2 rfl (up_new 3 rfl (up_new 4 rfl (up_new 5 rfl (up_new 6 rfl (up_new 7 rfl (up_new 8 rfl (up_new 9 rfl (up_new 10 rfl up_nil)))))))))))))))))))) (fun H locs hP hS => ?_)
            refine lv_iload hx hb dX0_reachesBy_100 (lv_at hl 0 rfl) ?_
            refine lv_if_eq (tgt := 120) hx hb dX0_reachesBy_102 (by decide) (fun c28 => ?_) (fun c28 => ?_)
            · replace hM := if_at_pos hM c28
              obtain ⟨x29, ex29⟩ : ∃ z : Int32, z = (x16 + 1) := ⟨_, rfl⟩
              replace hM := nm_at hM ex29
              refine lv_iinc (v := x29) (lv' := [(6, .int x29), (7, .int x24), (0, .ref (zA 0)), (1, .int i2), (2, .int (1 : Int32)), (3, .ref (zA 4)), (4, .int x3), (5, .int r4)]) hx hb dX0_reachesBy_120 hl (k := 7) rfl (by rw [ex29]; rfl) (by decide) rfl (fun ls hl => ?_)
              refine lv_goto (tgt := 32) hx hb dX0_reachesBy_123 (by decide) ?_
              exact ih18 x29 gS_26 hM H locs ls hP hS (lv_sub hl [2, 3, 4, 5, 6, 7, 0] rfl)
            · replace hM := if_at_neg hM c28
              exact hJ12 x16 gS_26 hM H locs ls hP hS (lv_sub hl [1, 2, 4, 7] rfl)
          · refine lv_icmp_ne (tgt := 81) hx hb dX0_reachesBy_60 (by decide) (fun c => absurd c (by decide)) (fun _ => ?_)
            refine lv_aload_n hx hb dX0_reachesBy_63 rfl (lv_at hl 0 rfl) ?_
            refine va_get hx hb hts hi0 hown hK hP 0 rfl rfl 0 (by decide) (hts (.fieldLink RX0 20 "NightPlots$Search" "standing" "LNightPlots$Standing;") (List.mem_of_getElem? (i := 2) rfl)) (fun _ h9 => h9) rfl dX0_reachesBy_64 ?_
            refine lv_aload_n hx hb dX0_reachesBy_67 rfl (lv_at hl 0 rfl) ?_
            refine va_get hx hb hts hi0 hown hK hP 0 rfl rfl 3 (by decide) (hts (.fieldLink RX0 24 "NightPlots$Search" "a" "I") (List.mem_of_getElem? (i := 4) rfl)) (fun _ h9 => h9) rfl dX0_reachesBy_68 ?_
            refine lv_aload_n hx hb dX0_reachesBy_71 rfl (lv_at hl 0 rfl) ?_
            refine va_get hx hb hts hi0 hown hK hP 0 rfl rfl 4 (by decide) (hts (.fieldLink RX0 28 "NightPlots$Search" "b" "I") (List.mem_of_getElem? (i := 5) rfl)) (fun _ h9 => h9) rfl dX0_reachesBy_72 ?_
            obtain ⟨r30, hc31, hM⟩ := bnd1_at hM
            refine cm_i (w2 := (cSearch Y zA (aS 0) zZ_7 lZ ++ cStand Y aS (hT 0) vS gS_22 ++ cTold Y hT tT)) (va_runV (As := [.int (zZ_7 0 3), .int (zZ_7 0 4)]) (rest := []) ⟨hx, hb, hml, hown, hts⟩ (ctX1_areBeside l D Y aS hT vS H.size gS_22 tT (zZ_7 0 3) (zZ_7 0 4) r30 hc31) (cwV 2 hts gX0_reachesBy_X1_areBeside rfl rfl rfl (by decide +kernel) ⟨Nat.le_of_ble_eq_true rfl, Nat.le_of_ble_eq_true rfl⟩) (pcW_V (ci := 1) (q0 := 9) hK hP (hD.same rfl) [9, 10, 11, 12, 13, 14, 15, 16, 17, 18, 19] rfl (pc_map (pc_cons rfl (pc_cons rfl (pc_cons rfl (pc_cons rfl (pc_cons rfl (pc_cons rfl (pc_cons rfl (pc_cons rfl (pc_cons rfl (pc_cons rfl (pc_cons rfl pc_nil)))))))))))) rfl rfl) rfl rfl hl.1 rfl (lv_room (Nat.le_of_ble_eq_true rfl)) dX0_reachesBy_75 ⟨Nat.zero_le _, Nat.zero_le _⟩) hP (hD.same rfl) hS hA [9, 10, 11, 12, 13, 14, 15, 16, 17, 18, 19] (pc_map (pc_cons rfl (pc_cons rfl (pc_cons rfl (pc_cons rfl (pc_cons rfl (pc_cons rfl (pc_cons rfl (pc_cons rfl (pc_cons rfl (pc_cons rfl (pc_cons rfl pc_nil)))))))))))) (up_old rfl rfl (up_old rfl rfl (up_old rfl rfl (up_old rfl rfl (up_old rfl rfl (up_old rfl rfl (up_old rfl rfl (up_old rfl rfl (up_old rfl rfl (up_new 0 rfl (up_new 1 rfl (up_new 2 rfl (up_new 3 rfl (up_new 4 rfl (up_new 5 rfl (up_new 6 rfl (up_new 7 rfl (up_new 8 rfl (up_new 9 rfl (up_new 10 rfl up_nil)))))))))))))))))))) (fun H locs hP hS => ?_)
            refine lv_goto (tgt := 88) hx hb dX0_reachesBy_78 (by decide) ?_
            exact hJ25 r30 hM H locs ls hP hS (lv_sub hl [0, 1, 2, 3, 4, 5, 6] rfl)
noncomputable def BX0_reaches_1_55 (tT : GS) (k10 : GS → GS → Option (Int32 × GS × (Nat → Int64) × GS)) (k15 : GS → GS → Option (Int32 × GS × (Nat → Int64) × GS)) (rec19 : Int32 → GS → GS → Option (Int32 × GS × (Nat → Int64) × GS)) (x16 : Int32) (zZ_17 : GS) (gS_18 : GS) : Option (Int32 × GS × (Nat → Int64) × GS) := if (tT 0 1) ≤ x16 then (k10 zZ_17 gS_18) else (bnd1 (MX0_mayHelp zZ_17 x16 (1 : Int32)) fun (r21 : Int32) => jn2 (fun (zZ_23 : GS) (gS_24 : GS) => nm (x16 + 1) fun (x26 : Int32) => rec19 x26 zZ_23 gS_24) (fun k25 => if r21 = 0 then (k25 zZ_17 gS_18) else (bnd3 (MX0_reachesBy_1 zZ_17 gS_18 tT x16) fun (r28 : Int32) (zZ_29 : GS) (gS_30 : GS) => if r28 = 0 then (k25 zZ_29 gS_30) else (k15 zZ_29 gS_30))))
noncomputable def MX0_reaches_1 (zZ : GS) (lZ : Nat → Int64) (gS : GS) (tT : GS) : Option (Int32 × GS × (Nat → Int64) × GS) := jn0 (some ((0 : Int32), zZ, lZ, gS)) (fun k1 => bnd1 (MX1_placesKey gS tT) fun (r2 : Int64) => nm ((r2 * (8 : Int64)) + ((1 : Int32).toInt64)) fun (y4 : Int64) => nm ((((y4 * (-7046029254386353131 : Int64)).toUInt64 >>> ((52 : Int32).toInt64.toUInt64 &&& Int64.toUInt64 63)).toInt64).toInt32) fun (x5 : Int32) => chkI x5 4096 (if (lg_cmp (lZ x5.toNatClampNeg) y4) = 0 then (some ((0 : Int32), zZ, lZ, gS)) else (jn2 (fun (zZ_8 : GS) (gS_9 : GS) => chkI x5 4096 (nm (vp_updL lZ x5.toNatClampNeg y4) fun (lZ_12 : Nat → Int64) => some ((0 : Int32), zZ_8, lZ_12, gS_9))) (fun k10 => jn2 (fun (zZ_13 : GS) (gS_14 : GS) => some ((1 : Int32), zZ_13, lZ, gS_14)) (fun k15 => lq3 (BX0_reaches_1_55 tT k10 k15) FU (0 : Int32) zZ gS)))))
abbrev rmX0_reaches_1 : Room := { frames := 6, cells := 0, slots := 0, locals := 240 }
set_option maxHeartbeats 4000000 in
set_option maxRecDepth 100000 in
theorem ctX0_reaches_1 (l : Launch) (D : va_G) (Y : Nat → ClassId) (zA : Nat → Nat) (aS : Nat → Nat) (hT : Nat → Nat) (vS : Nat) (sz : Nat) (zZ : GS) (lZ : Nat → Int64) (gS : GS) (tT : GS) (rr : Int32) (zZz : GS) (lZz : Nat → Int64) (gSz : GS) (hM : MX0_reaches_1 zZ lZ gS tT = some (rr, zZz, lZz, gSz)) : Met l yX0_reaches wsX0_reaches rmX0_reaches_1 (pcN [.ref (zA 0), .int (1 : Int32)] sz D Y (cSearch Y zA (aS 0) zZ lZ ++ cStand Y aS (hT 0) vS gS ++ cTold Y hT tT)) (qiW rr D (cSearch Y zA (aS 0) zZz lZz ++ cStand Y aS (hT 0) vS gSz ++ cTold Y hT tT) (va_A (cSearch Y zA (aS 0) zZ lZ ++ cStand Y aS (hT 0) vS gS ++ cTold Y hT tT) sz)) 0 0 (va_A (cSearch Y zA (aS 0) zZ lZ ++ cStand Y aS (hT 0) vS gS ++ cTold Y hT tT) sz) := by
  refine Met.ofW (cc := cX0_reaches) (maxL := 6) (ret := (some .boolean)) (by decide) rfl ?_
  intro p e s m args below meth c s₁ B hml hv
  obtain ⟨⟨rfl, hsz, hP, hK, hD0⟩, hNF⟩ := hv
  have hx := B.exec
  have hb := B.bytes
  have hr := B.returns
  have hts := atoms_spec (ws := wsX0_reaches) B.pre
  have hown : s.vm.findClass RX0 = some m.cls := findClass_of_methodNamed B.named
  have hlocks := B.notSynchronized
  subst hsz
  have hD := hD0.self (sz := s.heap.size)
  generalize hAe : va_A (cSearch Y zA (aS 0) zZ lZ ++ cStand Y aS (hT 0) vS gS ++ cTold Y hT tT) s.heap.size = A at hD ⊢
  have hA : ∀ q : Nat, s.heap.size ≤ q → A q := fun q h => by rw [← hAe]; exact Or.inr h
  have hS : va_S A s.heap s.heap [] := va_S.rf
  have hi0 : ∀ w ∈ wsX00, w ∈ wsX0_reaches := fun w h => List.mem_cons_of_mem _ (List.mem_append_left _ (List.mem_append_left _ (List.mem_append_right _ h)))
  have hi1 : ∀ w ∈ wsX10, w ∈ wsX0_reaches := fun w h => List.mem_cons_of_mem _ (List.mem_append_left _ (List.mem_append_right _ h))
  have hi3 : ∀ w ∈ wsX30, w ∈ wsX0_reaches := fun w h => List.mem_cons_of_mem _ (List.mem_append_right _ h)
  have hl := lv_entry ([.ref (zA 0), .int (1 : Int32)]) (n := 6) (Nat.le_of_ble_eq_true rfl)
  rw [lg_entry_eq]
  generalize (lg_sl ([.ref (zA 0), .int (1 : Int32)]) ++ List.replicate (6 - (lg_sl ([.ref (zA 0), .int (1 : Int32)])).length) Slot.unset).toArray = ls at hl ⊢
  have hl : lv_has ls 6 [(0, .ref (zA 0)), (1, .int (1 : Int32))] := hl
  obtain ⟨QQ, hQQ⟩ : ∃ Q : State → Prop, Q = MQ below (qiW rr D (cSearch Y zA (aS 0) zZz lZz ++ cStand Y aS (hT 0) vS gSz ++ cTold Y hT tT) A) ([.ref (zA 0), .int (1 : Int32)] : List Value).toArray s 0 0 A := ⟨_, rfl⟩
  rw [← hQQ]
  unfold MX0_reaches_1 at hM
  suffices hI : ∀ (H : Heap) (locs : List Loc), va_P D vwCl (cSearch Y zA (aS 0) zZ lZ ++ cStand Y aS (hT 0) vS gS ++ cTold Y hT tT) H → va_S A s.heap H locs → W p l e (headSpec wsX0_reaches rmX0_reaches_1).room s m ([.ref (zA 0), .int (1 : Int32)] : List Value).toArray below meth c H locs 0 0 QQ (F0 m 0 ls []) from hI _ _ hP hS
  clear hP hS
  intro H locs hP hS
  refine lv_iload_n hx hb dX0_reaches_0 rfl (lv_at hl 1 rfl) ?_
  refine lv_iconst (v := (1 : Int32)) hx hb dX0_reaches_1 (by decide) ?_
  refine jn0_at (∀ (H : Heap) (locs : List Loc) (ls : Array Slot), va_P D vwCl (cSearch Y zA (aS 0) zZ lZ ++ cStand Y aS (hT 0) vS gS ++ cTold Y hT tT) H → va_S A s.heap H locs → lv_has ls 6 [] → W p l e (headSpec wsX0_reaches rmX0_reaches_1).room s m ([.ref (zA 0), .int (1 : Int32)] : List Value).toArray below meth c H locs 0 0 QQ (F0 m 10 ls [])) hM (fun  hM H locs ls hP hS hl => ?_) (fun k1 hJ1 hM => ?_)
  · refine lv_iconst (v := (0 : Int32)) hx hb dX0_reaches_10 (by decide) ?_
    cases hM
    rw [hQQ]
    exact W.zret (ty := .boolean) hx hb hr rfl (fun t ht hW => ⟨⟨_, (), rfl, rfl, by show va_P D vwCl _ t.heap; rw [ht]; exact hP⟩, hS.F ht⟩) hS.2.2 dX0_reaches_11
  · refine lv_icmp_lt (tgt := 10) hx hb dX0_reaches_2 (by decide) (fun c => absurd c (by decide)) (fun _ => ?_)
    refine lv_iload_n hx hb dX0_reaches_5 rfl (lv_at hl 1 rfl) ?_
    refine lv_iconst (v := (5 : Int32)) hx hb dX0_reaches_6 (by decide) ?_
    refine lv_icmp_le (tgt := 12) hx hb dX0_reaches_7 (by decide) (fun _ => ?_) (fun c => absurd c (by decide))
    refine lv_aload_n hx hb dX0_reaches_12 rfl (lv_at hl 0 rfl) ?_
    refine va_get hx hb hts hi0 hown hK hP 0 rfl rfl 0 (by decide) (hts (.fieldLink RX0 20 "NightPlots$Search" "standing" "LNightPlots$Standing;") (List.mem_of_getElem? (i := 1) rfl)) (fun _ h9 => h9) rfl dX0_reaches_13 ?_
    obtain ⟨r2, hc3, hM⟩ := bnd1_at hM
    refine cm_l (w2 := (cSearch Y zA (aS 0) zZ lZ ++ cStand Y aS (hT 0) vS gS ++ cTold Y hT tT)) (va_runV (As := []) (rest := []) ⟨hx, hb, hml, hown, hts⟩ (ctX1_placesKey l D Y aS hT vS H.size gS tT r2 hc3) (cwV 0 hts gX0_reaches_X1_placesKey rfl rfl rfl (by decide +kernel) ⟨Nat.le_of_ble_eq_true rfl, Nat.le_of_ble_eq_true rfl⟩) (pcW_V (ci := 1) (q0 := 9) hK hP (hD.same rfl) [9, 10, 11, 12, 13, 14, 15, 16, 17, 18, 19] rfl (pc_map (pc_cons rfl (pc_cons rfl (pc_cons rfl (pc_cons rfl (pc_cons rfl (pc_cons rfl (pc_cons rfl (pc_cons rfl (pc_cons rfl (pc_cons rfl (pc_cons rfl pc_nil)))))))))))) rfl rfl) rfl rfl hl.1 rfl (lv_room (Nat.le_of_ble_eq_true rfl)) dX0_reaches_16 ⟨Nat.zero_le _, Nat.zero_le _⟩) hP (hD.same rfl) hS hA [9, 10, 11, 12, 13, 14, 15, 16, 17, 18, 19] (pc_map (pc_cons rfl (pc_cons rfl (pc_cons rfl (pc_cons rfl (pc_cons rfl (pc_cons rfl (pc_cons rfl (pc_cons rfl (pc_cons rfl (pc_cons rfl (pc_cons rfl pc_nil)))))))))))) (up_old rfl rfl (up_old rfl rfl (up_old rfl rfl (up_old rfl rfl (up_old rfl rfl (up_old rfl rfl (up_old rfl rfl (up_old rfl rfl (up_old rfl rfl (up_new 0 rfl (up_new 1 rfl (up_new 2 rfl (up_new 3 rfl (up_new 4 rfl (up_new 5 rfl (up_new 6 rfl (up_new 7 rfl (up_new 8 rfl (up_new 9 rfl (up_new 10 rfl up_nil)))))))))))))))))))) (fun H locs hP hS => ?_)
    refine lv_ldc2 (v := (8 : Int64)) hx hb hown (hts (.constantLong RX0 46 (8)) (List.mem_of_getElem? (i := 2) rfl)) dX0_reaches_19 ?_
    refine lv_lmul hx hb dX0_reaches_22 ?_
    refine lv_iload_n hx hb dX0_reaches_23 rfl (lv_at hl 1 rfl) ?_
    refine lv_i2l (v := (1 : Int32).toInt64) hx hb dX0_reaches_24 rfl ?_
    refine lv_ladd hx hb dX0_reaches_25 ?_
    refine lv_topl (fun y4 ey4 => ?_)
    replace hM := nm_at hM ey4
    refine lv_lstore_n (lv' := [(2, .long y4), (0, .ref (zA 0)), (1, .int (1 : Int32))]) hx hb dX0_reaches_26 rfl hl (by decide) rfl (fun ls hl => ?_)
    refine lv_lload_n hx hb dX0_reaches_27 rfl (lv_at hl 0 rfl) ?_
    refine lv_ldc2 (v := (-7046029254386353131 : Int64)) hx hb hown (hts (.constantLong RX0 48 (-7046029254386353131)) (List.mem_of_getElem? (i := 3) rfl)) dX0_reaches_28 ?_
    refine lv_lmul hx hb dX0_reaches_31 ?_
    refine lv_bipush (v := (52 : Int32)) hx hb dX0_reaches_32 (by decide) ?_
    refine lv_lushr (v := ((y4 * (-7046029254386353131 : Int64)).toUInt64 >>> ((52 : Int32).toInt64.toUInt64 &&& Int64.toUInt64 63)).toInt64) hx hb dX0_reaches_34 rfl ?_
    refine lv_l2i (v := (((y4 * (-7046029254386353131 : Int64)).toUInt64 >>> ((52 : Int32).toInt64.toUInt64 &&& Int64.toUInt64 63)).toInt64).toInt32) hx hb dX0_reaches_35 rfl ?_
    refine lv_topi (fun x5 ex5 => ?_)
    replace hM := nm_at hM ex5
    refine lv_istore (lv' := [(4, .int x5), (2, .long y4), (0, .ref (zA 0)), (1, .int (1 : Int32))]) hx hb dX0_reaches_36 hl (by decide) rfl (fun ls hl => ?_)
    refine lv_aload_n hx hb dX0_reaches_38 rfl (lv_at hl 2 rfl) ?_
    refine va_get hx hb hts hi0 hown hK hP 0 rfl rfl 2 (by decide) (hts (.fieldLink RX0 16 "NightPlots$Search" "deadEnds" "[J") (List.mem_of_getElem? (i := 4) rfl)) (fun _ h9 => h9) rfl dX0_reaches_39 ?_
    refine lv_iload hx hb dX0_reaches_42 (lv_at hl 0 rfl) ?_
    obtain ⟨hi_6, hM⟩ := chkI_at hM
    refine va_lald hx hb hK hP 2 1 rfl rfl hi_6 dX0_reaches_44 ?_
    refine lv_lload_n hx hb dX0_reaches_45 rfl (lv_at hl 1 rfl) ?_
    refine W.lcmp hx hb dX0_reaches_46 ?_
    refine lv_if_ne (tgt := 52) hx hb dX0_reaches_47 (by decide) (fun c7 => ?_) (fun c7 => ?_)
    · replace hM := if_at_neg hM c7
      refine lv_iconst (v := (0 : Int32)) hx hb dX0_reaches_52 (by decide) ?_
      refine lv_istore (lv' := [(5, .int (0 : Int32)), (4, .int x5), (2, .long y4), (0, .ref (zA 0)), (1, .int (1 : Int32))]) hx hb dX0_reaches_53 hl (by decide) rfl (fun ls hl => ?_)
      refine jn2_at (fun (zZ_8 : GS) (gS_9 : GS) => ∀ (H : Heap) (locs : List Loc) (ls : Array Slot), va_P D vwCl (cSearch Y zA (aS 0) zZ_8 lZ ++ cStand Y aS (hT 0) vS gS_9 ++ cTold Y hT tT) H → va_S A s.heap H locs → lv_has ls 6 [(0, .ref (zA 0)), (2, .long y4), (4, .int x5)] → W p l e (headSpec wsX0_reaches rmX0_reaches_1).room s m ([.ref (zA 0), .int (1 : Int32)] : List Value).toArray below meth c H locs 0 0 QQ (F0 m 98 ls [])) hM (fun zZ_8 gS_9 hM H locs ls hP hS hl => ?_) (fun k10 hJ10 hM => ?_)
      · refine lv_aload_n hx hb dX0_reaches_98 rfl (lv_at hl 0 rfl) ?_
        refine va_get hx hb hts hi0 hown hK hP 0 rfl rfl 2 (by decide) (hts (.fieldLink RX0 16 "NightPlots$Search" "deadEnds" "[J") (List.mem_of_getElem? (i := 4) rfl)) (fun _ h9 => h9) rfl dX0_reaches_99 ?_
        refine lv_iload hx hb dX0_reaches_102 (lv_at hl 2 rfl) ?_
        refine lv_lload_n hx hb dX0_reaches_104 rfl (lv_at hl 1 rfl) ?_
        obtain ⟨hi_11, hM⟩ := chkI_at hM
        refine va_last hx hb hK hP (hD.same rfl) hS 2 1 rfl rfl hi_11 dX0_reaches_105 (fun H locs hP _ hS => ?_)
        obtain ⟨lZ_12, elZ_12⟩ : ∃ z : Nat → Int64, z = (vp_updL lZ x5.toNatClampNeg y4) := ⟨_, rfl⟩
        have hP : va_P D vwCl (cSearch Y zA (aS 0) zZ_8 lZ_12 ++ cStand Y aS (hT 0) vS gS_9 ++ cTold Y hT tT) H := by rw [elZ_12]; exact hP
        replace hM := nm_at hM elZ_12
        refine lv_iconst (v := (0 : Int32)) hx hb dX0_reaches_106 (by decide) ?_
        cases hM
        rw [hQQ]
        exact W.zret (ty := .boolean) hx hb hr rfl (fun t ht hW => ⟨⟨_, (), rfl, rfl, by show va_P D vwCl _ t.heap; rw [ht]; exact hP⟩, hS.F ht⟩) hS.2.2 dX0_reaches_107
      · refine jn2_at (fun (zZ_13 : GS) (gS_14 : GS) => ∀ (H : Heap) (locs : List Loc) (ls : Array Slot), va_P D vwCl (cSearch Y zA (aS 0) zZ_13 lZ ++ cStand Y aS (hT 0) vS gS_14 ++ cTold Y hT tT) H → va_S A s.heap H locs → lv_has ls 6 [] → W p l e (headSpec wsX0_reaches rmX0_reaches_1).room s m ([.ref (zA 0), .int (1 : Int32)] : List Value).toArray below meth c H locs 0 0 QQ (F0 m 90 ls [])) hM (fun zZ_13 gS_14 hM H locs ls hP hS hl => ?_) (fun k15 hJ15 hM => ?_)
        · refine lv_iconst (v := (1 : Int32)) hx hb dX0_reaches_90 (by decide) ?_
          cases hM
          rw [hQQ]
          exact W.zret (ty := .boolean) hx hb hr rfl (fun t ht hW => ⟨⟨_, (), rfl, rfl, by show va_P D vwCl _ t.heap; rw [ht]; exact hP⟩, hS.F ht⟩) hS.2.2 dX0_reaches_91
        · refine lq3_at (fun (x16 : Int32) (zZ_17 : GS) (gS_18 : GS) => ∀ (H : Heap) (locs : List Loc) (ls : Array Slot), va_P D vwCl (cSearch Y zA (aS 0) zZ_17 lZ ++ cStand Y aS (hT 0) vS gS_18 ++ cTold Y hT tT) H → va_S A s.heap H locs → lv_has ls 6 [(0, .ref (zA 0)), (1, .int (1 : Int32)), (2, .long y4), (4, .int x5), (5, .int x16)] → W p l e (headSpec wsX0_reaches rmX0_reaches_1).room s m ([.ref (zA 0), .int (1 : Int32)] : List Value).toArray below meth c H locs 0 0 QQ (F0 m 55 ls [])) (fun rec19 x16 zZ_17 gS_18 ih19 hM H locs ls hP hS hl => ?_) FU (0 : Int32) zZ gS hM H locs ls hP hS (lv_sub hl [3, 4, 2, 1, 0] rfl)
          unfold BX0_reaches_1_55 at hM
          refine lv_iload hx hb dX0_reaches_55 (lv_at hl 4 rfl) ?_
          refine lv_aload_n hx hb dX0_reaches_57 rfl (lv_at hl 0 rfl) ?_
          refine va_get hx hb hts hi0 hown hK hP 0 rfl rfl 0 (by decide) (hts (.fieldLink RX0 20 "NightPlots$Search" "standing" "LNightPlots$Standing;") (List.mem_of_getElem? (i := 1) rfl)) (fun _ h9 => h9) rfl dX0_reaches_58 ?_
          refine va_getN hx hb hts hi1 hown hK hP 9 rfl rfl 0 (by decide) (hNF.use rfl) (fun _ h9 => h9) rfl dX0_reaches_61 ?_
          refine va_get hx hb hts hi3 hown hK hP 12 rfl rfl 1 (by decide) (hts (.fieldLink RX0 54 "NightPlots$Told" "houses" "I") (List.mem_of_getElem? (i := 5) rfl)) (fun _ h9 => h9) rfl dX0_reaches_64 ?_
          refine lv_icmp_ge (tgt := 98) hx hb dX0_reaches_67 (by decide) (fun c20 => ?_) (fun c20 => ?_)
          · replace hM := if_at_pos hM c20
            exact hJ10 zZ_17 gS_18 hM H locs ls hP hS (lv_sub hl [0, 2, 3] rfl)
          · replace hM := if_at_neg hM c20
            refine lv_aload_n hx hb dX0_reaches_70 rfl (lv_at hl 0 rfl) ?_
            refine lv_iload hx hb dX0_reaches_71 (lv_at hl 4 rfl) ?_
            refine lv_iload_n hx hb dX0_reaches_73 rfl (lv_at hl 1 rfl) ?_
            obtain ⟨r21, hc22, hM⟩ := bnd1_at hM
            refine cm_i (w2 := (cSearch Y zA (aS 0) zZ_17 lZ ++ cStand Y aS (hT 0) vS gS_18 ++ cTold Y hT tT)) (va_runV (As := [.int x16, .int (1 : Int32)]) (rest := []) ⟨hx, hb, hml, hown, hts⟩ (ctX0_mayHelp l D Y zA (aS 0) H.size zZ_17 lZ x16 (1 : Int32) r21 hc22) (cwV 2 hts gX0_reaches_X0_mayHelp rfl rfl rfl (by decide +kernel) ⟨Nat.le_of_ble_eq_true rfl, Nat.le_of_ble_eq_true rfl⟩) (pcW_V (ci := 0) (q0 := 0) hK hP (hD.same rfl) [0, 1, 2, 3, 4, 5, 6, 7, 8] rfl (pc_map (pc_cons rfl (pc_cons rfl (pc_cons rfl (pc_cons rfl (pc_cons rfl (pc_cons rfl (pc_cons rfl (pc_cons rfl (pc_cons rfl pc_nil)))))))))) rfl rfl) rfl rfl hl.1 rfl (lv_room (Nat.le_of_ble_eq_true rfl)) dX0_reaches_74 ⟨Nat.zero_le _, Nat.zero_le _⟩) hP (hD.same rfl) hS hA [0, 1, 2, 3, 4, 5, 6, 7, 8] (pc_map (pc_cons rfl (pc_cons rfl (pc_cons rfl (pc_cons rfl (pc_cons rfl (pc_cons rfl (pc_cons rfl (pc_cons rfl (pc_cons rfl pc_nil)))))))))) (up_new 0 rfl (up_new 1 rfl (up_new 2 rfl (up_new 3 rfl (up_new 4 rfl (up_new 5 rfl (up_new 6 rfl (up_new 7 rfl (up_new 8 rfl (up_old rfl rfl (up_old rfl rfl (up_old rfl rfl (up_old rfl rfl (up_old rfl rfl (up_old rfl rfl (up_old rfl rfl (up_old rfl rfl (up_old rfl rfl (up_old rfl rfl (up_old rfl rfl up_nil)))))))))))))))))))) (fun H locs hP hS => ?_)
            refine jn2_at (fun (zZ_23 : GS) (gS_24 : GS) => ∀ (H : Heap) (locs : List Loc) (ls : Array Slot), va_P D vwCl (cSearch Y zA (aS 0) zZ_23 lZ ++ cStand Y aS (hT 0) vS gS_24 ++ cTold Y hT tT) H → va_S A s.heap H locs → lv_has ls 6 [(0, .ref (zA 0)), (1, .int (1 : Int32)), (2, .long y4), (4, .int x5), (5, .int x16)] → W p l e (headSpec wsX0_reaches rmX0_reaches_1).room s m ([.ref (zA 0), .int (1 : Int32)] : List Value).toArray below meth c H locs 0 0 QQ (F0 m 92 ls [])) hM (fun zZ_23 gS_24 hM H locs ls hP hS hl => ?_) (fun k25 hJ25 hM => ?_)
            · obtain ⟨x26, ex26⟩ : ∃ z : Int32, z = (x16 + 1) := ⟨_, rfl⟩
              replace hM := nm_at hM ex26
              refine lv_iinc (v := x26) (lv' := [(5, .int x26), (0, .ref (zA 0)), (1, .int (1 : Int32)), (2, .long y4), (4, .int x5)]) hx hb dX0_reaches_92 hl (k := 4) rfl (by rw [ex26]; rfl) (by decide) rfl (fun ls hl => ?_)
              refine lv_goto (tgt := 55) hx hb dX0_reaches_95 (by decide) ?_
              exact ih19 x26 zZ_23 gS_24 hM H locs ls hP hS (lv_sub hl [1, 2, 3, 4, 0] rfl)
            · refine lv_if_eq (tgt := 92) hx hb dX0_reaches_77 (by decide) (fun c27 => ?_) (fun c27 => ?_)
              · replace hM := if_at_pos hM c27
                exact hJ25 zZ_17 gS_18 hM H locs ls hP hS (lv_sub hl [0, 1, 2, 3, 4] rfl)
              · replace hM := if_at_neg hM c27
                refine lv_aload_n hx hb dX0_reaches_80 rfl (lv_at hl 0 rfl) ?_
                refine lv_iload hx hb dX0_reaches_81 (lv_at hl 4 rfl) ?_
                refine lv_iload_n hx hb dX0_reaches_83 rfl (lv_at hl 1 rfl) ?_
                obtain ⟨r28, zZ_29, gS_30, hc31, hM⟩ := bnd3_at hM
                refine co_i (va_runS (As := [.ref (zA 0), .int x16, .int (1 : Int32)]) (rest := []) ⟨hx, hb, hml, hown, hts⟩ (ctX0_reachesBy_1 l D Y zA aS hT vS H.size zZ_17 lZ gS_18 tT x16 r28 zZ_29 gS_30 hc31) ⟨callB_of 3 hts ggX0_reaches_X0_reachesBy rfl rfl rfl (hts (.initialized RX0) (List.mem_of_getElem? (i := 17) rfl)) (hts (.methodLink RX0 63 yX0_reachesBy) (List.mem_of_getElem? (i := 21) rfl)) (by decide +kernel) ⟨Nat.le_of_ble_eq_true rfl, Nat.le_of_ble_eq_true rfl⟩, (hts (.static yX0_reachesBy) (List.mem_of_getElem? (i := 22) rfl))⟩ (pcN_S hNF (pcW_S0 hK hP (hD.same rfl))) rfl rfl hl.1 rfl (lv_room (Nat.le_of_ble_eq_true rfl)) dX0_reaches_84 ⟨Nat.zero_le _, Nat.zero_le _⟩) (hD.same rfl) hS hA (fun H locs hP hS => ?_)
                refine lv_if_eq (tgt := 92) hx hb dX0_reaches_87 (by decide) (fun c32 => ?_) (fun c32 => ?_)
                · replace hM := if_at_pos hM c32
                  exact hJ25 zZ_29 gS_30 hM H locs ls hP hS (lv_sub hl [0, 1, 2, 3, 4] rfl)
                · replace hM := if_at_neg hM c32
                  exact hJ15 zZ_29 gS_30 hM H locs ls hP hS (lv_sub hl [] rfl)
    · replace hM := if_at_pos hM c7
      refine lv_iconst (v := (0 : Int32)) hx hb dX0_reaches_50 (by decide) ?_
      cases hM
      rw [hQQ]
      exact W.zret (ty := .boolean) hx hb hr rfl (fun t ht hW => ⟨⟨_, (), rfl, rfl, by show va_P D vwCl _ t.heap; rw [ht]; exact hP⟩, hS.F ht⟩) hS.2.2 dX0_reaches_51
noncomputable def BX0_reachesBy_2_32 (r4 : Int32) (k11 : GS → (Nat → Int64) → GS → Option (Int32 × GS × (Nat → Int64) × GS)) (tT : GS) (i2 : Int32) (x3 : Int32) (k16 : Int32 → GS → (Nat → Int64) → GS → Option (Int32 × GS × (Nat → Int64) × GS)) (rec24 : Int32 → GS → (Nat → Int64) → GS → Option (Int32 × GS × (Nat → Int64) × GS)) (x20 : Int32) (zZ_21 : GS) (lZ_22 : Nat → Int64) (gS_23 : GS) : Option (Int32 × GS × (Nat → Int64) × GS) := if r4 ≤ x20 then (k11 zZ_21 lZ_22 gS_23) else (if (8 : Int32) ≤ x20 then (k11 zZ_21 lZ_22 gS_23) else (chkI x20 8 (bnd1 (MX1_moveHouse gS_23 tT i2 (zZ_21 3 x20.toNatClampNeg)) fun (gS_28 : GS) => jn4 (fun (zZ_30 : GS) (lZ_31 : Nat → Int64) (gS_32 : GS) (x33 : Int32) => bnd1 (MX1_moveHouse gS_32 tT i2 x3) fun (gS_35 : GS) => if x33 = 0 then (nm (x20 + 1) fun (x38 : Int32) => rec24 x38 zZ_30 lZ_31 gS_35) else (k16 x20 zZ_30 lZ_31 gS_35)) (fun k34 => bnd4 (MX0_reaches_1 zZ_21 lZ_22 gS_28 tT) fun (r39 : Int32) (zZ_40 : GS) (lZ_41 : Nat → Int64) (gS_42 : GS) => k34 zZ_40 lZ_41 gS_42 r39))))
noncomputable def MX0_reachesBy_2 (zZ : GS) (lZ : Nat → Int64) (gS : GS) (tT : GS) (i2 : Int32) : Option (Int32 × GS × (Nat → Int64) × GS) := chkI (2 : Int32) 6 (chkI i2 8 (nm (gS 1 i2.toNatClampNeg) fun (x3 : Int32) => bnd2 (MX1_findWays gS (zZ 3) tT i2) fun (r4 : Int32) (fR_5 : Nat → Int32) => nm (upA zZ 3 fR_5) fun (zZ_7 : GS) => jn3 (fun (zZ_8 : GS) (lZ_9 : Nat → Int64) (gS_10 : GS) => some ((0 : Int32), zZ_8, lZ_9, gS_10)) (fun k11 => jn4 (fun (x12 : Int32) (zZ_13 : GS) (lZ_14 : Nat → Int64) (gS_15 : GS) => chkI x12 8 (nm (((20 : Int32) * i2) + (zZ_13 3 x12.toNatClampNeg)) fun (x18 : Int32) => nm (up2 zZ_13 0 5 x18) fun (zZ_19 : GS) => some ((1 : Int32), zZ_19, lZ_14, gS_15))) (fun k16 => lq4 (BX0_reachesBy_2_32 r4 k11 tT i2 x3 k16) FU (0 : Int32) zZ_7 lZ gS))))
abbrev rmX0_reachesBy_2 : Room := { frames := 7, cells := 0, slots := 0, locals := 280 }
set_option maxHeartbeats 4000000 in
set_option maxRecDepth 100000 in
theorem ctX0_reachesBy_2 (l : Launch) (D : va_G) (Y : Nat → ClassId) (zA : Nat → Nat) (aS : Nat → Nat) (hT : Nat → Nat) (vS : Nat) (sz : Nat) (zZ : GS) (lZ : Nat → Int64) (gS : GS) (tT : GS) (i2 : Int32) (rr : Int32) (zZz : GS) (lZz : Nat → Int64) (gSz : GS) (hM : MX0_reachesBy_2 zZ lZ gS tT i2 = some (rr, zZz, lZz, gSz)) : Met l yX0_reachesBy wsX0_reachesBy rmX0_reachesBy_2 (pcN [.ref (zA 0), .int i2, .int (2 : Int32)] sz D Y (cSearch Y zA (aS 0) zZ lZ ++ cStand Y aS (hT 0) vS gS ++ cTold Y hT tT)) (qiW rr D (cSearch Y zA (aS 0) zZz lZz ++ cStand Y aS (hT 0) vS gSz ++ cTold Y hT tT) (va_A (cSearch Y zA (aS 0) zZ lZ ++ cStand Y aS (hT 0) vS gS ++ cTold Y hT tT) sz)) 0 0 (va_A (cSearch Y zA (aS 0) zZ lZ ++ cStand Y aS (hT 0) vS gS ++ cTold Y hT tT) sz) := by
  refine Met.ofW (cc := cX0_reachesBy) (maxL := 8) (ret := (some .boolean)) (by decide) rfl ?_
  intro p e s m args below meth c s₁ B hml hv
  obtain ⟨⟨rfl, hsz, hP, hK, hD0⟩, hNF⟩ := hv
  have hx := B.exec
  have hb := B.bytes
  have hr := B.returns
  have hts := atoms_spec (ws := wsX0_reachesBy) B.pre
  have hown : s.vm.findClass RX0 = some m.cls := findClass_of_methodNamed B.named
  have hlocks := B.notSynchronized
  subst hsz
  have hD := hD0.self (sz := s.heap.size)
  generalize hAe : va_A (cSearch Y zA (aS 0) zZ lZ ++ cStand Y aS (hT 0) vS gS ++ cTold Y hT tT) s.heap.size = A at hD ⊢
  have hA : ∀ q : Nat, s.heap.size ≤ q → A q := fun q h => by rw [← hAe]; exact Or.inr h
  have hS : va_S A s.heap s.heap [] := va_S.rf
  have hi0 : ∀ w ∈ wsX00, w ∈ wsX0_reachesBy := fun w h => List.mem_cons_of_mem _ (List.mem_append_left _ (List.mem_append_left _ (List.mem_append_right _ h)))
  have hi1 : ∀ w ∈ wsX10, w ∈ wsX0_reachesBy := fun w h => List.mem_cons_of_mem _ (List.mem_append_left _ (List.mem_append_right _ h))
  have hl := lv_entry ([.ref (zA 0), .int i2, .int (2 : Int32)]) (n := 8) (Nat.le_of_ble_eq_true rfl)
  rw [lg_entry_eq]
  generalize (lg_sl ([.ref (zA 0), .int i2, .int (2 : Int32)]) ++ List.replicate (8 - (lg_sl ([.ref (zA 0), .int i2, .int (2 : Int32)])).length) Slot.unset).toArray = ls at hl ⊢
  have hl : lv_has ls 8 [(0, .ref (zA 0)), (1, .int i2), (2, .int (2 : Int32))] := hl
  obtain ⟨QQ, hQQ⟩ : ∃ Q : State → Prop, Q = MQ below (qiW rr D (cSearch Y zA (aS 0) zZz lZz ++ cStand Y aS (hT 0) vS gSz ++ cTold Y hT tT) A) ([.ref (zA 0), .int i2, .int (2 : Int32)] : List Value).toArray s 0 0 A := ⟨_, rfl⟩
  rw [← hQQ]
  unfold MX0_reachesBy_2 at hM
  suffices hI : ∀ (H : Heap) (locs : List Loc), va_P D vwCl (cSearch Y zA (aS 0) zZ lZ ++ cStand Y aS (hT 0) vS gS ++ cTold Y hT tT) H → va_S A s.heap H locs → W p l e (headSpec wsX0_reachesBy rmX0_reachesBy_2).room s m ([.ref (zA 0), .int i2, .int (2 : Int32)] : List Value).toArray below meth c H locs 0 0 QQ (F0 m 0 ls []) from hI _ _ hP hS
  clear hP hS
  intro H locs hP hS
  refine lv_aload_n hx hb dX0_reachesBy_0 rfl (lv_at hl 0 rfl) ?_
  refine va_get hx hb hts hi0 hown hK hP 0 rfl rfl 1 (by decide) (hts (.fieldLink RX0 11 "NightPlots$Search" "ways" "[[I") (List.mem_of_getElem? (i := 1) rfl)) (fun _ h9 => h9) rfl dX0_reachesBy_1 ?_
  refine lv_iload_n hx hb dX0_reachesBy_4 rfl (lv_at hl 2 rfl) ?_
  obtain ⟨hi_1, hM⟩ := chkI_at hM
  refine va_ald2 (v := .ref (zA 5)) hx hb hK hP 1 4 rfl rfl hi_1 rfl dX0_reachesBy_5 ?_
  refine lv_astore_n (lv' := [(3, .ref (zA 5)), (0, .ref (zA 0)), (1, .int i2), (2, .int (2 : Int32))]) hx hb dX0_reachesBy_6 rfl hl (by decide) rfl (fun ls hl => ?_)
  refine lv_aload_n hx hb dX0_reachesBy_7 rfl (lv_at hl 1 rfl) ?_
  refine va_get hx hb hts hi0 hown hK hP 0 rfl rfl 0 (by decide) (hts (.fieldLink RX0 20 "NightPlots$Search" "standing" "LNightPlots$Standing;") (List.mem_of_getElem? (i := 2) rfl)) (fun _ h9 => h9) rfl dX0_reachesBy_8 ?_
  refine va_get hx hb hts hi1 hown hK hP 9 rfl rfl 1 (by decide) (hts (.fieldLink RX0 67 "NightPlots$Standing" "place" "[I") (List.mem_of_getElem? (i := 3) rfl)) (fun _ h9 => h9) rfl dX0_reachesBy_11 ?_
  refine lv_iload_n hx hb dX0_reachesBy_14 rfl (lv_at hl 2 rfl) ?_
  obtain ⟨hi_2, hM⟩ := chkI_at hM
  refine va_iald hx hb hK hP 10 0 rfl rfl hi_2 dX0_reachesBy_15 ?_
  refine lv_topi (fun x3 ex3 => ?_)
  replace hM := nm_at hM ex3
  refine lv_istore (lv' := [(4, .int x3), (3, .ref (zA 5)), (0, .ref (zA 0)), (1, .int i2), (2, .int (2 : Int32))]) hx hb dX0_reachesBy_16 hl (by decide) rfl (fun ls hl => ?_)
  refine lv_aload_n hx hb dX0_reachesBy_18 rfl (lv_at hl 2 rfl) ?_
  refine va_get hx hb hts hi0 hown hK hP 0 rfl rfl 0 (by decide) (hts (.fieldLink RX0 20 "NightPlots$Search" "standing" "LNightPlots$Standing;") (List.mem_of_getElem? (i := 2) rfl)) (fun _ h9 => h9) rfl dX0_reachesBy_19 ?_
  refine lv_iload_n hx hb dX0_reachesBy_22 rfl (lv_at hl 3 rfl) ?_
  refine lv_aload_n hx hb dX0_reachesBy_23 rfl (lv_at hl 1 rfl) ?_
  obtain ⟨r4, fR_5, hc6, hM⟩ := bnd2_at hM
  refine cm_i (w2 := (cSearch Y zA (aS 0) (upA zZ 3 fR_5) lZ ++ cStand Y aS (hT 0) vS gS ++ cTold Y hT tT)) (va_runV (As := [.int i2, .ref (zA 5)]) (rest := []) ⟨hx, hb, hml, hown, hts⟩ (ctX1_findWays l D Y aS (zA 5) hT vS H.size gS (zZ 3) tT i2 r4 fR_5 hc6) (cwV 2 hts gX0_reachesBy_X1_findWays rfl rfl rfl (by decide +kernel) ⟨Nat.le_of_ble_eq_true rfl, Nat.le_of_ble_eq_true rfl⟩) (pcW_V (ci := 1) (q0 := 9) hK hP (hD.same rfl) [9, 10, 11, 5, 12, 13, 14, 15, 16, 17, 18, 19] rfl (pc_map (pc_cons rfl (pc_cons rfl (pc_cons rfl (pc_cons rfl (pc_cons rfl (pc_cons rfl (pc_cons rfl (pc_cons rfl (pc_cons rfl (pc_cons rfl (pc_cons rfl (pc_cons rfl pc_nil))))))))))))) rfl rfl) rfl rfl hl.1 rfl (lv_room (Nat.le_of_ble_eq_true rfl)) dX0_reachesBy_24 ⟨Nat.zero_le _, Nat.zero_le _⟩) hP (hD.same rfl) hS hA [9, 10, 11, 5, 12, 13, 14, 15, 16, 17, 18, 19] (pc_map (pc_cons rfl (pc_cons rfl (pc_cons rfl (pc_cons rfl (pc_cons rfl (pc_cons rfl (pc_cons rfl (pc_cons rfl (pc_cons rfl (pc_cons rfl (pc_cons rfl (pc_cons rfl pc_nil))))))))))))) (up_old rfl rfl (up_old rfl rfl (up_old rfl rfl (up_old rfl rfl (up_old rfl rfl (up_new 3 rfl (up_old rfl rfl (up_old rfl rfl (up_old rfl rfl (up_new 0 rfl (up_new 1 rfl (up_new 2 rfl (up_new 4 rfl (up_new 5 rfl (up_new 6 rfl (up_new 7 rfl (up_new 8 rfl (up_new 9 rfl (up_new 10 rfl (up_new 11 rfl up_nil)))))))))))))))))))) (fun H locs hP hS => ?_)
  obtain ⟨zZ_7, ezZ_7⟩ : ∃ z : GS, z = (upA zZ 3 fR_5) := ⟨_, rfl⟩
  have hP : va_P D vwCl (cSearch Y zA (aS 0) zZ_7 lZ ++ cStand Y aS (hT 0) vS gS ++ cTold Y hT tT) H := by rw [ezZ_7]; exact hP
  replace hM := nm_at hM ezZ_7
  refine lv_istore (lv' := [(5, .int r4), (4, .int x3), (3, .ref (zA 5)), (0, .ref (zA 0)), (1, .int i2), (2, .int (2 : Int32))]) hx hb dX0_reachesBy_27 hl (by decide) rfl (fun ls hl => ?_)
  refine lv_iconst (v := (0 : Int32)) hx hb dX0_reachesBy_29 (by decide) ?_
  refine lv_istore (lv' := [(6, .int (0 : Int32)), (5, .int r4), (4, .int x3), (3, .ref (zA 5)), (0, .ref (zA 0)), (1, .int i2), (2, .int (2 : Int32))]) hx hb dX0_reachesBy_30 hl (by decide) rfl (fun ls hl => ?_)
  refine jn3_at (fun (zZ_8 : GS) (lZ_9 : Nat → Int64) (gS_10 : GS) => ∀ (H : Heap) (locs : List Loc) (ls : Array Slot), va_P D vwCl (cSearch Y zA (aS 0) zZ_8 lZ_9 ++ cStand Y aS (hT 0) vS gS_10 ++ cTold Y hT tT) H → va_S A s.heap H locs → lv_has ls 8 [] → W p l e (headSpec wsX0_reachesBy rmX0_reachesBy_2).room s m ([.ref (zA 0), .int i2, .int (2 : Int32)] : List Value).toArray below meth c H locs 0 0 QQ (F0 m 126 ls [])) hM (fun zZ_8 lZ_9 gS_10 hM H locs ls hP hS hl => ?_) (fun k11 hJ11 hM => ?_)
  · refine lv_iconst (v := (0 : Int32)) hx hb dX0_reachesBy_126 (by decide) ?_
    cases hM
    rw [hQQ]
    exact W.zret (ty := .boolean) hx hb hr rfl (fun t ht hW => ⟨⟨_, (), rfl, rfl, by show va_P D vwCl _ t.heap; rw [ht]; exact hP⟩, hS.F ht⟩) hS.2.2 dX0_reachesBy_127
  · refine jn4_at (fun (x12 : Int32) (zZ_13 : GS) (lZ_14 : Nat → Int64) (gS_15 : GS) => ∀ (H : Heap) (locs : List Loc) (ls : Array Slot), va_P D vwCl (cSearch Y zA (aS 0) zZ_13 lZ_14 ++ cStand Y aS (hT 0) vS gS_15 ++ cTold Y hT tT) H → va_S A s.heap H locs → lv_has ls 8 [(0, .ref (zA 0)), (1, .int i2), (3, .ref (zA 5)), (6, .int x12)] → W p l e (headSpec wsX0_reachesBy rmX0_reachesBy_2).room s m ([.ref (zA 0), .int i2, .int (2 : Int32)] : List Value).toArray below meth c H locs 0 0 QQ (F0 m 105 ls [])) hM (fun x12 zZ_13 lZ_14 gS_15 hM H locs ls hP hS hl => ?_) (fun k16 hJ16 hM => ?_)
    · refine lv_aload_n hx hb dX0_reachesBy_105 rfl (lv_at hl 0 rfl) ?_
      refine lv_bipush (v := (20 : Int32)) hx hb dX0_reachesBy_106 (by decide) ?_
      refine lv_iload_n hx hb dX0_reachesBy_108 rfl (lv_at hl 1 rfl) ?_
      refine lv_imul hx hb dX0_reachesBy_109 ?_
      refine lv_aload_n hx hb dX0_reachesBy_110 rfl (lv_at hl 2 rfl) ?_
      refine lv_iload hx hb dX0_reachesBy_111 (lv_at hl 3 rfl) ?_
      obtain ⟨hi_17, hM⟩ := chkI_at hM
      refine va_iald hx hb hK hP 5 0 rfl rfl hi_17 dX0_reachesBy_113 ?_
      refine lv_iadd hx hb dX0_reachesBy_114 ?_
      refine lv_topi (fun x18 ex18 => ?_)
      replace hM := nm_at hM ex18
      refine va_put (ty := .int) hx hb hts hi0 tyX0 tyX0_ok nmX0 hown hK hP (hD.same rfl) hS 0 rfl rfl 5 (by decide) (hts (.fieldLink RX0 31 "NightPlots$Search" "firstRoll" "I") (List.mem_of_getElem? (i := 6) rfl)) (fun _ h9 => h9) rfl (by decide +kernel) rfl rfl (Nat.le_of_ble_eq_true rfl) dX0_reachesBy_115 (fun H locs hP _ hS => ?_)
      obtain ⟨zZ_19, ezZ_19⟩ : ∃ z : GS, z = (up2 zZ_13 0 5 x18) := ⟨_, rfl⟩
      have hP : va_P D vwCl (cSearch Y zA (aS 0) zZ_19 lZ_14 ++ cStand Y aS (hT 0) vS gS_15 ++ cTold Y hT tT) H := by rw [ezZ_19]; exact hP
      replace hM := nm_at hM ezZ_19
      refine lv_iconst (v := (1 : Int32)) hx hb dX0_reachesBy_118 (by decide) ?_
      cases hM
      rw [hQQ]
      exact W.zret (ty := .boolean) hx hb hr rfl (fun t ht hW => ⟨⟨_, (), rfl, rfl, by show va_P D vwCl _ t.heap; rw [ht]; exact hP⟩, hS.F ht⟩) hS.2.2 dX0_reachesBy_119
    · refine lq4_at (fun (x20 : Int32) (zZ_21 : GS) (lZ_22 : Nat → Int64) (gS_23 : GS) => ∀ (H : Heap) (locs : List Loc) (ls : Array Slot), va_P D vwCl (cSearch Y zA (aS 0) zZ_21 lZ_22 ++ cStand Y aS (hT 0) vS gS_23 ++ cTold Y hT tT) H → va_S A s.heap H locs → lv_has ls 8 [(0, .ref (zA 0)), (1, .int i2), (2, .int (2 : Int32)), (3, .ref (zA 5)), (4, .int x3), (5, .int r4), (6, .int x20)] → W p l e (headSpec wsX0_reachesBy rmX0_reachesBy_2).room s m ([.ref (zA 0), .int i2, .int (2 : Int32)] : List Value).toArray below meth c H locs 0 0 QQ (F0 m 32 ls [])) (fun rec24 x20 zZ_21 lZ_22 gS_23 ih24 hM H locs ls hP hS hl => ?_) FU (0 : Int32) zZ_7 lZ gS hM H locs ls hP hS (lv_sub hl [4, 5, 6, 3, 2, 1, 0] rfl)
      unfold BX0_reachesBy_2_32 at hM
      refine lv_iload hx hb dX0_reachesBy_32 (lv_at hl 6 rfl) ?_
      refine lv_iload hx hb dX0_reachesBy_34 (lv_at hl 5 rfl) ?_
      refine lv_icmp_ge (tgt := 126) hx hb dX0_reachesBy_36 (by decide) (fun c25 => ?_) (fun c25 => ?_)
      · replace hM := if_at_pos hM c25
        exact hJ11 zZ_21 lZ_22 gS_23 hM H locs ls hP hS (lv_sub hl [] rfl)
      · replace hM := if_at_neg hM c25
        refine lv_iload hx hb dX0_reachesBy_39 (lv_at hl 6 rfl) ?_
        refine lv_aload_n hx hb dX0_reachesBy_41 rfl (lv_at hl 3 rfl) ?_
        refine va_alen (v := (8 : Int32)) hx hb hK hP 5 0 rfl rfl rfl dX0_reachesBy_42 ?_
        refine lv_icmp_ge (tgt := 126) hx hb dX0_reachesBy_43 (by decide) (fun c26 => ?_) (fun c26 => ?_)
        · replace hM := if_at_pos hM c26
          exact hJ11 zZ_21 lZ_22 gS_23 hM H locs ls hP hS (lv_sub hl [] rfl)
        · replace hM := if_at_neg hM c26
          refine lv_aload_n hx hb dX0_reachesBy_46 rfl (lv_at hl 0 rfl) ?_
          refine va_get hx hb hts hi0 hown hK hP 0 rfl rfl 0 (by decide) (hts (.fieldLink RX0 20 "NightPlots$Search" "standing" "LNightPlots$Standing;") (List.mem_of_getElem? (i := 2) rfl)) (fun _ h9 => h9) rfl dX0_reachesBy_47 ?_
          refine lv_iload_n hx hb dX0_reachesBy_50 rfl (lv_at hl 1 rfl) ?_
          refine lv_aload_n hx hb dX0_reachesBy_51 rfl (lv_at hl 3 rfl) ?_
          refine lv_iload hx hb dX0_reachesBy_52 (lv_at hl 6 rfl) ?_
          obtain ⟨hi_27, hM⟩ := chkI_at hM
          refine va_iald hx hb hK hP 5 0 rfl rfl hi_27 dX0_reachesBy_54 ?_
          obtain ⟨gS_28, hc29, hM⟩ := bnd1_at hM
          refine cm_v (w2 := (cSearch Y zA (aS 0) zZ_21 lZ_22 ++ cStand Y aS (hT 0) vS gS_28 ++ cTold Y hT tT)) (va_runV (As := [.int i2, .int (zZ_21 3 x20.toNatClampNeg)]) (rest := []) ⟨hx, hb, hml, hown, hts⟩ (ctX1_moveHouse l D Y aS hT vS H.size gS_23 tT i2 (zZ_21 3 x20.toNatClampNeg) gS_28 hc29) (cwV 2 hts gX0_reachesBy_X1_moveHouse rfl rfl rfl (by decide +kernel) ⟨Nat.le_of_ble_eq_true rfl, Nat.le_of_ble_eq_true rfl⟩) (pcW_V (ci := 1) (q0 := 9) hK hP (hD.same rfl) [9, 10, 11, 12, 13, 14, 15, 16, 17, 18, 19] rfl (pc_map (pc_cons rfl (pc_cons rfl (pc_cons rfl (pc_cons rfl (pc_cons rfl (pc_cons rfl (pc_cons rfl (pc_cons rfl (pc_cons rfl (pc_cons rfl (pc_cons rfl pc_nil)))))))))))) rfl rfl) rfl rfl hl.1 rfl (lv_room (Nat.le_of_ble_eq_true rfl)) dX0_reachesBy_55 ⟨Nat.zero_le _, Nat.zero_le _⟩) hP (hD.same rfl) hS hA [9, 10, 11, 12, 13, 14, 15, 16, 17, 18, 19] (pc_map (pc_cons rfl (pc_cons rfl (pc_cons rfl (pc_cons rfl (pc_cons rfl (pc_cons rfl (pc_cons rfl (pc_cons rfl (pc_cons rfl (pc_cons rfl (pc_cons rfl pc_nil)))))))))))) (up_old rfl rfl (up_old rfl rfl (up_old rfl rfl (up_old rfl rfl (up_old rfl rfl (up_old rfl rfl (up_old rfl rfl (up_old rfl rfl (up_old rfl rfl (up_new 0 rfl (up_new 1 rfl (up_new 2 rfl (up_new 3 rfl (up_new 4 rfl (up_new 5 rfl (up_new 6 rfl (up_new 7 rfl (up_new 8 rfl (up_new 9 rfl (up_new 10 rfl up_nil)))))))))))))))))))) (fun H locs hP hS => ?_)
          refine lv_iload_n hx hb dX0_reachesBy_58 rfl (lv_at hl 2 rfl) ?_
          refine lv_iconst (v := (1 : Int32)) hx hb dX0_reachesBy_59 (by decide) ?_
          refine jn4_at (fun (zZ_30 : GS) (lZ_31 : Nat → Int64) (gS_32 : GS) (x33 : Int32) => ∀ (H : Heap) (locs : List Loc) (ls : Array Slot), va_P D vwCl (cSearch Y zA (aS 0) zZ_30 lZ_31 ++ cStand Y aS (hT 0) vS gS_32 ++ cTold Y hT tT) H → va_S A s.heap H locs → lv_has ls 8 [(0, .ref (zA 0)), (1, .int i2), (2, .int (2 : Int32)), (3, .ref (zA 5)), (4, .int x3), (5, .int r4), (6, .int x20)] → W p l e (headSpec wsX0_reachesBy rmX0_reachesBy_2).room s m ([.ref (zA 0), .int i2, .int (2 : Int32)] : List Value).toArray below meth c H locs 0 0 QQ (F0 m 88 ls [.int x33])) hM (fun zZ_30 lZ_31 gS_32 x33 hM H locs ls hP hS hl => ?_) (fun k34 hJ34 hM => ?_)
          · refine lv_istore (lv' := [(7, .int x33), (0, .ref (zA 0)), (1, .int i2), (2, .int (2 : Int32)), (3, .ref (zA 5)), (4, .int x3), (5, .int r4), (6, .int x20)]) hx hb dX0_reachesBy_88 hl (by decide) rfl (fun ls hl => ?_)
            refine lv_aload_n hx hb dX0_reachesBy_90 rfl (lv_at hl 1 rfl) ?_
            refine va_get hx hb hts hi0 hown hK hP 0 rfl rfl 0 (by decide) (hts (.fieldLink RX0 20 "NightPlots$Search" "standing" "LNightPlots$Standing;") (List.mem_of_getElem? (i := 2) rfl)) (fun _ h9 => h9) rfl dX0_reachesBy_91 ?_
            refine lv_iload_n hx hb dX0_reachesBy_94 rfl (lv_at hl 2 rfl) ?_
            refine lv_iload hx hb dX0_reachesBy_95 (lv_at hl 5 rfl) ?_
            obtain ⟨gS_35, hc36, hM⟩ := bnd1_at hM
            refine cm_v (w2 := (cSearch Y zA (aS 0) zZ_30 lZ_31 ++ cStand Y aS (hT 0) vS gS_35 ++ cTold Y hT tT)) (va_runV (As := [.int i2, .int x3]) (rest := []) ⟨hx, hb, hml, hown, hts⟩ (ctX1_moveHouse l D Y aS hT vS H.size gS_32 tT i2 x3 gS_35 hc36) (cwV 2 hts gX0_reachesBy_X1_moveHouse rfl rfl rfl (by decide +kernel) ⟨Nat.le_of_ble_eq_true rfl, Nat.le_of_ble_eq_true rfl⟩) (pcW_V (ci := 1) (q0 := 9) hK hP (hD.same rfl) [9, 10, 11, 12, 13, 14, 15, 16, 17, 18, 19] rfl (pc_map (pc_cons rfl (pc_cons rfl (pc_cons rfl (pc_cons rfl (pc_cons rfl (pc_cons rfl (pc_cons rfl (pc_cons rfl (pc_cons rfl (pc_cons rfl (pc_cons rfl pc_nil)))))))))))) rfl rfl) rfl rfl hl.1 rfl (lv_room (Nat.le_of_ble_eq_true rfl)) dX0_reachesBy_97 ⟨Nat.zero_le _, Nat.zero_le _⟩) hP (hD.same rfl) hS hA [9, 10, 11, 12, 13, 14, 15, 16, 17, 18, 19] (pc_map (pc_cons rfl (pc_cons rfl (pc_cons rfl (pc_cons rfl (pc_cons rfl (pc_cons rfl (pc_cons rfl (pc_cons rfl (pc_cons rfl (pc_cons rfl (pc_cons rfl pc_nil)))))))))))) (up_old rfl rfl (up_old rfl rfl (up_old rfl rfl (up_old rfl rfl (up_old rfl rfl (up_old rfl rfl (up_old rfl rfl (up_old rfl rfl (up_old rfl rfl (up_new 0 rfl (up_new 1 rfl (up_new 2 rfl (up_new 3 rfl (up_new 4 rfl (up_new 5 rfl (up_new 6 rfl (up_new 7 rfl (up_new 8 rfl (up_new 9 rfl (up_new 10 rfl up_nil)))))))))))))))))))) (fun H locs hP hS => ?_)
            refine lv_iload hx hb dX0_reachesBy_100 (lv_at hl 0 rfl) ?_
            refine lv_if_eq (tgt := 120) hx hb dX0_reachesBy_102 (by decide) (fun c37 => ?_) (fun c37 => ?_)
            · replace hM := if_at_pos hM c37
              obtain ⟨x38, ex38⟩ : ∃ z : Int32, z = (x20 + 1) := ⟨_, rfl⟩
              replace hM := nm_at hM ex38
              refine lv_iinc (v := x38) (lv' := [(6, .int x38), (7, .int x33), (0, .ref (zA 0)), (1, .int i2), (2, .int (2 : Int32)), (3, .ref (zA 5)), (4, .int x3), (5, .int r4)]) hx hb dX0_reachesBy_120 hl (k := 7) rfl (by rw [ex38]; rfl) (by decide) rfl (fun ls hl => ?_)
              refine lv_goto (tgt := 32) hx hb dX0_reachesBy_123 (by decide) ?_
              exact ih24 x38 zZ_30 lZ_31 gS_35 hM H locs ls hP hS (lv_sub hl [2, 3, 4, 5, 6, 7, 0] rfl)
            · replace hM := if_at_neg hM c37
              exact hJ16 x20 zZ_30 lZ_31 gS_35 hM H locs ls hP hS (lv_sub hl [1, 2, 4, 7] rfl)
          · refine lv_icmp_ne (tgt := 81) hx hb dX0_reachesBy_60 (by decide) (fun _ => ?_) (fun c => absurd c (by decide))
            refine lv_aload_n hx hb dX0_reachesBy_81 rfl (lv_at hl 0 rfl) ?_
            refine lv_iload_n hx hb dX0_reachesBy_82 rfl (lv_at hl 2 rfl) ?_
            refine lv_iconst (v := (1 : Int32)) hx hb dX0_reachesBy_83 (by decide) ?_
            refine lv_isub hx hb dX0_reachesBy_84 ?_
            rw [show ((2 : Int32) - (1 : Int32)) = (1 : Int32) from by decide]
            obtain ⟨r39, zZ_40, lZ_41, gS_42, hc43, hM⟩ := bnd4_at hM
            refine co_i (va_runS (As := [.ref (zA 0), .int (1 : Int32)]) (rest := []) ⟨hx, hb, hml, hown, hts⟩ (ctX0_reaches_1 l D Y zA aS hT vS H.size zZ_21 lZ_22 gS_28 tT r39 zZ_40 lZ_41 gS_42 hc43) ⟨callB_of 2 hts ggX0_reachesBy_X0_reaches rfl rfl rfl (hts (.initialized RX0) (List.mem_of_getElem? (i := 69) rfl)) (hts (.methodLink RX0 82 yX0_reaches) (List.mem_of_getElem? (i := 67) rfl)) (by decide +kernel) ⟨Nat.le_of_ble_eq_true rfl, Nat.le_of_ble_eq_true rfl⟩, (hts (.static yX0_reaches) (List.mem_of_getElem? (i := 68) rfl))⟩ (pcN_S hNF (pcW_S0 hK hP (hD.same rfl))) rfl rfl hl.1 rfl (lv_room (Nat.le_of_ble_eq_true rfl)) dX0_reachesBy_85 ⟨Nat.zero_le _, Nat.zero_le _⟩) (hD.same rfl) hS hA (fun H locs hP hS => ?_)
            exact hJ34 zZ_40 lZ_41 gS_42 r39 hM H locs ls hP hS (lv_sub hl [0, 1, 2, 3, 4, 5, 6] rfl)
noncomputable def BX0_reaches_2_55 (tT : GS) (k11 : GS → (Nat → Int64) → GS → Option (Int32 × GS × (Nat → Int64) × GS)) (k17 : GS → (Nat → Int64) → GS → Option (Int32 × GS × (Nat → Int64) × GS)) (rec22 : Int32 → GS → (Nat → Int64) → GS → Option (Int32 × GS × (Nat → Int64) × GS)) (x18 : Int32) (zZ_19 : GS) (lZ_20 : Nat → Int64) (gS_21 : GS) : Option (Int32 × GS × (Nat → Int64) × GS) := if (tT 0 1) ≤ x18 then (k11 zZ_19 lZ_20 gS_21) else (bnd1 (MX0_mayHelp zZ_19 x18 (2 : Int32)) fun (r24 : Int32) => jn3 (fun (zZ_26 : GS) (lZ_27 : Nat → Int64) (gS_28 : GS) => nm (x18 + 1) fun (x30 : Int32) => rec22 x30 zZ_26 lZ_27 gS_28) (fun k29 => if r24 = 0 then (k29 zZ_19 lZ_20 gS_21) else (bnd4 (MX0_reachesBy_2 zZ_19 lZ_20 gS_21 tT x18) fun (r32 : Int32) (zZ_33 : GS) (lZ_34 : Nat → Int64) (gS_35 : GS) => if r32 = 0 then (k29 zZ_33 lZ_34 gS_35) else (k17 zZ_33 lZ_34 gS_35))))
noncomputable def MX0_reaches_2 (zZ : GS) (lZ : Nat → Int64) (gS : GS) (tT : GS) : Option (Int32 × GS × (Nat → Int64) × GS) := jn0 (some ((0 : Int32), zZ, lZ, gS)) (fun k1 => bnd1 (MX1_placesKey gS tT) fun (r2 : Int64) => nm ((r2 * (8 : Int64)) + ((2 : Int32).toInt64)) fun (y4 : Int64) => nm ((((y4 * (-7046029254386353131 : Int64)).toUInt64 >>> ((52 : Int32).toInt64.toUInt64 &&& Int64.toUInt64 63)).toInt64).toInt32) fun (x5 : Int32) => chkI x5 4096 (if (lg_cmp (lZ x5.toNatClampNeg) y4) = 0 then (some ((0 : Int32), zZ, lZ, gS)) else (jn3 (fun (zZ_8 : GS) (lZ_9 : Nat → Int64) (gS_10 : GS) => chkI x5 4096 (nm (vp_updL lZ_9 x5.toNatClampNeg y4) fun (lZ_13 : Nat → Int64) => some ((0 : Int32), zZ_8, lZ_13, gS_10))) (fun k11 => jn3 (fun (zZ_14 : GS) (lZ_15 : Nat → Int64) (gS_16 : GS) => some ((1 : Int32), zZ_14, lZ_15, gS_16)) (fun k17 => lq4 (BX0_reaches_2_55 tT k11 k17) FU (0 : Int32) zZ lZ gS)))))
abbrev rmX0_reaches_2 : Room := { frames := 8, cells := 0, slots := 0, locals := 320 }
set_option maxHeartbeats 4000000 in
set_option maxRecDepth 100000 in
theorem ctX0_reaches_2 (l : Launch) (D : va_G) (Y : Nat → ClassId) (zA : Nat → Nat) (aS : Nat → Nat) (hT : Nat → Nat) (vS : Nat) (sz : Nat) (zZ : GS) (lZ : Nat → Int64) (gS : GS) (tT : GS) (rr : Int32) (zZz : GS) (lZz : Nat → Int64) (gSz : GS) (hM : MX0_reaches_2 zZ lZ gS tT = some (rr, zZz, lZz, gSz)) : Met l yX0_reaches wsX0_reaches rmX0_reaches_2 (pcN [.ref (zA 0), .int (2 : Int32)] sz D Y (cSearch Y zA (aS 0) zZ lZ ++ cStand Y aS (hT 0) vS gS ++ cTold Y hT tT)) (qiW rr D (cSearch Y zA (aS 0) zZz lZz ++ cStand Y aS (hT 0) vS gSz ++ cTold Y hT tT) (va_A (cSearch Y zA (aS 0) zZ lZ ++ cStand Y aS (hT 0) vS gS ++ cTold Y hT tT) sz)) 0 0 (va_A (cSearch Y zA (aS 0) zZ lZ ++ cStand Y aS (hT 0) vS gS ++ cTold Y hT tT) sz) := by
  refine Met.ofW (cc := cX0_reaches) (maxL := 6) (ret := (some .boolean)) (by decide) rfl ?_
  intro p e s m args below meth c s₁ B hml hv
  obtain ⟨⟨rfl, hsz, hP, hK, hD0⟩, hNF⟩ := hv
  have hx := B.exec
  have hb := B.bytes
  have hr := B.returns
  have hts := atoms_spec (ws := wsX0_reaches) B.pre
  have hown : s.vm.findClass RX0 = some m.cls := findClass_of_methodNamed B.named
  have hlocks := B.notSynchronized
  subst hsz
  have hD := hD0.self (sz := s.heap.size)
  generalize hAe : va_A (cSearch Y zA (aS 0) zZ lZ ++ cStand Y aS (hT 0) vS gS ++ cTold Y hT tT) s.heap.size = A at hD ⊢
  have hA : ∀ q : Nat, s.heap.size ≤ q → A q := fun q h => by rw [← hAe]; exact Or.inr h
  have hS : va_S A s.heap s.heap [] := va_S.rf
  have hi0 : ∀ w ∈ wsX00, w ∈ wsX0_reaches := fun w h => List.mem_cons_of_mem _ (List.mem_append_left _ (List.mem_append_left _ (List.mem_append_right _ h)))
  have hi1 : ∀ w ∈ wsX10, w ∈ wsX0_reaches := fun w h => List.mem_cons_of_mem _ (List.mem_append_left _ (List.mem_append_right _ h))
  have hi3 : ∀ w ∈ wsX30, w ∈ wsX0_reaches := fun w h => List.mem_cons_of_mem _ (List.mem_append_right _ h)
  have hl := lv_entry ([.ref (zA 0), .int (2 : Int32)]) (n := 6) (Nat.le_of_ble_eq_true rfl)
  rw [lg_entry_eq]
  generalize (lg_sl ([.ref (zA 0), .int (2 : Int32)]) ++ List.replicate (6 - (lg_sl ([.ref (zA 0), .int (2 : Int32)])).length) Slot.unset).toArray = ls at hl ⊢
  have hl : lv_has ls 6 [(0, .ref (zA 0)), (1, .int (2 : Int32))] := hl
  obtain ⟨QQ, hQQ⟩ : ∃ Q : State → Prop, Q = MQ below (qiW rr D (cSearch Y zA (aS 0) zZz lZz ++ cStand Y aS (hT 0) vS gSz ++ cTold Y hT tT) A) ([.ref (zA 0), .int (2 : Int32)] : List Value).toArray s 0 0 A := ⟨_, rfl⟩
  rw [← hQQ]
  unfold MX0_reaches_2 at hM
  suffices hI : ∀ (H : Heap) (locs : List Loc), va_P D vwCl (cSearch Y zA (aS 0) zZ lZ ++ cStand Y aS (hT 0) vS gS ++ cTold Y hT tT) H → va_S A s.heap H locs → W p l e (headSpec wsX0_reaches rmX0_reaches_2).room s m ([.ref (zA 0), .int (2 : Int32)] : List Value).toArray below meth c H locs 0 0 QQ (F0 m 0 ls []) from hI _ _ hP hS
  clear hP hS
  intro H locs hP hS
  refine lv_iload_n hx hb dX0_reaches_0 rfl (lv_at hl 1 rfl) ?_
  refine lv_iconst (v := (1 : Int32)) hx hb dX0_reaches_1 (by decide) ?_
  refine jn0_at (∀ (H : Heap) (locs : List Loc) (ls : Array Slot), va_P D vwCl (cSearch Y zA (aS 0) zZ lZ ++ cStand Y aS (hT 0) vS gS ++ cTold Y hT tT) H → va_S A s.heap H locs → lv_has ls 6 [] → W p l e (headSpec wsX0_reaches rmX0_reaches_2).room s m ([.ref (zA 0), .int (2 : Int32)] : List Value).toArray below meth c H locs 0 0 QQ (F0 m 10 ls [])) hM (fun  hM H locs ls hP hS hl => ?_) (fun k1 hJ1 hM => ?_)
  · refine lv_iconst (v := (0 : Int32)) hx hb dX0_reaches_10 (by decide) ?_
    cases hM
    rw [hQQ]
    exact W.zret (ty := .boolean) hx hb hr rfl (fun t ht hW => ⟨⟨_, (), rfl, rfl, by show va_P D vwCl _ t.heap; rw [ht]; exact hP⟩, hS.F ht⟩) hS.2.2 dX0_reaches_11
  · refine lv_icmp_lt (tgt := 10) hx hb dX0_reaches_2 (by decide) (fun c => absurd c (by decide)) (fun _ => ?_)
    refine lv_iload_n hx hb dX0_reaches_5 rfl (lv_at hl 1 rfl) ?_
    refine lv_iconst (v := (5 : Int32)) hx hb dX0_reaches_6 (by decide) ?_
    refine lv_icmp_le (tgt := 12) hx hb dX0_reaches_7 (by decide) (fun _ => ?_) (fun c => absurd c (by decide))
    refine lv_aload_n hx hb dX0_reaches_12 rfl (lv_at hl 0 rfl) ?_
    refine va_get hx hb hts hi0 hown hK hP 0 rfl rfl 0 (by decide) (hts (.fieldLink RX0 20 "NightPlots$Search" "standing" "LNightPlots$Standing;") (List.mem_of_getElem? (i := 1) rfl)) (fun _ h9 => h9) rfl dX0_reaches_13 ?_
    obtain ⟨r2, hc3, hM⟩ := bnd1_at hM
    refine cm_l (w2 := (cSearch Y zA (aS 0) zZ lZ ++ cStand Y aS (hT 0) vS gS ++ cTold Y hT tT)) (va_runV (As := []) (rest := []) ⟨hx, hb, hml, hown, hts⟩ (ctX1_placesKey l D Y aS hT vS H.size gS tT r2 hc3) (cwV 0 hts gX0_reaches_X1_placesKey rfl rfl rfl (by decide +kernel) ⟨Nat.le_of_ble_eq_true rfl, Nat.le_of_ble_eq_true rfl⟩) (pcW_V (ci := 1) (q0 := 9) hK hP (hD.same rfl) [9, 10, 11, 12, 13, 14, 15, 16, 17, 18, 19] rfl (pc_map (pc_cons rfl (pc_cons rfl (pc_cons rfl (pc_cons rfl (pc_cons rfl (pc_cons rfl (pc_cons rfl (pc_cons rfl (pc_cons rfl (pc_cons rfl (pc_cons rfl pc_nil)))))))))))) rfl rfl) rfl rfl hl.1 rfl (lv_room (Nat.le_of_ble_eq_true rfl)) dX0_reaches_16 ⟨Nat.zero_le _, Nat.zero_le _⟩) hP (hD.same rfl) hS hA [9, 10, 11, 12, 13, 14, 15, 16, 17, 18, 19] (pc_map (pc_cons rfl (pc_cons rfl (pc_cons rfl (pc_cons rfl (pc_cons rfl (pc_cons rfl (pc_cons rfl (pc_cons rfl (pc_cons rfl (pc_cons rfl (pc_cons rfl pc_nil)))))))))))) (up_old rfl rfl (up_old rfl rfl (up_old rfl rfl (up_old rfl rfl (up_old rfl rfl (up_old rfl rfl (up_old rfl rfl (up_old rfl rfl (up_old rfl rfl (up_new 0 rfl (up_new 1 rfl (up_new 2 rfl (up_new 3 rfl (up_new 4 rfl (up_new 5 rfl (up_new 6 rfl (up_new 7 rfl (up_new 8 rfl (up_new 9 rfl (up_new 10 rfl up_nil)))))))))))))))))))) (fun H locs hP hS => ?_)
    refine lv_ldc2 (v := (8 : Int64)) hx hb hown (hts (.constantLong RX0 46 (8)) (List.mem_of_getElem? (i := 2) rfl)) dX0_reaches_19 ?_
    refine lv_lmul hx hb dX0_reaches_22 ?_
    refine lv_iload_n hx hb dX0_reaches_23 rfl (lv_at hl 1 rfl) ?_
    refine lv_i2l (v := (2 : Int32).toInt64) hx hb dX0_reaches_24 rfl ?_
    refine lv_ladd hx hb dX0_reaches_25 ?_
    refine lv_topl (fun y4 ey4 => ?_)
    replace hM := nm_at hM ey4
    refine lv_lstore_n (lv' := [(2, .long y4), (0, .ref (zA 0)), (1, .int (2 : Int32))]) hx hb dX0_reaches_26 rfl hl (by decide) rfl (fun ls hl => ?_)
    refine lv_lload_n hx hb dX0_reaches_27 rfl (lv_at hl 0 rfl) ?_
    refine lv_ldc2 (v := (-7046029254386353131 : Int64)) hx hb hown (hts (.constantLong RX0 48 (-7046029254386353131)) (List.mem_of_getElem? (i := 3) rfl)) dX0_reaches_28 ?_
    refine lv_lmul hx hb dX0_reaches_31 ?_
    refine lv_bipush (v := (52 : Int32)) hx hb dX0_reaches_32 (by decide) ?_
    refine lv_lushr (v := ((y4 * (-7046029254386353131 : Int64)).toUInt64 >>> ((52 : Int32).toInt64.toUInt64 &&& Int64.toUInt64 63)).toInt64) hx hb dX0_reaches_34 rfl ?_
    refine lv_l2i (v := (((y4 * (-7046029254386353131 : Int64)).toUInt64 >>> ((52 : Int32).toInt64.toUInt64 &&& Int64.toUInt64 63)).toInt64).toInt32) hx hb dX0_reaches_35 rfl ?_
    refine lv_topi (fun x5 ex5 => ?_)
    replace hM := nm_at hM ex5
    refine lv_istore (lv' := [(4, .int x5), (2, .long y4), (0, .ref (zA 0)), (1, .int (2 : Int32))]) hx hb dX0_reaches_36 hl (by decide) rfl (fun ls hl => ?_)
    refine lv_aload_n hx hb dX0_reaches_38 rfl (lv_at hl 2 rfl) ?_
    refine va_get hx hb hts hi0 hown hK hP 0 rfl rfl 2 (by decide) (hts (.fieldLink RX0 16 "NightPlots$Search" "deadEnds" "[J") (List.mem_of_getElem? (i := 4) rfl)) (fun _ h9 => h9) rfl dX0_reaches_39 ?_
    refine lv_iload hx hb dX0_reaches_42 (lv_at hl 0 rfl) ?_
    obtain ⟨hi_6, hM⟩ := chkI_at hM
    refine va_lald hx hb hK hP 2 1 rfl rfl hi_6 dX0_reaches_44 ?_
    refine lv_lload_n hx hb dX0_reaches_45 rfl (lv_at hl 1 rfl) ?_
    refine W.lcmp hx hb dX0_reaches_46 ?_
    refine lv_if_ne (tgt := 52) hx hb dX0_reaches_47 (by decide) (fun c7 => ?_) (fun c7 => ?_)
    · replace hM := if_at_neg hM c7
      refine lv_iconst (v := (0 : Int32)) hx hb dX0_reaches_52 (by decide) ?_
      refine lv_istore (lv' := [(5, .int (0 : Int32)), (4, .int x5), (2, .long y4), (0, .ref (zA 0)), (1, .int (2 : Int32))]) hx hb dX0_reaches_53 hl (by decide) rfl (fun ls hl => ?_)
      refine jn3_at (fun (zZ_8 : GS) (lZ_9 : Nat → Int64) (gS_10 : GS) => ∀ (H : Heap) (locs : List Loc) (ls : Array Slot), va_P D vwCl (cSearch Y zA (aS 0) zZ_8 lZ_9 ++ cStand Y aS (hT 0) vS gS_10 ++ cTold Y hT tT) H → va_S A s.heap H locs → lv_has ls 6 [(0, .ref (zA 0)), (2, .long y4), (4, .int x5)] → W p l e (headSpec wsX0_reaches rmX0_reaches_2).room s m ([.ref (zA 0), .int (2 : Int32)] : List Value).toArray below meth c H locs 0 0 QQ (F0 m 98 ls [])) hM (fun zZ_8 lZ_9 gS_10 hM H locs ls hP hS hl => ?_) (fun k11 hJ11 hM => ?_)
      · refine lv_aload_n hx hb dX0_reaches_98 rfl (lv_at hl 0 rfl) ?_
        refine va_get hx hb hts hi0 hown hK hP 0 rfl rfl 2 (by decide) (hts (.fieldLink RX0 16 "NightPlots$Search" "deadEnds" "[J") (List.mem_of_getElem? (i := 4) rfl)) (fun _ h9 => h9) rfl dX0_reaches_99 ?_
        refine lv_iload hx hb dX0_reaches_102 (lv_at hl 2 rfl) ?_
        refine lv_lload_n hx hb dX0_reaches_104 rfl (lv_at hl 1 rfl) ?_
        obtain ⟨hi_12, hM⟩ := chkI_at hM
        refine va_last hx hb hK hP (hD.same rfl) hS 2 1 rfl rfl hi_12 dX0_reaches_105 (fun H locs hP _ hS => ?_)
        obtain ⟨lZ_13, elZ_13⟩ : ∃ z : Nat → Int64, z = (vp_updL lZ_9 x5.toNatClampNeg y4) := ⟨_, rfl⟩
        have hP : va_P D vwCl (cSearch Y zA (aS 0) zZ_8 lZ_13 ++ cStand Y aS (hT 0) vS gS_10 ++ cTold Y hT tT) H := by rw [elZ_13]; exact hP
        replace hM := nm_at hM elZ_13
        refine lv_iconst (v := (0 : Int32)) hx hb dX0_reaches_106 (by decide) ?_
        cases hM
        rw [hQQ]
        exact W.zret (ty := .boolean) hx hb hr rfl (fun t ht hW => ⟨⟨_, (), rfl, rfl, by show va_P D vwCl _ t.heap; rw [ht]; exact hP⟩, hS.F ht⟩) hS.2.2 dX0_reaches_107
      · refine jn3_at (fun (zZ_14 : GS) (lZ_15 : Nat → Int64) (gS_16 : GS) => ∀ (H : Heap) (locs : List Loc) (ls : Array Slot), va_P D vwCl (cSearch Y zA (aS 0) zZ_14 lZ_15 ++ cStand Y aS (hT 0) vS gS_16 ++ cTold Y hT tT) H → va_S A s.heap H locs → lv_has ls 6 [] → W p l e (headSpec wsX0_reaches rmX0_reaches_2).room s m ([.ref (zA 0), .int (2 : Int32)] : List Value).toArray below meth c H locs 0 0 QQ (F0 m 90 ls [])) hM (fun zZ_14 lZ_15 gS_16 hM H locs ls hP hS hl => ?_) (fun k17 hJ17 hM => ?_)
        · refine lv_iconst (v := (1 : Int32)) hx hb dX0_reaches_90 (by decide) ?_
          cases hM
          rw [hQQ]
          exact W.zret (ty := .boolean) hx hb hr rfl (fun t ht hW => ⟨⟨_, (), rfl, rfl, by show va_P D vwCl _ t.heap; rw [ht]; exact hP⟩, hS.F ht⟩) hS.2.2 dX0_reaches_91
        · refine lq4_at (fun (x18 : Int32) (zZ_19 : GS) (lZ_20 : Nat → Int64) (gS_21 : GS) => ∀ (H : Heap) (locs : List Loc) (ls : Array Slot), va_P D vwCl (cSearch Y zA (aS 0) zZ_19 lZ_20 ++ cStand Y aS (hT 0) vS gS_21 ++ cTold Y hT tT) H → va_S A s.heap H locs → lv_has ls 6 [(0, .ref (zA 0)), (1, .int (2 : Int32)), (2, .long y4), (4, .int x5), (5, .int x18)] → W p l e (headSpec wsX0_reaches rmX0_reaches_2).room s m ([.ref (zA 0), .int (2 : Int32)] : List Value).toArray below meth c H locs 0 0 QQ (F0 m 55 ls [])) (fun rec22 x18 zZ_19 lZ_20 gS_21 ih22 hM H locs ls hP hS hl => ?_) FU (0 : Int32) zZ lZ gS hM H locs ls hP hS (lv_sub hl [3, 4, 2, 1, 0] rfl)
          unfold BX0_reaches_2_55 at hM
          refine lv_iload hx hb dX0_reaches_55 (lv_at hl 4 rfl) ?_
          refine lv_aload_n hx hb dX0_reaches_57 rfl (lv_at hl 0 rfl) ?_
          refine va_get hx hb hts hi0 hown hK hP 0 rfl rfl 0 (by decide) (hts (.fieldLink RX0 20 "NightPlots$Search" "standing" "LNightPlots$Standing;") (List.mem_of_getElem? (i := 1) rfl)) (fun _ h9 => h9) rfl dX0_reaches_58 ?_
          refine va_getN hx hb hts hi1 hown hK hP 9 rfl rfl 0 (by decide) (hNF.use rfl) (fun _ h9 => h9) rfl dX0_reaches_61 ?_
          refine va_get hx hb hts hi3 hown hK hP 12 rfl rfl 1 (by decide) (hts (.fieldLink RX0 54 "NightPlots$Told" "houses" "I") (List.mem_of_getElem? (i := 5) rfl)) (fun _ h9 => h9) rfl dX0_reaches_64 ?_
          refine lv_icmp_ge (tgt := 98) hx hb dX0_reaches_67 (by decide) (fun c23 => ?_) (fun c23 => ?_)
          · replace hM := if_at_pos hM c23
            exact hJ11 zZ_19 lZ_20 gS_21 hM H locs ls hP hS (lv_sub hl [0, 2, 3] rfl)
          · replace hM := if_at_neg hM c23
            refine lv_aload_n hx hb dX0_reaches_70 rfl (lv_at hl 0 rfl) ?_
            refine lv_iload hx hb dX0_reaches_71 (lv_at hl 4 rfl) ?_
            refine lv_iload_n hx hb dX0_reaches_73 rfl (lv_at hl 1 rfl) ?_
            obtain ⟨r24, hc25, hM⟩ := bnd1_at hM
            refine cm_i (w2 := (cSearch Y zA (aS 0) zZ_19 lZ_20 ++ cStand Y aS (hT 0) vS gS_21 ++ cTold Y hT tT)) (va_runV (As := [.int x18, .int (2 : Int32)]) (rest := []) ⟨hx, hb, hml, hown, hts⟩ (ctX0_mayHelp l D Y zA (aS 0) H.size zZ_19 lZ_20 x18 (2 : Int32) r24 hc25) (cwV 2 hts gX0_reaches_X0_mayHelp rfl rfl rfl (by decide +kernel) ⟨Nat.le_of_ble_eq_true rfl, Nat.le_of_ble_eq_true rfl⟩) (pcW_V (ci := 0) (q0 := 0) hK hP (hD.same rfl) [0, 1, 2, 3, 4, 5, 6, 7, 8] rfl (pc_map (pc_cons rfl (pc_cons rfl (pc_cons rfl (pc_cons rfl (pc_cons rfl (pc_cons rfl (pc_cons rfl (pc_cons rfl (pc_cons rfl pc_nil)))))))))) rfl rfl) rfl rfl hl.1 rfl (lv_room (Nat.le_of_ble_eq_true rfl)) dX0_reaches_74 ⟨Nat.zero_le _, Nat.zero_le _⟩) hP (hD.same rfl) hS hA [0, 1, 2, 3, 4, 5, 6, 7, 8] (pc_map (pc_cons rfl (pc_cons rfl (pc_cons rfl (pc_cons rfl (pc_cons rfl (pc_cons rfl (pc_cons rfl (pc_cons rfl (pc_cons rfl pc_nil)))))))))) (up_new 0 rfl (up_new 1 rfl (up_new 2 rfl (up_new 3 rfl (up_new 4 rfl (up_new 5 rfl (up_new 6 rfl (up_new 7 rfl (up_new 8 rfl (up_old rfl rfl (up_old rfl rfl (up_old rfl rfl (up_old rfl rfl (up_old rfl rfl (up_old rfl rfl (up_old rfl rfl (up_old rfl rfl (up_old rfl rfl (up_old rfl rfl (up_old rfl rfl up_nil)))))))))))))))))))) (fun H locs hP hS => ?_)
            refine jn3_at (fun (zZ_26 : GS) (lZ_27 : Nat → Int64) (gS_28 : GS) => ∀ (H : Heap) (locs : List Loc) (ls : Array Slot), va_P D vwCl (cSearch Y zA (aS 0) zZ_26 lZ_27 ++ cStand Y aS (hT 0) vS gS_28 ++ cTold Y hT tT) H → va_S A s.heap H locs → lv_has ls 6 [(0, .ref (zA 0)), (1, .int (2 : Int32)), (2, .long y4), (4, .int x5), (5, .int x18)] → W p l e (headSpec wsX0_reaches rmX0_reaches_2).room s m ([.ref (zA 0), .int (2 : Int32)] : List Value).toArray below meth c H locs 0 0 QQ (F0 m 92 ls [])) hM (fun zZ_26 lZ_27 gS_28 hM H locs ls hP hS hl => ?_) (fun k29 hJ29 hM => ?_)
            · obtain ⟨x30, ex30⟩ : ∃ z : Int32, z = (x18 + 1) := ⟨_, rfl⟩
              replace hM := nm_at hM ex30
              refine lv_iinc (v := x30) (lv' := [(5, .int x30), (0, .ref (zA 0)), (1, .int (2 : Int32)), (2, .long y4), (4, .int x5)]) hx hb dX0_reaches_92 hl (k := 4) rfl (by rw [ex30]; rfl) (by decide) rfl (fun ls hl => ?_)
              refine lv_goto (tgt := 55) hx hb dX0_reaches_95 (by decide) ?_
              exact ih22 x30 zZ_26 lZ_27 gS_28 hM H locs ls hP hS (lv_sub hl [1, 2, 3, 4, 0] rfl)
            · refine lv_if_eq (tgt := 92) hx hb dX0_reaches_77 (by decide) (fun c31 => ?_) (fun c31 => ?_)
              · replace hM := if_at_pos hM c31
                exact hJ29 zZ_19 lZ_20 gS_21 hM H locs ls hP hS (lv_sub hl [0, 1, 2, 3, 4] rfl)
              · replace hM := if_at_neg hM c31
                refine lv_aload_n hx hb dX0_reaches_80 rfl (lv_at hl 0 rfl) ?_
                refine lv_iload hx hb dX0_reaches_81 (lv_at hl 4 rfl) ?_
                refine lv_iload_n hx hb dX0_reaches_83 rfl (lv_at hl 1 rfl) ?_
                obtain ⟨r32, zZ_33, lZ_34, gS_35, hc36, hM⟩ := bnd4_at hM
                refine co_i (va_runS (As := [.ref (zA 0), .int x18, .int (2 : Int32)]) (rest := []) ⟨hx, hb, hml, hown, hts⟩ (ctX0_reachesBy_2 l D Y zA aS hT vS H.size zZ_19 lZ_20 gS_21 tT x18 r32 zZ_33 lZ_34 gS_35 hc36) ⟨callB_of 3 hts ggX0_reaches_X0_reachesBy rfl rfl rfl (hts (.initialized RX0) (List.mem_of_getElem? (i := 17) rfl)) (hts (.methodLink RX0 63 yX0_reachesBy) (List.mem_of_getElem? (i := 21) rfl)) (by decide +kernel) ⟨Nat.le_of_ble_eq_true rfl, Nat.le_of_ble_eq_true rfl⟩, (hts (.static yX0_reachesBy) (List.mem_of_getElem? (i := 22) rfl))⟩ (pcN_S hNF (pcW_S0 hK hP (hD.same rfl))) rfl rfl hl.1 rfl (lv_room (Nat.le_of_ble_eq_true rfl)) dX0_reaches_84 ⟨Nat.zero_le _, Nat.zero_le _⟩) (hD.same rfl) hS hA (fun H locs hP hS => ?_)
                refine lv_if_eq (tgt := 92) hx hb dX0_reaches_87 (by decide) (fun c37 => ?_) (fun c37 => ?_)
                · replace hM := if_at_pos hM c37
                  exact hJ29 zZ_33 lZ_34 gS_35 hM H locs ls hP hS (lv_sub hl [0, 1, 2, 3, 4] rfl)
                · replace hM := if_at_neg hM c37
                  exact hJ17 zZ_33 lZ_34 gS_35 hM H locs ls hP hS (lv_sub hl [] rfl)
    · replace hM := if_at_pos hM c7
      refine lv_iconst (v := (0 : Int32)) hx hb dX0_reaches_50 (by decide) ?_
      cases hM
      rw [hQQ]
      exact W.zret (ty := .boolean) hx hb hr rfl (fun t ht hW => ⟨⟨_, (), rfl, rfl, by show va_P D vwCl _ t.heap; rw [ht]; exact hP⟩, hS.F ht⟩) hS.2.2 dX0_reaches_51
noncomputable def BX0_reachesBy_3_32 (r4 : Int32) (k11 : GS → (Nat → Int64) → GS → Option (Int32 × GS × (Nat → Int64) × GS)) (tT : GS) (i2 : Int32) (x3 : Int32) (k16 : Int32 → GS → (Nat → Int64) → GS → Option (Int32 × GS × (Nat → Int64) × GS)) (rec24 : Int32 → GS → (Nat → Int64) → GS → Option (Int32 × GS × (Nat → Int64) × GS)) (x20 : Int32) (zZ_21 : GS) (lZ_22 : Nat → Int64) (gS_23 : GS) : Option (Int32 × GS × (Nat → Int64) × GS) := if r4 ≤ x20 then (k11 zZ_21 lZ_22 gS_23) else (if (8 : Int32) ≤ x20 then (k11 zZ_21 lZ_22 gS_23) else (chkI x20 8 (bnd1 (MX1_moveHouse gS_23 tT i2 (zZ_21 4 x20.toNatClampNeg)) fun (gS_28 : GS) => jn4 (fun (zZ_30 : GS) (lZ_31 : Nat → Int64) (gS_32 : GS) (x33 : Int32) => bnd1 (MX1_moveHouse gS_32 tT i2 x3) fun (gS_35 : GS) => if x33 = 0 then (nm (x20 + 1) fun (x38 : Int32) => rec24 x38 zZ_30 lZ_31 gS_35) else (k16 x20 zZ_30 lZ_31 gS_35)) (fun k34 => bnd4 (MX0_reaches_2 zZ_21 lZ_22 gS_28 tT) fun (r39 : Int32) (zZ_40 : GS) (lZ_41 : Nat → Int64) (gS_42 : GS) => k34 zZ_40 lZ_41 gS_42 r39))))
noncomputable def MX0_reachesBy_3 (zZ : GS) (lZ : Nat → Int64) (gS : GS) (tT : GS) (i2 : Int32) : Option (Int32 × GS × (Nat → Int64) × GS) := chkI (3 : Int32) 6 (chkI i2 8 (nm (gS 1 i2.toNatClampNeg) fun (x3 : Int32) => bnd2 (MX1_findWays gS (zZ 4) tT i2) fun (r4 : Int32) (fR_5 : Nat → Int32) => nm (upA zZ 4 fR_5) fun (zZ_7 : GS) => jn3 (fun (zZ_8 : GS) (lZ_9 : Nat → Int64) (gS_10 : GS) => some ((0 : Int32), zZ_8, lZ_9, gS_10)) (fun k11 => jn4 (fun (x12 : Int32) (zZ_13 : GS) (lZ_14 : Nat → Int64) (gS_15 : GS) => chkI x12 8 (nm (((20 : Int32) * i2) + (zZ_13 4 x12.toNatClampNeg)) fun (x18 : Int32) => nm (up2 zZ_13 0 5 x18) fun (zZ_19 : GS) => some ((1 : Int32), zZ_19, lZ_14, gS_15))) (fun k16 => lq4 (BX0_reachesBy_3_32 r4 k11 tT i2 x3 k16) FU (0 : Int32) zZ_7 lZ gS))))
abbrev rmX0_reachesBy_3 : Room := { frames := 9, cells := 0, slots := 0, locals := 360 }
set_option maxHeartbeats 4000000 in
set_option maxRecDepth 100000 in
theorem ctX0_reachesBy_3 (l : Launch) (D : va_G) (Y : Nat → ClassId) (zA : Nat → Nat) (aS : Nat → Nat) (hT : Nat → Nat) (vS : Nat) (sz : Nat) (zZ : GS) (lZ : Nat → Int64) (gS : GS) (tT : GS) (i2 : Int32) (rr : Int32) (zZz : GS) (lZz : Nat → Int64) (gSz : GS) (hM : MX0_reachesBy_3 zZ lZ gS tT i2 = some (rr, zZz, lZz, gSz)) : Met l yX0_reachesBy wsX0_reachesBy rmX0_reachesBy_3 (pcN [.ref (zA 0), .int i2, .int (3 : Int32)] sz D Y (cSearch Y zA (aS 0) zZ lZ ++ cStand Y aS (hT 0) vS gS ++ cTold Y hT tT)) (qiW rr D (cSearch Y zA (aS 0) zZz lZz ++ cStand Y aS (hT 0) vS gSz ++ cTold Y hT tT) (va_A (cSearch Y zA (aS 0) zZ lZ ++ cStand Y aS (hT 0) vS gS ++ cTold Y hT tT) sz)) 0 0 (va_A (cSearch Y zA (aS 0) zZ lZ ++ cStand Y aS (hT 0) vS gS ++ cTold Y hT tT) sz) := by
  refine Met.ofW (cc := cX0_reachesBy) (maxL := 8) (ret := (some .boolean)) (by decide) rfl ?_
  intro p e s m args below meth c s₁ B hml hv
  obtain ⟨⟨rfl, hsz, hP, hK, hD0⟩, hNF⟩ := hv
  have hx := B.exec
  have hb := B.bytes
  have hr := B.returns
  have hts := atoms_spec (ws := wsX0_reachesBy) B.pre
  have hown : s.vm.findClass RX0 = some m.cls := findClass_of_methodNamed B.named
  have hlocks := B.notSynchronized
  subst hsz
  have hD := hD0.self (sz := s.heap.size)
  generalize hAe : va_A (cSearch Y zA (aS 0) zZ lZ ++ cStand Y aS (hT 0) vS gS ++ cTold Y hT tT) s.heap.size = A at hD ⊢
  have hA : ∀ q : Nat, s.heap.size ≤ q → A q := fun q h => by rw [← hAe]; exact Or.inr h
  have hS : va_S A s.heap s.heap [] := va_S.rf
  have hi0 : ∀ w ∈ wsX00, w ∈ wsX0_reachesBy := fun w h => List.mem_cons_of_mem _ (List.mem_append_left _ (List.mem_append_left _ (List.mem_append_right _ h)))
  have hi1 : ∀ w ∈ wsX10, w ∈ wsX0_reachesBy := fun w h => List.mem_cons_of_mem _ (List.mem_append_left _ (List.mem_append_right _ h))
  have hl := lv_entry ([.ref (zA 0), .int i2, .int (3 : Int32)]) (n := 8) (Nat.le_of_ble_eq_true rfl)
  rw [lg_entry_eq]
  generalize (lg_sl ([.ref (zA 0), .int i2, .int (3 : Int32)]) ++ List.replicate (8 - (lg_sl ([.ref (zA 0), .int i2, .int (3 : Int32)])).length) Slot.unset).toArray = ls at hl ⊢
  have hl : lv_has ls 8 [(0, .ref (zA 0)), (1, .int i2), (2, .int (3 : Int32))] := hl
  obtain ⟨QQ, hQQ⟩ : ∃ Q : State → Prop, Q = MQ below (qiW rr D (cSearch Y zA (aS 0) zZz lZz ++ cStand Y aS (hT 0) vS gSz ++ cTold Y hT tT) A) ([.ref (zA 0), .int i2, .int (3 : Int32)] : List Value).toArray s 0 0 A := ⟨_, rfl⟩
  rw [← hQQ]
  unfold MX0_reachesBy_3 at hM
  suffices hI : ∀ (H : Heap) (locs : List Loc), va_P D vwCl (cSearch Y zA (aS 0) zZ lZ ++ cStand Y aS (hT 0) vS gS ++ cTold Y hT tT) H → va_S A s.heap H locs → W p l e (headSpec wsX0_reachesBy rmX0_reachesBy_3).room s m ([.ref (zA 0), .int i2, .int (3 : Int32)] : List Value).toArray below meth c H locs 0 0 QQ (F0 m 0 ls []) from hI _ _ hP hS
  clear hP hS
  intro H locs hP hS
  refine lv_aload_n hx hb dX0_reachesBy_0 rfl (lv_at hl 0 rfl) ?_
  refine va_get hx hb hts hi0 hown hK hP 0 rfl rfl 1 (by decide) (hts (.fieldLink RX0 11 "NightPlots$Search" "ways" "[[I") (List.mem_of_getElem? (i := 1) rfl)) (fun _ h9 => h9) rfl dX0_reachesBy_1 ?_
  refine lv_iload_n hx hb dX0_reachesBy_4 rfl (lv_at hl 2 rfl) ?_
  obtain ⟨hi_1, hM⟩ := chkI_at hM
  refine va_ald2 (v := .ref (zA 6)) hx hb hK hP 1 4 rfl rfl hi_1 rfl dX0_reachesBy_5 ?_
  refine lv_astore_n (lv' := [(3, .ref (zA 6)), (0, .ref (zA 0)), (1, .int i2), (2, .int (3 : Int32))]) hx hb dX0_reachesBy_6 rfl hl (by decide) rfl (fun ls hl => ?_)
  refine lv_aload_n hx hb dX0_reachesBy_7 rfl (lv_at hl 1 rfl) ?_
  refine va_get hx hb hts hi0 hown hK hP 0 rfl rfl 0 (by decide) (hts (.fieldLink RX0 20 "NightPlots$Search" "standing" "LNightPlots$Standing;") (List.mem_of_getElem? (i := 2) rfl)) (fun _ h9 => h9) rfl dX0_reachesBy_8 ?_
  refine va_get hx hb hts hi1 hown hK hP 9 rfl rfl 1 (by decide) (hts (.fieldLink RX0 67 "NightPlots$Standing" "place" "[I") (List.mem_of_getElem? (i := 3) rfl)) (fun _ h9 => h9) rfl dX0_reachesBy_11 ?_
  refine lv_iload_n hx hb dX0_reachesBy_14 rfl (lv_at hl 2 rfl) ?_
  obtain ⟨hi_2, hM⟩ := chkI_at hM
  refine va_iald hx hb hK hP 10 0 rfl rfl hi_2 dX0_reachesBy_15 ?_
  refine lv_topi (fun x3 ex3 => ?_)
  replace hM := nm_at hM ex3
  refine lv_istore (lv' := [(4, .int x3), (3, .ref (zA 6)), (0, .ref (zA 0)), (1, .int i2), (2, .int (3 : Int32))]) hx hb dX0_reachesBy_16 hl (by decide) rfl (fun ls hl => ?_)
  refine lv_aload_n hx hb dX0_reachesBy_18 rfl (lv_at hl 2 rfl) ?_
  refine va_get hx hb hts hi0 hown hK hP 0 rfl rfl 0 (by decide) (hts (.fieldLink RX0 20 "NightPlots$Search" "standing" "LNightPlots$Standing;") (List.mem_of_getElem? (i := 2) rfl)) (fun _ h9 => h9) rfl dX0_reachesBy_19 ?_
  refine lv_iload_n hx hb dX0_reachesBy_22 rfl (lv_at hl 3 rfl) ?_
  refine lv_aload_n hx hb dX0_reachesBy_23 rfl (lv_at hl 1 rfl) ?_
  obtain ⟨r4, fR_5, hc6, hM⟩ := bnd2_at hM
  refine cm_i (w2 := (cSearch Y zA (aS 0) (upA zZ 4 fR_5) lZ ++ cStand Y aS (hT 0) vS gS ++ cTold Y hT tT)) (va_runV (As := [.int i2, .ref (zA 6)]) (rest := []) ⟨hx, hb, hml, hown, hts⟩ (ctX1_findWays l D Y aS (zA 6) hT vS H.size gS (zZ 4) tT i2 r4 fR_5 hc6) (cwV 2 hts gX0_reachesBy_X1_findWays rfl rfl rfl (by decide +kernel) ⟨Nat.le_of_ble_eq_true rfl, Nat.le_of_ble_eq_true rfl⟩) (pcW_V (ci := 1) (q0 := 9) hK hP (hD.same rfl) [9, 10, 11, 6, 12, 13, 14, 15, 16, 17, 18, 19] rfl (pc_map (pc_cons rfl (pc_cons rfl (pc_cons rfl (pc_cons rfl (pc_cons rfl (pc_cons rfl (pc_cons rfl (pc_cons rfl (pc_cons rfl (pc_cons rfl (pc_cons rfl (pc_cons rfl pc_nil))))))))))))) rfl rfl) rfl rfl hl.1 rfl (lv_room (Nat.le_of_ble_eq_true rfl)) dX0_reachesBy_24 ⟨Nat.zero_le _, Nat.zero_le _⟩) hP (hD.same rfl) hS hA [9, 10, 11, 6, 12, 13, 14, 15, 16, 17, 18, 19] (pc_map (pc_cons rfl (pc_cons rfl (pc_cons rfl (pc_cons rfl (pc_cons rfl (pc_cons rfl (pc_cons rfl (pc_cons rfl (pc_cons rfl (pc_cons rfl (pc_cons rfl (pc_cons rfl pc_nil))))))))))))) (up_old rfl rfl (up_old rfl rfl (up_old rfl rfl (up_old rfl rfl (up_old rfl rfl (up_old rfl rfl (up_new 3 rfl (up_old rfl rfl (up_old rfl rfl (up_new 0 rfl (up_new 1 rfl (up_new 2 rfl (up_new 4 rfl (up_new 5 rfl (up_new 6 rfl (up_new 7 rfl (up_new 8 rfl (up_new 9 rfl (up_new 10 rfl (up_new 11 rfl up_nil)))))))))))))))))))) (fun H locs hP hS => ?_)
  obtain ⟨zZ_7, ezZ_7⟩ : ∃ z : GS, z = (upA zZ 4 fR_5) := ⟨_, rfl⟩
  have hP : va_P D vwCl (cSearch Y zA (aS 0) zZ_7 lZ ++ cStand Y aS (hT 0) vS gS ++ cTold Y hT tT) H := by rw [ezZ_7]; exact hP
  replace hM := nm_at hM ezZ_7
  refine lv_istore (lv' := [(5, .int r4), (4, .int x3), (3, .ref (zA 6)), (0, .ref (zA 0)), (1, .int i2), (2, .int (3 : Int32))]) hx hb dX0_reachesBy_27 hl (by decide) rfl (fun ls hl => ?_)
  refine lv_iconst (v := (0 : Int32)) hx hb dX0_reachesBy_29 (by decide) ?_
  refine lv_istore (lv' := [(6, .int (0 : Int32)), (5, .int r4), (4, .int x3), (3, .ref (zA 6)), (0, .ref (zA 0)), (1, .int i2), (2, .int (3 : Int32))]) hx hb dX0_reachesBy_30 hl (by decide) rfl (fun ls hl => ?_)
  refine jn3_at (fun (zZ_8 : GS) (lZ_9 : Nat → Int64) (gS_10 : GS) => ∀ (H : Heap) (locs : List Loc) (ls : Array Slot), va_P D vwCl (cSearch Y zA (aS 0) zZ_8 lZ_9 ++ cStand Y aS (hT 0) vS gS_10 ++ cTold Y hT tT) H → va_S A s.heap H locs → lv_has ls 8 [] → W p l e (headSpec wsX0_reachesBy rmX0_reachesBy_3).room s m ([.ref (zA 0), .int i2, .int (3 : Int32)] : List Value).toArray below meth c H locs 0 0 QQ (F0 m 126 ls [])) hM (fun zZ_8 lZ_9 gS_10 hM H locs ls hP hS hl => ?_) (fun k11 hJ11 hM => ?_)
  · refine lv_iconst (v := (0 : Int32)) hx hb dX0_reachesBy_126 (by decide) ?_
    cases hM
    rw [hQQ]
    exact W.zret (ty := .boolean) hx hb hr rfl (fun t ht hW => ⟨⟨_, (), rfl, rfl, by show va_P D vwCl _ t.heap; rw [ht]; exact hP⟩, hS.F ht⟩) hS.2.2 dX0_reachesBy_127
  · refine jn4_at (fun (x12 : Int32) (zZ_13 : GS) (lZ_14 : Nat → Int64) (gS_15 : GS) => ∀ (H : Heap) (locs : List Loc) (ls : Array Slot), va_P D vwCl (cSearch Y zA (aS 0) zZ_13 lZ_14 ++ cStand Y aS (hT 0) vS gS_15 ++ cTold Y hT tT) H → va_S A s.heap H locs → lv_has ls 8 [(0, .ref (zA 0)), (1, .int i2), (3, .ref (zA 6)), (6, .int x12)] → W p l e (headSpec wsX0_reachesBy rmX0_reachesBy_3).room s m ([.ref (zA 0), .int i2, .int (3 : Int32)] : List Value).toArray below meth c H locs 0 0 QQ (F0 m 105 ls [])) hM (fun x12 zZ_13 lZ_14 gS_15 hM H locs ls hP hS hl => ?_) (fun k16 hJ16 hM => ?_)
    · refine lv_aload_n hx hb dX0_reachesBy_105 rfl (lv_at hl 0 rfl) ?_
      refine lv_bipush (v := (20 : Int32)) hx hb dX0_reachesBy_106 (by decide) ?_
      refine lv_iload_n hx hb dX0_reachesBy_108 rfl (lv_at hl 1 rfl) ?_
      refine lv_imul hx hb dX0_reachesBy_109 ?_
      refine lv_aload_n hx hb dX0_reachesBy_110 rfl (lv_at hl 2 rfl) ?_
      refine lv_iload hx hb dX0_reachesBy_111 (lv_at hl 3 rfl) ?_
      obtain ⟨hi_17, hM⟩ := chkI_at hM
      refine va_iald hx hb hK hP 6 0 rfl rfl hi_17 dX0_reachesBy_113 ?_
      refine lv_iadd hx hb dX0_reachesBy_114 ?_
      refine lv_topi (fun x18 ex18 => ?_)
      replace hM := nm_at hM ex18
      refine va_put (ty := .int) hx hb hts hi0 tyX0 tyX0_ok nmX0 hown hK hP (hD.same rfl) hS 0 rfl rfl 5 (by decide) (hts (.fieldLink RX0 31 "NightPlots$Search" "firstRoll" "I") (List.mem_of_getElem? (i := 6) rfl)) (fun _ h9 => h9) rfl (by decide +kernel) rfl rfl (Nat.le_of_ble_eq_true rfl) dX0_reachesBy_115 (fun H locs hP _ hS => ?_)
      obtain ⟨zZ_19, ezZ_19⟩ : ∃ z : GS, z = (up2 zZ_13 0 5 x18) := ⟨_, rfl⟩
      have hP : va_P D vwCl (cSearch Y zA (aS 0) zZ_19 lZ_14 ++ cStand Y aS (hT 0) vS gS_15 ++ cTold Y hT tT) H := by rw [ezZ_19]; exact hP
      replace hM := nm_at hM ezZ_19
      refine lv_iconst (v := (1 : Int32)) hx hb dX0_reachesBy_118 (by decide) ?_
      cases hM
      rw [hQQ]
      exact W.zret (ty := .boolean) hx hb hr rfl (fun t ht hW => ⟨⟨_, (), rfl, rfl, by show va_P D vwCl _ t.heap; rw [ht]; exact hP⟩, hS.F ht⟩) hS.2.2 dX0_reachesBy_119
    · refine lq4_at (fun (x20 : Int32) (zZ_21 : GS) (lZ_22 : Nat → Int64) (gS_23 : GS) => ∀ (H : Heap) (locs : List Loc) (ls : Array Slot), va_P D vwCl (cSearch Y zA (aS 0) zZ_21 lZ_22 ++ cStand Y aS (hT 0) vS gS_23 ++ cTold Y hT tT) H → va_S A s.heap H locs → lv_has ls 8 [(0, .ref (zA 0)), (1, .int i2), (2, .int (3 : Int32)), (3, .ref (zA 6)), (4, .int x3), (5, .int r4), (6, .int x20)] → W p l e (headSpec wsX0_reachesBy rmX0_reachesBy_3).room s m ([.ref (zA 0), .int i2, .int (3 : Int32)] : List Value).toArray below meth c H locs 0 0 QQ (F0 m 32 ls [])) (fun rec24 x20 zZ_21 lZ_22 gS_23 ih24 hM H locs ls hP hS hl => ?_) FU (0 : Int32) zZ_7 lZ gS hM H locs ls hP hS (lv_sub hl [4, 5, 6, 3, 2, 1, 0] rfl)
      unfold BX0_reachesBy_3_32 at hM
      refine lv_iload hx hb dX0_reachesBy_32 (lv_at hl 6 rfl) ?_
      refine lv_iload hx hb dX0_reachesBy_34 (lv_at hl 5 rfl) ?_
      refine lv_icmp_ge (tgt := 126) hx hb dX0_reachesBy_36 (by decide) (fun c25 => ?_) (fun c25 => ?_)
      · replace hM := if_at_pos hM c25
        exact hJ11 zZ_21 lZ_22 gS_23 hM H locs ls hP hS (lv_sub hl [] rfl)
      · replace hM := if_at_neg hM c25
        refine lv_iload hx hb dX0_reachesBy_39 (lv_at hl 6 rfl) ?_
        refine lv_aload_n hx hb dX0_reachesBy_41 rfl (lv_at hl 3 rfl) ?_
        refine va_alen (v := (8 : Int32)) hx hb hK hP 6 0 rfl rfl rfl dX0_reachesBy_42 ?_
        refine lv_icmp_ge (tgt := 126) hx hb dX0_reachesBy_43 (by decide) (fun c26 => ?_) (fun c26 => ?_)
        · replace hM := if_at_pos hM c26
          exact hJ11 zZ_21 lZ_22 gS_23 hM H locs ls hP hS (lv_sub hl [] rfl)
        · replace hM := if_at_neg hM c26
          refine lv_aload_n hx hb dX0_reachesBy_46 rfl (lv_at hl 0 rfl) ?_
          refine va_get hx hb hts hi0 hown hK hP 0 rfl rfl 0 (by decide) (hts (.fieldLink RX0 20 "NightPlots$Search" "standing" "LNightPlots$Standing;") (List.mem_of_getElem? (i := 2) rfl)) (fun _ h9 => h9) rfl dX0_reachesBy_47 ?_
          refine lv_iload_n hx hb dX0_reachesBy_50 rfl (lv_at hl 1 rfl) ?_
          refine lv_aload_n hx hb dX0_reachesBy_51 rfl (lv_at hl 3 rfl) ?_
          refine lv_iload hx hb dX0_reachesBy_52 (lv_at hl 6 rfl) ?_
          obtain ⟨hi_27, hM⟩ := chkI_at hM
          refine va_iald hx hb hK hP 6 0 rfl rfl hi_27 dX0_reachesBy_54 ?_
          obtain ⟨gS_28, hc29, hM⟩ := bnd1_at hM
          refine cm_v (w2 := (cSearch Y zA (aS 0) zZ_21 lZ_22 ++ cStand Y aS (hT 0) vS gS_28 ++ cTold Y hT tT)) (va_runV (As := [.int i2, .int (zZ_21 4 x20.toNatClampNeg)]) (rest := []) ⟨hx, hb, hml, hown, hts⟩ (ctX1_moveHouse l D Y aS hT vS H.size gS_23 tT i2 (zZ_21 4 x20.toNatClampNeg) gS_28 hc29) (cwV 2 hts gX0_reachesBy_X1_moveHouse rfl rfl rfl (by decide +kernel) ⟨Nat.le_of_ble_eq_true rfl, Nat.le_of_ble_eq_true rfl⟩) (pcW_V (ci := 1) (q0 := 9) hK hP (hD.same rfl) [9, 10, 11, 12, 13, 14, 15, 16, 17, 18, 19] rfl (pc_map (pc_cons rfl (pc_cons rfl (pc_cons rfl (pc_cons rfl (pc_cons rfl (pc_cons rfl (pc_cons rfl (pc_cons rfl (pc_cons rfl (pc_cons rfl (pc_cons rfl pc_nil)))))))))))) rfl rfl) rfl rfl hl.1 rfl (lv_room (Nat.le_of_ble_eq_true rfl)) dX0_reachesBy_55 ⟨Nat.zero_le _, Nat.zero_le _⟩) hP (hD.same rfl) hS hA [9, 10, 11, 12, 13, 14, 15, 16, 17, 18, 19] (pc_map (pc_cons rfl (pc_cons rfl (pc_cons rfl (pc_cons rfl (pc_cons rfl (pc_cons rfl (pc_cons rfl (pc_cons rfl (pc_cons rfl (pc_cons rfl (pc_cons rfl pc_nil)))))))))))) (up_old rfl rfl (up_old rfl rfl (up_old rfl rfl (up_old rfl rfl (up_old rfl rfl (up_old rfl rfl (up_old rfl rfl (up_old rfl rfl (up_old rfl rfl (up_new 0 rfl (up_new 1 rfl (up_new 2 rfl (up_new 3 rfl (up_new 4 rfl (up_new 5 rfl (up_new 6 rfl (up_new 7 rfl (up_new 8 rfl (up_new 9 rfl (up_new 10 rfl up_nil)))))))))))))))))))) (fun H locs hP hS => ?_)
          refine lv_iload_n hx hb dX0_reachesBy_58 rfl (lv_at hl 2 rfl) ?_
          refine lv_iconst (v := (1 : Int32)) hx hb dX0_reachesBy_59 (by decide) ?_
          refine jn4_at (fun (zZ_30 : GS) (lZ_31 : Nat → Int64) (gS_32 : GS) (x33 : Int32) => ∀ (H : Heap) (locs : List Loc) (ls : Array Slot), va_P D vwCl (cSearch Y zA (aS 0) zZ_30 lZ_31 ++ cStand Y aS (hT 0) vS gS_32 ++ cTold Y hT tT) H → va_S A s.heap H locs → lv_has ls 8 [(0, .ref (zA 0)), (1, .int i2), (2, .int (3 : Int32)), (3, .ref (zA 6)), (4, .int x3), (5, .int r4), (6, .int x20)] → W p l e (headSpec wsX0_reachesBy rmX0_reachesBy_3).room s m ([.ref (zA 0), .int i2, .int (3 : Int32)] : List Value).toArray below meth c H locs 0 0 QQ (F0 m 88 ls [.int x33])) hM (fun zZ_30 lZ_31 gS_32 x33 hM H locs ls hP hS hl => ?_) (fun k34 hJ34 hM => ?_)
          · refine lv_istore (lv' := [(7, .int x33), (0, .ref (zA 0)), (1, .int i2), (2, .int (3 : Int32)), (3, .ref (zA 6)), (4, .int x3), (5, .int r4), (6, .int x20)]) hx hb dX0_reachesBy_88 hl (by decide) rfl (fun ls hl => ?_)
            refine lv_aload_n hx hb dX0_reachesBy_90 rfl (lv_at hl 1 rfl) ?_
            refine va_get hx hb hts hi0 hown hK hP 0 rfl rfl 0 (by decide) (hts (.fieldLink RX0 20 "NightPlots$Search" "standing" "LNightPlots$Standing;") (List.mem_of_getElem? (i := 2) rfl)) (fun _ h9 => h9) rfl dX0_reachesBy_91 ?_
            refine lv_iload_n hx hb dX0_reachesBy_94 rfl (lv_at hl 2 rfl) ?_
            refine lv_iload hx hb dX0_reachesBy_95 (lv_at hl 5 rfl) ?_
            obtain ⟨gS_35, hc36, hM⟩ := bnd1_at hM
            refine cm_v (w2 := (cSearch Y zA (aS 0) zZ_30 lZ_31 ++ cStand Y aS (hT 0) vS gS_35 ++ cTold Y hT tT)) (va_runV (As := [.int i2, .int x3]) (rest := []) ⟨hx, hb, hml, hown, hts⟩ (ctX1_moveHouse l D Y aS hT vS H.size gS_32 tT i2 x3 gS_35 hc36) (cwV 2 hts gX0_reachesBy_X1_moveHouse rfl rfl rfl (by decide +kernel) ⟨Nat.le_of_ble_eq_true rfl, Nat.le_of_ble_eq_true rfl⟩) (pcW_V (ci := 1) (q0 := 9) hK hP (hD.same rfl) [9, 10, 11, 12, 13, 14, 15, 16, 17, 18, 19] rfl (pc_map (pc_cons rfl (pc_cons rfl (pc_cons rfl (pc_cons rfl (pc_cons rfl (pc_cons rfl (pc_cons rfl (pc_cons rfl (pc_cons rfl (pc_cons rfl (pc_cons rfl pc_nil)))))))))))) rfl rfl) rfl rfl hl.1 rfl (lv_room (Nat.le_of_ble_eq_true rfl)) dX0_reachesBy_97 ⟨Nat.zero_le _, Nat.zero_le _⟩) hP (hD.same rfl) hS hA [9, 10, 11, 12, 13, 14, 15, 16, 17, 18, 19] (pc_map (pc_cons rfl (pc_cons rfl (pc_cons rfl (pc_cons rfl (pc_cons rfl (pc_cons rfl (pc_cons rfl (pc_cons rfl (pc_cons rfl (pc_cons rfl (pc_cons rfl pc_nil)))))))))))) (up_old rfl rfl (up_old rfl rfl (up_old rfl rfl (up_old rfl rfl (up_old rfl rfl (up_old rfl rfl (up_old rfl rfl (up_old rfl rfl (up_old rfl rfl (up_new 0 rfl (up_new 1 rfl (up_new 2 rfl (up_new 3 rfl (up_new 4 rfl (up_new 5 rfl (up_new 6 rfl (up_new 7 rfl (up_new 8 rfl (up_new 9 rfl (up_new 10 rfl up_nil)))))))))))))))))))) (fun H locs hP hS => ?_)
            refine lv_iload hx hb dX0_reachesBy_100 (lv_at hl 0 rfl) ?_
            refine lv_if_eq (tgt := 120) hx hb dX0_reachesBy_102 (by decide) (fun c37 => ?_) (fun c37 => ?_)
            · replace hM := if_at_pos hM c37
              obtain ⟨x38, ex38⟩ : ∃ z : Int32, z = (x20 + 1) := ⟨_, rfl⟩
              replace hM := nm_at hM ex38
              refine lv_iinc (v := x38) (lv' := [(6, .int x38), (7, .int x33), (0, .ref (zA 0)), (1, .int i2), (2, .int (3 : Int32)), (3, .ref (zA 6)), (4, .int x3), (5, .int r4)]) hx hb dX0_reachesBy_120 hl (k := 7) rfl (by rw [ex38]; rfl) (by decide) rfl (fun ls hl => ?_)
              refine lv_goto (tgt := 32) hx hb dX0_reachesBy_123 (by decide) ?_
              exact ih24 x38 zZ_30 lZ_31 gS_35 hM H locs ls hP hS (lv_sub hl [2, 3, 4, 5, 6, 7, 0] rfl)
            · replace hM := if_at_neg hM c37
              exact hJ16 x20 zZ_30 lZ_31 gS_35 hM H locs ls hP hS (lv_sub hl [1, 2, 4, 7] rfl)
          · refine lv_icmp_ne (tgt := 81) hx hb dX0_reachesBy_60 (by decide) (fun _ => ?_) (fun c => absurd c (by decide))
            refine lv_aload_n hx hb dX0_reachesBy_81 rfl (lv_at hl 0 rfl) ?_
            refine lv_iload_n hx hb dX0_reachesBy_82 rfl (lv_at hl 2 rfl) ?_
            refine lv_iconst (v := (1 : Int32)) hx hb dX0_reachesBy_83 (by decide) ?_
            refine lv_isub hx hb dX0_reachesBy_84 ?_
            rw [show ((3 : Int32) - (1 : Int32)) = (2 : Int32) from by decide]
            obtain ⟨r39, zZ_40, lZ_41, gS_42, hc43, hM⟩ := bnd4_at hM
            refine co_i (va_runS (As := [.ref (zA 0), .int (2 : Int32)]) (rest := []) ⟨hx, hb, hml, hown, hts⟩ (ctX0_reaches_2 l D Y zA aS hT vS H.size zZ_21 lZ_22 gS_28 tT r39 zZ_40 lZ_41 gS_42 hc43) ⟨callB_of 2 hts ggX0_reachesBy_X0_reaches rfl rfl rfl (hts (.initialized RX0) (List.mem_of_getElem? (i := 69) rfl)) (hts (.methodLink RX0 82 yX0_reaches) (List.mem_of_getElem? (i := 67) rfl)) (by decide +kernel) ⟨Nat.le_of_ble_eq_true rfl, Nat.le_of_ble_eq_true rfl⟩, (hts (.static yX0_reaches) (List.mem_of_getElem? (i := 68) rfl))⟩ (pcN_S hNF (pcW_S0 hK hP (hD.same rfl))) rfl rfl hl.1 rfl (lv_room (Nat.le_of_ble_eq_true rfl)) dX0_reachesBy_85 ⟨Nat.zero_le _, Nat.zero_le _⟩) (hD.same rfl) hS hA (fun H locs hP hS => ?_)
            exact hJ34 zZ_40 lZ_41 gS_42 r39 hM H locs ls hP hS (lv_sub hl [0, 1, 2, 3, 4, 5, 6] rfl)
noncomputable def BX0_reaches_3_55 (tT : GS) (k11 : GS → (Nat → Int64) → GS → Option (Int32 × GS × (Nat → Int64) × GS)) (k17 : GS → (Nat → Int64) → GS → Option (Int32 × GS × (Nat → Int64) × GS)) (rec22 : Int32 → GS → (Nat → Int64) → GS → Option (Int32 × GS × (Nat → Int64) × GS)) (x18 : Int32) (zZ_19 : GS) (lZ_20 : Nat → Int64) (gS_21 : GS) : Option (Int32 × GS × (Nat → Int64) × GS) := if (tT 0 1) ≤ x18 then (k11 zZ_19 lZ_20 gS_21) else (bnd1 (MX0_mayHelp zZ_19 x18 (3 : Int32)) fun (r24 : Int32) => jn3 (fun (zZ_26 : GS) (lZ_27 : Nat → Int64) (gS_28 : GS) => nm (x18 + 1) fun (x30 : Int32) => rec22 x30 zZ_26 lZ_27 gS_28) (fun k29 => if r24 = 0 then (k29 zZ_19 lZ_20 gS_21) else (bnd4 (MX0_reachesBy_3 zZ_19 lZ_20 gS_21 tT x18) fun (r32 : Int32) (zZ_33 : GS) (lZ_34 : Nat → Int64) (gS_35 : GS) => if r32 = 0 then (k29 zZ_33 lZ_34 gS_35) else (k17 zZ_33 lZ_34 gS_35))))
noncomputable def MX0_reaches_3 (zZ : GS) (lZ : Nat → Int64) (gS : GS) (tT : GS) : Option (Int32 × GS × (Nat → Int64) × GS) := jn0 (some ((0 : Int32), zZ, lZ, gS)) (fun k1 => bnd1 (MX1_placesKey gS tT) fun (r2 : Int64) => nm ((r2 * (8 : Int64)) + ((3 : Int32).toInt64)) fun (y4 : Int64) => nm ((((y4 * (-7046029254386353131 : Int64)).toUInt64 >>> ((52 : Int32).toInt64.toUInt64 &&& Int64.toUInt64 63)).toInt64).toInt32) fun (x5 : Int32) => chkI x5 4096 (if (lg_cmp (lZ x5.toNatClampNeg) y4) = 0 then (some ((0 : Int32), zZ, lZ, gS)) else (jn3 (fun (zZ_8 : GS) (lZ_9 : Nat → Int64) (gS_10 : GS) => chkI x5 4096 (nm (vp_updL lZ_9 x5.toNatClampNeg y4) fun (lZ_13 : Nat → Int64) => some ((0 : Int32), zZ_8, lZ_13, gS_10))) (fun k11 => jn3 (fun (zZ_14 : GS) (lZ_15 : Nat → Int64) (gS_16 : GS) => some ((1 : Int32), zZ_14, lZ_15, gS_16)) (fun k17 => lq4 (BX0_reaches_3_55 tT k11 k17) FU (0 : Int32) zZ lZ gS)))))
abbrev rmX0_reaches_3 : Room := { frames := 10, cells := 0, slots := 0, locals := 400 }
set_option maxHeartbeats 4000000 in
set_option maxRecDepth 100000 in
theorem ctX0_reaches_3 (l : Launch) (D : va_G) (Y : Nat → ClassId) (zA : Nat → Nat) (aS : Nat → Nat) (hT : Nat → Nat) (vS : Nat) (sz : Nat) (zZ : GS) (lZ : Nat → Int64) (gS : GS) (tT : GS) (rr : Int32) (zZz : GS) (lZz : Nat → Int64) (gSz : GS) (hM : MX0_reaches_3 zZ lZ gS tT = some (rr, zZz, lZz, gSz)) : Met l yX0_reaches wsX0_reaches rmX0_reaches_3 (pcN [.ref (zA 0), .int (3 : Int32)] sz D Y (cSearch Y zA (aS 0) zZ lZ ++ cStand Y aS (hT 0) vS gS ++ cTold Y hT tT)) (qiW rr D (cSearch Y zA (aS 0) zZz lZz ++ cStand Y aS (hT 0) vS gSz ++ cTold Y hT tT) (va_A (cSearch Y zA (aS 0) zZ lZ ++ cStand Y aS (hT 0) vS gS ++ cTold Y hT tT) sz)) 0 0 (va_A (cSearch Y zA (aS 0) zZ lZ ++ cStand Y aS (hT 0) vS gS ++ cTold Y hT tT) sz) := by
  refine Met.ofW (cc := cX0_reaches) (maxL := 6) (ret := (some .boolean)) (by decide) rfl ?_
  intro p e s m args below meth c s₁ B hml hv
  obtain ⟨⟨rfl, hsz, hP, hK, hD0⟩, hNF⟩ := hv
  have hx := B.exec
  have hb := B.bytes
  have hr := B.returns
  have hts := atoms_spec (ws := wsX0_reaches) B.pre
  have hown : s.vm.findClass RX0 = some m.cls := findClass_of_methodNamed B.named
  have hlocks := B.notSynchronized
  subst hsz
  have hD := hD0.self (sz := s.heap.size)
  generalize hAe : va_A (cSearch Y zA (aS 0) zZ lZ ++ cStand Y aS (hT 0) vS gS ++ cTold Y hT tT) s.heap.size = A at hD ⊢
  have hA : ∀ q : Nat, s.heap.size ≤ q → A q := fun q h => by rw [← hAe]; exact Or.inr h
  have hS : va_S A s.heap s.heap [] := va_S.rf
  have hi0 : ∀ w ∈ wsX00, w ∈ wsX0_reaches := fun w h => List.mem_cons_of_mem _ (List.mem_append_left _ (List.mem_append_left _ (List.mem_append_right _ h)))
  have hi1 : ∀ w ∈ wsX10, w ∈ wsX0_reaches := fun w h => List.mem_cons_of_mem _ (List.mem_append_left _ (List.mem_append_right _ h))
  have hi3 : ∀ w ∈ wsX30, w ∈ wsX0_reaches := fun w h => List.mem_cons_of_mem _ (List.mem_append_right _ h)
  have hl := lv_entry ([.ref (zA 0), .int (3 : Int32)]) (n := 6) (Nat.le_of_ble_eq_true rfl)
  rw [lg_entry_eq]
  generalize (lg_sl ([.ref (zA 0), .int (3 : Int32)]) ++ List.replicate (6 - (lg_sl ([.ref (zA 0), .int (3 : Int32)])).length) Slot.unset).toArray = ls at hl ⊢
  have hl : lv_has ls 6 [(0, .ref (zA 0)), (1, .int (3 : Int32))] := hl
  obtain ⟨QQ, hQQ⟩ : ∃ Q : State → Prop, Q = MQ below (qiW rr D (cSearch Y zA (aS 0) zZz lZz ++ cStand Y aS (hT 0) vS gSz ++ cTold Y hT tT) A) ([.ref (zA 0), .int (3 : Int32)] : List Value).toArray s 0 0 A := ⟨_, rfl⟩
  rw [← hQQ]
  unfold MX0_reaches_3 at hM
  suffices hI : ∀ (H : Heap) (locs : List Loc), va_P D vwCl (cSearch Y zA (aS 0) zZ lZ ++ cStand Y aS (hT 0) vS gS ++ cTold Y hT tT) H → va_S A s.heap H locs → W p l e (headSpec wsX0_reaches rmX0_reaches_3).room s m ([.ref (zA 0), .int (3 : Int32)] : List Value).toArray below meth c H locs 0 0 QQ (F0 m 0 ls []) from hI _ _ hP hS
  clear hP hS
  intro H locs hP hS
  refine lv_iload_n hx hb dX0_reaches_0 rfl (lv_at hl 1 rfl) ?_
  refine lv_iconst (v := (1 : Int32)) hx hb dX0_reaches_1 (by decide) ?_
  refine jn0_at (∀ (H : Heap) (locs : List Loc) (ls : Array Slot), va_P D vwCl (cSearch Y zA (aS 0) zZ lZ ++ cStand Y aS (hT 0) vS gS ++ cTold Y hT tT) H → va_S A s.heap H locs → lv_has ls 6 [] → W p l e (headSpec wsX0_reaches rmX0_reaches_3).room s m ([.ref (zA 0), .int (3 : Int32)] : List Value).toArray below meth c H locs 0 0 QQ (F0 m 10 ls [])) hM (fun  hM H locs ls hP hS hl => ?_) (fun k1 hJ1 hM => ?_)
  · refine lv_iconst (v := (0 : Int32)) hx hb dX0_reaches_10 (by decide) ?_
    cases hM
    rw [hQQ]
    exact W.zret (ty := .boolean) hx hb hr rfl (fun t ht hW => ⟨⟨_, (), rfl, rfl, by show va_P D vwCl _ t.heap; rw [ht]; exact hP⟩, hS.F ht⟩) hS.2.2 dX0_reaches_11
  · refine lv_icmp_lt (tgt := 10) hx hb dX0_reaches_2 (by decide) (fun c => absurd c (by decide)) (fun _ => ?_)
    refine lv_iload_n hx hb dX0_reaches_5 rfl (lv_at hl 1 rfl) ?_
    refine lv_iconst (v := (5 : Int32)) hx hb dX0_reaches_6 (by decide) ?_
    refine lv_icmp_le (tgt := 12) hx hb dX0_reaches_7 (by decide) (fun _ => ?_) (fun c => absurd c (by decide))
    refine lv_aload_n hx hb dX0_reaches_12 rfl (lv_at hl 0 rfl) ?_
    refine va_get hx hb hts hi0 hown hK hP 0 rfl rfl 0 (by decide) (hts (.fieldLink RX0 20 "NightPlots$Search" "standing" "LNightPlots$Standing;") (List.mem_of_getElem? (i := 1) rfl)) (fun _ h9 => h9) rfl dX0_reaches_13 ?_
    obtain ⟨r2, hc3, hM⟩ := bnd1_at hM
    refine cm_l (w2 := (cSearch Y zA (aS 0) zZ lZ ++ cStand Y aS (hT 0) vS gS ++ cTold Y hT tT)) (va_runV (As := []) (rest := []) ⟨hx, hb, hml, hown, hts⟩ (ctX1_placesKey l D Y aS hT vS H.size gS tT r2 hc3) (cwV 0 hts gX0_reaches_X1_placesKey rfl rfl rfl (by decide +kernel) ⟨Nat.le_of_ble_eq_true rfl, Nat.le_of_ble_eq_true rfl⟩) (pcW_V (ci := 1) (q0 := 9) hK hP (hD.same rfl) [9, 10, 11, 12, 13, 14, 15, 16, 17, 18, 19] rfl (pc_map (pc_cons rfl (pc_cons rfl (pc_cons rfl (pc_cons rfl (pc_cons rfl (pc_cons rfl (pc_cons rfl (pc_cons rfl (pc_cons rfl (pc_cons rfl (pc_cons rfl pc_nil)))))))))))) rfl rfl) rfl rfl hl.1 rfl (lv_room (Nat.le_of_ble_eq_true rfl)) dX0_reaches_16 ⟨Nat.zero_le _, Nat.zero_le _⟩) hP (hD.same rfl) hS hA [9, 10, 11, 12, 13, 14, 15, 16, 17, 18, 19] (pc_map (pc_cons rfl (pc_cons rfl (pc_cons rfl (pc_cons rfl (pc_cons rfl (pc_cons rfl (pc_cons rfl (pc_cons rfl (pc_cons rfl (pc_cons rfl (pc_cons rfl pc_nil)))))))))))) (up_old rfl rfl (up_old rfl rfl (up_old rfl rfl (up_old rfl rfl (up_old rfl rfl (up_old rfl rfl (up_old rfl rfl (up_old rfl rfl (up_old rfl rfl (up_new 0 rfl (up_new 1 rfl (up_new 2 rfl (up_new 3 rfl (up_new 4 rfl (up_new 5 rfl (up_new 6 rfl (up_new 7 rfl (up_new 8 rfl (up_new 9 rfl (up_new 10 rfl up_nil)))))))))))))))))))) (fun H locs hP hS => ?_)
    refine lv_ldc2 (v := (8 : Int64)) hx hb hown (hts (.constantLong RX0 46 (8)) (List.mem_of_getElem? (i := 2) rfl)) dX0_reaches_19 ?_
    refine lv_lmul hx hb dX0_reaches_22 ?_
    refine lv_iload_n hx hb dX0_reaches_23 rfl (lv_at hl 1 rfl) ?_
    refine lv_i2l (v := (3 : Int32).toInt64) hx hb dX0_reaches_24 rfl ?_
    refine lv_ladd hx hb dX0_reaches_25 ?_
    refine lv_topl (fun y4 ey4 => ?_)
    replace hM := nm_at hM ey4
    refine lv_lstore_n (lv' := [(2, .long y4), (0, .ref (zA 0)), (1, .int (3 : Int32))]) hx hb dX0_reaches_26 rfl hl (by decide) rfl (fun ls hl => ?_)
    refine lv_lload_n hx hb dX0_reaches_27 rfl (lv_at hl 0 rfl) ?_
    refine lv_ldc2 (v := (-7046029254386353131 : Int64)) hx hb hown (hts (.constantLong RX0 48 (-7046029254386353131)) (List.mem_of_getElem? (i := 3) rfl)) dX0_reaches_28 ?_
    refine lv_lmul hx hb dX0_reaches_31 ?_
    refine lv_bipush (v := (52 : Int32)) hx hb dX0_reaches_32 (by decide) ?_
    refine lv_lushr (v := ((y4 * (-7046029254386353131 : Int64)).toUInt64 >>> ((52 : Int32).toInt64.toUInt64 &&& Int64.toUInt64 63)).toInt64) hx hb dX0_reaches_34 rfl ?_
    refine lv_l2i (v := (((y4 * (-7046029254386353131 : Int64)).toUInt64 >>> ((52 : Int32).toInt64.toUInt64 &&& Int64.toUInt64 63)).toInt64).toInt32) hx hb dX0_reaches_35 rfl ?_
    refine lv_topi (fun x5 ex5 => ?_)
    replace hM := nm_at hM ex5
    refine lv_istore (lv' := [(4, .int x5), (2, .long y4), (0, .ref (zA 0)), (1, .int (3 : Int32))]) hx hb dX0_reaches_36 hl (by decide) rfl (fun ls hl => ?_)
    refine lv_aload_n hx hb dX0_reaches_38 rfl (lv_at hl 2 rfl) ?_
    refine va_get hx hb hts hi0 hown hK hP 0 rfl rfl 2 (by decide) (hts (.fieldLink RX0 16 "NightPlots$Search" "deadEnds" "[J") (List.mem_of_getElem? (i := 4) rfl)) (fun _ h9 => h9) rfl dX0_reaches_39 ?_
    refine lv_iload hx hb dX0_reaches_42 (lv_at hl 0 rfl) ?_
    obtain ⟨hi_6, hM⟩ := chkI_at hM
    refine va_lald hx hb hK hP 2 1 rfl rfl hi_6 dX0_reaches_44 ?_
    refine lv_lload_n hx hb dX0_reaches_45 rfl (lv_at hl 1 rfl) ?_
    refine W.lcmp hx hb dX0_reaches_46 ?_
    refine lv_if_ne (tgt := 52) hx hb dX0_reaches_47 (by decide) (fun c7 => ?_) (fun c7 => ?_)
    · replace hM := if_at_neg hM c7
      refine lv_iconst (v := (0 : Int32)) hx hb dX0_reaches_52 (by decide) ?_
      refine lv_istore (lv' := [(5, .int (0 : Int32)), (4, .int x5), (2, .long y4), (0, .ref (zA 0)), (1, .int (3 : Int32))]) hx hb dX0_reaches_53 hl (by decide) rfl (fun ls hl => ?_)
      refine jn3_at (fun (zZ_8 : GS) (lZ_9 : Nat → Int64) (gS_10 : GS) => ∀ (H : Heap) (locs : List Loc) (ls : Array Slot), va_P D vwCl (cSearch Y zA (aS 0) zZ_8 lZ_9 ++ cStand Y aS (hT 0) vS gS_10 ++ cTold Y hT tT) H → va_S A s.heap H locs → lv_has ls 6 [(0, .ref (zA 0)), (2, .long y4), (4, .int x5)] → W p l e (headSpec wsX0_reaches rmX0_reaches_3).room s m ([.ref (zA 0), .int (3 : Int32)] : List Value).toArray below meth c H locs 0 0 QQ (F0 m 98 ls [])) hM (fun zZ_8 lZ_9 gS_10 hM H locs ls hP hS hl => ?_) (fun k11 hJ11 hM => ?_)
      · refine lv_aload_n hx hb dX0_reaches_98 rfl (lv_at hl 0 rfl) ?_
        refine va_get hx hb hts hi0 hown hK hP 0 rfl rfl 2 (by decide) (hts (.fieldLink RX0 16 "NightPlots$Search" "deadEnds" "[J") (List.mem_of_getElem? (i := 4) rfl)) (fun _ h9 => h9) rfl dX0_reaches_99 ?_
        refine lv_iload hx hb dX0_reaches_102 (lv_at hl 2 rfl) ?_
        refine lv_lload_n hx hb dX0_reaches_104 rfl (lv_at hl 1 rfl) ?_
        obtain ⟨hi_12, hM⟩ := chkI_at hM
        refine va_last hx hb hK hP (hD.same rfl) hS 2 1 rfl rfl hi_12 dX0_reaches_105 (fun H locs hP _ hS => ?_)
        obtain ⟨lZ_13, elZ_13⟩ : ∃ z : Nat → Int64, z = (vp_updL lZ_9 x5.toNatClampNeg y4) := ⟨_, rfl⟩
        have hP : va_P D vwCl (cSearch Y zA (aS 0) zZ_8 lZ_13 ++ cStand Y aS (hT 0) vS gS_10 ++ cTold Y hT tT) H := by rw [elZ_13]; exact hP
        replace hM := nm_at hM elZ_13
        refine lv_iconst (v := (0 : Int32)) hx hb dX0_reaches_106 (by decide) ?_
        cases hM
        rw [hQQ]
        exact W.zret (ty := .boolean) hx hb hr rfl (fun t ht hW => ⟨⟨_, (), rfl, rfl, by show va_P D vwCl _ t.heap; rw [ht]; exact hP⟩, hS.F ht⟩) hS.2.2 dX0_reaches_107
      · refine jn3_at (fun (zZ_14 : GS) (lZ_15 : Nat → Int64) (gS_16 : GS) => ∀ (H : Heap) (locs : List Loc) (ls : Array Slot), va_P D vwCl (cSearch Y zA (aS 0) zZ_14 lZ_15 ++ cStand Y aS (hT 0) vS gS_16 ++ cTold Y hT tT) H → va_S A s.heap H locs → lv_has ls 6 [] → W p l e (headSpec wsX0_reaches rmX0_reaches_3).room s m ([.ref (zA 0), .int (3 : Int32)] : List Value).toArray below meth c H locs 0 0 QQ (F0 m 90 ls [])) hM (fun zZ_14 lZ_15 gS_16 hM H locs ls hP hS hl => ?_) (fun k17 hJ17 hM => ?_)
        · refine lv_iconst (v := (1 : Int32)) hx hb dX0_reaches_90 (by decide) ?_
          cases hM
          rw [hQQ]
          exact W.zret (ty := .boolean) hx hb hr rfl (fun t ht hW => ⟨⟨_, (), rfl, rfl, by show va_P D vwCl _ t.heap; rw [ht]; exact hP⟩, hS.F ht⟩) hS.2.2 dX0_reaches_91
        · refine lq4_at (fun (x18 : Int32) (zZ_19 : GS) (lZ_20 : Nat → Int64) (gS_21 : GS) => ∀ (H : Heap) (locs : List Loc) (ls : Array Slot), va_P D vwCl (cSearch Y zA (aS 0) zZ_19 lZ_20 ++ cStand Y aS (hT 0) vS gS_21 ++ cTold Y hT tT) H → va_S A s.heap H locs → lv_has ls 6 [(0, .ref (zA 0)), (1, .int (3 : Int32)), (2, .long y4), (4, .int x5), (5, .int x18)] → W p l e (headSpec wsX0_reaches rmX0_reaches_3).room s m ([.ref (zA 0), .int (3 : Int32)] : List Value).toArray below meth c H locs 0 0 QQ (F0 m 55 ls [])) (fun rec22 x18 zZ_19 lZ_20 gS_21 ih22 hM H locs ls hP hS hl => ?_) FU (0 : Int32) zZ lZ gS hM H locs ls hP hS (lv_sub hl [3, 4, 2, 1, 0] rfl)
          unfold BX0_reaches_3_55 at hM
          refine lv_iload hx hb dX0_reaches_55 (lv_at hl 4 rfl) ?_
          refine lv_aload_n hx hb dX0_reaches_57 rfl (lv_at hl 0 rfl) ?_
          refine va_get hx hb hts hi0 hown hK hP 0 rfl rfl 0 (by decide) (hts (.fieldLink RX0 20 "NightPlots$Search" "standing" "LNightPlots$Standing;") (List.mem_of_getElem? (i := 1) rfl)) (fun _ h9 => h9) rfl dX0_reaches_58 ?_
          refine va_getN hx hb hts hi1 hown hK hP 9 rfl rfl 0 (by decide) (hNF.use rfl) (fun _ h9 => h9) rfl dX0_reaches_61 ?_
          refine va_get hx hb hts hi3 hown hK hP 12 rfl rfl 1 (by decide) (hts (.fieldLink RX0 54 "NightPlots$Told" "houses" "I") (List.mem_of_getElem? (i := 5) rfl)) (fun _ h9 => h9) rfl dX0_reaches_64 ?_
          refine lv_icmp_ge (tgt := 98) hx hb dX0_reaches_67 (by decide) (fun c23 => ?_) (fun c23 => ?_)
          · replace hM := if_at_pos hM c23
            exact hJ11 zZ_19 lZ_20 gS_21 hM H locs ls hP hS (lv_sub hl [0, 2, 3] rfl)
          · replace hM := if_at_neg hM c23
            refine lv_aload_n hx hb dX0_reaches_70 rfl (lv_at hl 0 rfl) ?_
            refine lv_iload hx hb dX0_reaches_71 (lv_at hl 4 rfl) ?_
            refine lv_iload_n hx hb dX0_reaches_73 rfl (lv_at hl 1 rfl) ?_
            obtain ⟨r24, hc25, hM⟩ := bnd1_at hM
            refine cm_i (w2 := (cSearch Y zA (aS 0) zZ_19 lZ_20 ++ cStand Y aS (hT 0) vS gS_21 ++ cTold Y hT tT)) (va_runV (As := [.int x18, .int (3 : Int32)]) (rest := []) ⟨hx, hb, hml, hown, hts⟩ (ctX0_mayHelp l D Y zA (aS 0) H.size zZ_19 lZ_20 x18 (3 : Int32) r24 hc25) (cwV 2 hts gX0_reaches_X0_mayHelp rfl rfl rfl (by decide +kernel) ⟨Nat.le_of_ble_eq_true rfl, Nat.le_of_ble_eq_true rfl⟩) (pcW_V (ci := 0) (q0 := 0) hK hP (hD.same rfl) [0, 1, 2, 3, 4, 5, 6, 7, 8] rfl (pc_map (pc_cons rfl (pc_cons rfl (pc_cons rfl (pc_cons rfl (pc_cons rfl (pc_cons rfl (pc_cons rfl (pc_cons rfl (pc_cons rfl pc_nil)))))))))) rfl rfl) rfl rfl hl.1 rfl (lv_room (Nat.le_of_ble_eq_true rfl)) dX0_reaches_74 ⟨Nat.zero_le _, Nat.zero_le _⟩) hP (hD.same rfl) hS hA [0, 1, 2, 3, 4, 5, 6, 7, 8] (pc_map (pc_cons rfl (pc_cons rfl (pc_cons rfl (pc_cons rfl (pc_cons rfl (pc_cons rfl (pc_cons rfl (pc_cons rfl (pc_cons rfl pc_nil)))))))))) (up_new 0 rfl (up_new 1 rfl (up_new 2 rfl (up_new 3 rfl (up_new 4 rfl (up_new 5 rfl (up_new 6 rfl (up_new 7 rfl (up_new 8 rfl (up_old rfl rfl (up_old rfl rfl (up_old rfl rfl (up_old rfl rfl (up_old rfl rfl (up_old rfl rfl (up_old rfl rfl (up_old rfl rfl (up_old rfl rfl (up_old rfl rfl (up_old rfl rfl up_nil)))))))))))))))))))) (fun H locs hP hS => ?_)
            refine jn3_at (fun (zZ_26 : GS) (lZ_27 : Nat → Int64) (gS_28 : GS) => ∀ (H : Heap) (locs : List Loc) (ls : Array Slot), va_P D vwCl (cSearch Y zA (aS 0) zZ_26 lZ_27 ++ cStand Y aS (hT 0) vS gS_28 ++ cTold Y hT tT) H → va_S A s.heap H locs → lv_has ls 6 [(0, .ref (zA 0)), (1, .int (3 : Int32)), (2, .long y4), (4, .int x5), (5, .int x18)] → W p l e (headSpec wsX0_reaches rmX0_reaches_3).room s m ([.ref (zA 0), .int (3 : Int32)] : List Value).toArray below meth c H locs 0 0 QQ (F0 m 92 ls [])) hM (fun zZ_26 lZ_27 gS_28 hM H locs ls hP hS hl => ?_) (fun k29 hJ29 hM => ?_)
            · obtain ⟨x30, ex30⟩ : ∃ z : Int32, z = (x18 + 1) := ⟨_, rfl⟩
              replace hM := nm_at hM ex30
              refine lv_iinc (v := x30) (lv' := [(5, .int x30), (0, .ref (zA 0)), (1, .int (3 : Int32)), (2, .long y4), (4, .int x5)]) hx hb dX0_reaches_92 hl (k := 4) rfl (by rw [ex30]; rfl) (by decide) rfl (fun ls hl => ?_)
              refine lv_goto (tgt := 55) hx hb dX0_reaches_95 (by decide) ?_
              exact ih22 x30 zZ_26 lZ_27 gS_28 hM H locs ls hP hS (lv_sub hl [1, 2, 3, 4, 0] rfl)
            · refine lv_if_eq (tgt := 92) hx hb dX0_reaches_77 (by decide) (fun c31 => ?_) (fun c31 => ?_)
              · replace hM := if_at_pos hM c31
                exact hJ29 zZ_19 lZ_20 gS_21 hM H locs ls hP hS (lv_sub hl [0, 1, 2, 3, 4] rfl)
              · replace hM := if_at_neg hM c31
                refine lv_aload_n hx hb dX0_reaches_80 rfl (lv_at hl 0 rfl) ?_
                refine lv_iload hx hb dX0_reaches_81 (lv_at hl 4 rfl) ?_
                refine lv_iload_n hx hb dX0_reaches_83 rfl (lv_at hl 1 rfl) ?_
                obtain ⟨r32, zZ_33, lZ_34, gS_35, hc36, hM⟩ := bnd4_at hM
                refine co_i (va_runS (As := [.ref (zA 0), .int x18, .int (3 : Int32)]) (rest := []) ⟨hx, hb, hml, hown, hts⟩ (ctX0_reachesBy_3 l D Y zA aS hT vS H.size zZ_19 lZ_20 gS_21 tT x18 r32 zZ_33 lZ_34 gS_35 hc36) ⟨callB_of 3 hts ggX0_reaches_X0_reachesBy rfl rfl rfl (hts (.initialized RX0) (List.mem_of_getElem? (i := 17) rfl)) (hts (.methodLink RX0 63 yX0_reachesBy) (List.mem_of_getElem? (i := 21) rfl)) (by decide +kernel) ⟨Nat.le_of_ble_eq_true rfl, Nat.le_of_ble_eq_true rfl⟩, (hts (.static yX0_reachesBy) (List.mem_of_getElem? (i := 22) rfl))⟩ (pcN_S hNF (pcW_S0 hK hP (hD.same rfl))) rfl rfl hl.1 rfl (lv_room (Nat.le_of_ble_eq_true rfl)) dX0_reaches_84 ⟨Nat.zero_le _, Nat.zero_le _⟩) (hD.same rfl) hS hA (fun H locs hP hS => ?_)
                refine lv_if_eq (tgt := 92) hx hb dX0_reaches_87 (by decide) (fun c37 => ?_) (fun c37 => ?_)
                · replace hM := if_at_pos hM c37
                  exact hJ29 zZ_33 lZ_34 gS_35 hM H locs ls hP hS (lv_sub hl [0, 1, 2, 3, 4] rfl)
                · replace hM := if_at_neg hM c37
                  exact hJ17 zZ_33 lZ_34 gS_35 hM H locs ls hP hS (lv_sub hl [] rfl)
    · replace hM := if_at_pos hM c7
      refine lv_iconst (v := (0 : Int32)) hx hb dX0_reaches_50 (by decide) ?_
      cases hM
      rw [hQQ]
      exact W.zret (ty := .boolean) hx hb hr rfl (fun t ht hW => ⟨⟨_, (), rfl, rfl, by show va_P D vwCl _ t.heap; rw [ht]; exact hP⟩, hS.F ht⟩) hS.2.2 dX0_reaches_51
noncomputable def BX0_reachesBy_4_32 (r4 : Int32) (k11 : GS → (Nat → Int64) → GS → Option (Int32 × GS × (Nat → Int64) × GS)) (tT : GS) (i2 : Int32) (x3 : Int32) (k16 : Int32 → GS → (Nat → Int64) → GS → Option (Int32 × GS × (Nat → Int64) × GS)) (rec24 : Int32 → GS → (Nat → Int64) → GS → Option (Int32 × GS × (Nat → Int64) × GS)) (x20 : Int32) (zZ_21 : GS) (lZ_22 : Nat → Int64) (gS_23 : GS) : Option (Int32 × GS × (Nat → Int64) × GS) := if r4 ≤ x20 then (k11 zZ_21 lZ_22 gS_23) else (if (8 : Int32) ≤ x20 then (k11 zZ_21 lZ_22 gS_23) else (chkI x20 8 (bnd1 (MX1_moveHouse gS_23 tT i2 (zZ_21 5 x20.toNatClampNeg)) fun (gS_28 : GS) => jn4 (fun (zZ_30 : GS) (lZ_31 : Nat → Int64) (gS_32 : GS) (x33 : Int32) => bnd1 (MX1_moveHouse gS_32 tT i2 x3) fun (gS_35 : GS) => if x33 = 0 then (nm (x20 + 1) fun (x38 : Int32) => rec24 x38 zZ_30 lZ_31 gS_35) else (k16 x20 zZ_30 lZ_31 gS_35)) (fun k34 => bnd4 (MX0_reaches_3 zZ_21 lZ_22 gS_28 tT) fun (r39 : Int32) (zZ_40 : GS) (lZ_41 : Nat → Int64) (gS_42 : GS) => k34 zZ_40 lZ_41 gS_42 r39))))
noncomputable def MX0_reachesBy_4 (zZ : GS) (lZ : Nat → Int64) (gS : GS) (tT : GS) (i2 : Int32) : Option (Int32 × GS × (Nat → Int64) × GS) := chkI (4 : Int32) 6 (chkI i2 8 (nm (gS 1 i2.toNatClampNeg) fun (x3 : Int32) => bnd2 (MX1_findWays gS (zZ 5) tT i2) fun (r4 : Int32) (fR_5 : Nat → Int32) => nm (upA zZ 5 fR_5) fun (zZ_7 : GS) => jn3 (fun (zZ_8 : GS) (lZ_9 : Nat → Int64) (gS_10 : GS) => some ((0 : Int32), zZ_8, lZ_9, gS_10)) (fun k11 => jn4 (fun (x12 : Int32) (zZ_13 : GS) (lZ_14 : Nat → Int64) (gS_15 : GS) => chkI x12 8 (nm (((20 : Int32) * i2) + (zZ_13 5 x12.toNatClampNeg)) fun (x18 : Int32) => nm (up2 zZ_13 0 5 x18) fun (zZ_19 : GS) => some ((1 : Int32), zZ_19, lZ_14, gS_15))) (fun k16 => lq4 (BX0_reachesBy_4_32 r4 k11 tT i2 x3 k16) FU (0 : Int32) zZ_7 lZ gS))))
abbrev rmX0_reachesBy_4 : Room := { frames := 11, cells := 0, slots := 0, locals := 440 }
set_option maxHeartbeats 4000000 in
set_option maxRecDepth 100000 in
theorem ctX0_reachesBy_4 (l : Launch) (D : va_G) (Y : Nat → ClassId) (zA : Nat → Nat) (aS : Nat → Nat) (hT : Nat → Nat) (vS : Nat) (sz : Nat) (zZ : GS) (lZ : Nat → Int64) (gS : GS) (tT : GS) (i2 : Int32) (rr : Int32) (zZz : GS) (lZz : Nat → Int64) (gSz : GS) (hM : MX0_reachesBy_4 zZ lZ gS tT i2 = some (rr, zZz, lZz, gSz)) : Met l yX0_reachesBy wsX0_reachesBy rmX0_reachesBy_4 (pcN [.ref (zA 0), .int i2, .int (4 : Int32)] sz D Y (cSearch Y zA (aS 0) zZ lZ ++ cStand Y aS (hT 0) vS gS ++ cTold Y hT tT)) (qiW rr D (cSearch Y zA (aS 0) zZz lZz ++ cStand Y aS (hT 0) vS gSz ++ cTold Y hT tT) (va_A (cSearch Y zA (aS 0) zZ lZ ++ cStand Y aS (hT 0) vS gS ++ cTold Y hT tT) sz)) 0 0 (va_A (cSearch Y zA (aS 0) zZ lZ ++ cStand Y aS (hT 0) vS gS ++ cTold Y hT tT) sz) := by
  refine Met.ofW (cc := cX0_reachesBy) (maxL := 8) (ret := (some .boolean)) (by decide) rfl ?_
  intro p e s m args below meth c s₁ B hml hv
  obtain ⟨⟨rfl, hsz, hP, hK, hD0⟩, hNF⟩ := hv
  have hx := B.exec
  have hb := B.bytes
  have hr := B.returns
  have hts := atoms_spec (ws := wsX0_reachesBy) B.pre
  have hown : s.vm.findClass RX0 = some m.cls := findClass_of_methodNamed B.named
  have hlocks := B.notSynchronized
  subst hsz
  have hD := hD0.self (sz := s.heap.size)
  generalize hAe : va_A (cSearch Y zA (aS 0) zZ lZ ++ cStand Y aS (hT 0) vS gS ++ cTold Y hT tT) s.heap.size = A at hD ⊢
  have hA : ∀ q : Nat, s.heap.size ≤ q → A q := fun q h => by rw [← hAe]; exact Or.inr h
  have hS : va_S A s.heap s.heap [] := va_S.rf
  have hi0 : ∀ w ∈ wsX00, w ∈ wsX0_reachesBy := fun w h => List.mem_cons_of_mem _ (List.mem_append_left _ (List.mem_append_left _ (List.mem_append_right _ h)))
  have hi1 : ∀ w ∈ wsX10, w ∈ wsX0_reachesBy := fun w h => List.mem_cons_of_mem _ (List.mem_append_left _ (List.mem_append_right _ h))
  have hl := lv_entry ([.ref (zA 0), .int i2, .int (4 : Int32)]) (n := 8) (Nat.le_of_ble_eq_true rfl)
  rw [lg_entry_eq]
  generalize (lg_sl ([.ref (zA 0), .int i2, .int (4 : Int32)]) ++ List.replicate (8 - (lg_sl ([.ref (zA 0), .int i2, .int (4 : Int32)])).length) Slot.unset).toArray = ls at hl ⊢
  have hl : lv_has ls 8 [(0, .ref (zA 0)), (1, .int i2), (2, .int (4 : Int32))] := hl
  obtain ⟨QQ, hQQ⟩ : ∃ Q : State → Prop, Q = MQ below (qiW rr D (cSearch Y zA (aS 0) zZz lZz ++ cStand Y aS (hT 0) vS gSz ++ cTold Y hT tT) A) ([.ref (zA 0), .int i2, .int (4 : Int32)] : List Value).toArray s 0 0 A := ⟨_, rfl⟩
  rw [← hQQ]
  unfold MX0_reachesBy_4 at hM
  suffices hI : ∀ (H : Heap) (locs : List Loc), va_P D vwCl (cSearch Y zA (aS 0) zZ lZ ++ cStand Y aS (hT 0) vS gS ++ cTold Y hT tT) H → va_S A s.heap H locs → W p l e (headSpec wsX0_reachesBy rmX0_reachesBy_4).room s m ([.ref (zA 0), .int i2, .int (4 : Int32)] : List Value).toArray below meth c H locs 0 0 QQ (F0 m 0 ls []) from hI _ _ hP hS
  clear hP hS
  intro H locs hP hS
  refine lv_aload_n hx hb dX0_reachesBy_0 rfl (lv_at hl 0 rfl) ?_
  refine va_get hx hb hts hi0 hown hK hP 0 rfl rfl 1 (by decide) (hts (.fieldLink RX0 11 "NightPlots$Search" "ways" "[[I") (List.mem_of_getElem? (i := 1) rfl)) (fun _ h9 => h9) rfl dX0_reachesBy_1 ?_
  refine lv_iload_n hx hb dX0_reachesBy_4 rfl (lv_at hl 2 rfl) ?_
  obtain ⟨hi_1, hM⟩ := chkI_at hM
  refine va_ald2 (v := .ref (zA 7)) hx hb hK hP 1 4 rfl rfl hi_1 rfl dX0_reachesBy_5 ?_
  refine lv_astore_n (lv' := [(3, .ref (zA 7)), (0, .ref (zA 0)), (1, .int i2), (2, .int (4 : Int32))]) hx hb dX0_reachesBy_6 rfl hl (by decide) rfl (fun ls hl => ?_)
  refine lv_aload_n hx hb dX0_reachesBy_7 rfl (lv_at hl 1 rfl) ?_
  refine va_get hx hb hts hi0 hown hK hP 0 rfl rfl 0 (by decide) (hts (.fieldLink RX0 20 "NightPlots$Search" "standing" "LNightPlots$Standing;") (List.mem_of_getElem? (i := 2) rfl)) (fun _ h9 => h9) rfl dX0_reachesBy_8 ?_
  refine va_get hx hb hts hi1 hown hK hP 9 rfl rfl 1 (by decide) (hts (.fieldLink RX0 67 "NightPlots$Standing" "place" "[I") (List.mem_of_getElem? (i := 3) rfl)) (fun _ h9 => h9) rfl dX0_reachesBy_11 ?_
  refine lv_iload_n hx hb dX0_reachesBy_14 rfl (lv_at hl 2 rfl) ?_
  obtain ⟨hi_2, hM⟩ := chkI_at hM
  refine va_iald hx hb hK hP 10 0 rfl rfl hi_2 dX0_reachesBy_15 ?_
  refine lv_topi (fun x3 ex3 => ?_)
  replace hM := nm_at hM ex3
  refine lv_istore (lv' := [(4, .int x3), (3, .ref (zA 7)), (0, .ref (zA 0)), (1, .int i2), (2, .int (4 : Int32))]) hx hb dX0_reachesBy_16 hl (by decide) rfl (fun ls hl => ?_)
  refine lv_aload_n hx hb dX0_reachesBy_18 rfl (lv_at hl 2 rfl) ?_
  refine va_get hx hb hts hi0 hown hK hP 0 rfl rfl 0 (by decide) (hts (.fieldLink RX0 20 "NightPlots$Search" "standing" "LNightPlots$Standing;") (List.mem_of_getElem? (i := 2) rfl)) (fun _ h9 => h9) rfl dX0_reachesBy_19 ?_
  refine lv_iload_n hx hb dX0_reachesBy_22 rfl (lv_at hl 3 rfl) ?_
  refine lv_aload_n hx hb dX0_reachesBy_23 rfl (lv_at hl 1 rfl) ?_
  obtain ⟨r4, fR_5, hc6, hM⟩ := bnd2_at hM
  refine cm_i (w2 := (cSearch Y zA (aS 0) (upA zZ 5 fR_5) lZ ++ cStand Y aS (hT 0) vS gS ++ cTold Y hT tT)) (va_runV (As := [.int i2, .ref (zA 7)]) (rest := []) ⟨hx, hb, hml, hown, hts⟩ (ctX1_findWays l D Y aS (zA 7) hT vS H.size gS (zZ 5) tT i2 r4 fR_5 hc6) (cwV 2 hts gX0_reachesBy_X1_findWays rfl rfl rfl (by decide +kernel) ⟨Nat.le_of_ble_eq_true rfl, Nat.le_of_ble_eq_true rfl⟩) (pcW_V (ci := 1) (q0 := 9) hK hP (hD.same rfl) [9, 10, 11, 7, 12, 13, 14, 15, 16, 17, 18, 19] rfl (pc_map (pc_cons rfl (pc_cons rfl (pc_cons rfl (pc_cons rfl (pc_cons rfl (pc_cons rfl (pc_cons rfl (pc_cons rfl (pc_cons rfl (pc_cons rfl (pc_cons rfl (pc_cons rfl pc_nil))))))))))))) rfl rfl) rfl rfl hl.1 rfl (lv_room (Nat.le_of_ble_eq_true rfl)) dX0_reachesBy_24 ⟨Nat.zero_le _, Nat.zero_le _⟩) hP (hD.same rfl) hS hA [9, 10, 11, 7, 12, 13, 14, 15, 16, 17, 18, 19] (pc_map (pc_cons rfl (pc_cons rfl (pc_cons rfl (pc_cons rfl (pc_cons rfl (pc_cons rfl (pc_cons rfl (pc_cons rfl (pc_cons rfl (pc_cons rfl (pc_cons rfl (pc_cons rfl pc_nil))))))))))))) (up_old rfl rfl (up_old rfl rfl (up_old rfl rfl (up_old rfl rfl (up_old rfl rfl (up_old rfl rfl (up_old rfl rfl (up_new 3 rfl (up_old rfl rfl (up_new 0 rfl (up_new 1 rfl (up_new 2 rfl (up_new 4 rfl (up_new 5 rfl (up_new 6 rfl (up_new 7 rfl (up_new 8 rfl (up_new 9 rfl (up_new 10 rfl (up_new 11 rfl up_nil)))))))))))))))))))) (fun H locs hP hS => ?_)
  obtain ⟨zZ_7, ezZ_7⟩ : ∃ z : GS, z = (upA zZ 5 fR_5) := ⟨_, rfl⟩
  have hP : va_P D vwCl (cSearch Y zA (aS 0) zZ_7 lZ ++ cStand Y aS (hT 0) vS gS ++ cTold Y hT tT) H := by rw [ezZ_7]; exact hP
  replace hM := nm_at hM ezZ_7
  refine lv_istore (lv' := [(5, .int r4), (4, .int x3), (3, .ref (zA 7)), (0, .ref (zA 0)), (1, .int i2), (2, .int (4 : Int32))]) hx hb dX0_reachesBy_27 hl (by decide) rfl (fun ls hl => ?_)
  refine lv_iconst (v := (0 : Int32)) hx hb dX0_reachesBy_29 (by decide) ?_
  refine lv_istore (lv' := [(6, .int (0 : Int32)), (5, .int r4), (4, .int x3), (3, .ref (zA 7)), (0, .ref (zA 0)), (1, .int i2), (2, .int (4 : Int32))]) hx hb dX0_reachesBy_30 hl (by decide) rfl (fun ls hl => ?_)
  refine jn3_at (fun (zZ_8 : GS) (lZ_9 : Nat → Int64) (gS_10 : GS) => ∀ (H : Heap) (locs : List Loc) (ls : Array Slot), va_P D vwCl (cSearch Y zA (aS 0) zZ_8 lZ_9 ++ cStand Y aS (hT 0) vS gS_10 ++ cTold Y hT tT) H → va_S A s.heap H locs → lv_has ls 8 [] → W p l e (headSpec wsX0_reachesBy rmX0_reachesBy_4).room s m ([.ref (zA 0), .int i2, .int (4 : Int32)] : List Value).toArray below meth c H locs 0 0 QQ (F0 m 126 ls [])) hM (fun zZ_8 lZ_9 gS_10 hM H locs ls hP hS hl => ?_) (fun k11 hJ11 hM => ?_)
  · refine lv_iconst (v := (0 : Int32)) hx hb dX0_reachesBy_126 (by decide) ?_
    cases hM
    rw [hQQ]
    exact W.zret (ty := .boolean) hx hb hr rfl (fun t ht hW => ⟨⟨_, (), rfl, rfl, by show va_P D vwCl _ t.heap; rw [ht]; exact hP⟩, hS.F ht⟩) hS.2.2 dX0_reachesBy_127
  · refine jn4_at (fun (x12 : Int32) (zZ_13 : GS) (lZ_14 : Nat → Int64) (gS_15 : GS) => ∀ (H : Heap) (locs : List Loc) (ls : Array Slot), va_P D vwCl (cSearch Y zA (aS 0) zZ_13 lZ_14 ++ cStand Y aS (hT 0) vS gS_15 ++ cTold Y hT tT) H → va_S A s.heap H locs → lv_has ls 8 [(0, .ref (zA 0)), (1, .int i2), (3, .ref (zA 7)), (6, .int x12)] → W p l e (headSpec wsX0_reachesBy rmX0_reachesBy_4).room s m ([.ref (zA 0), .int i2, .int (4 : Int32)] : List Value).toArray below meth c H locs 0 0 QQ (F0 m 105 ls [])) hM (fun x12 zZ_13 lZ_14 gS_15 hM H locs ls hP hS hl => ?_) (fun k16 hJ16 hM => ?_)
    · refine lv_aload_n hx hb dX0_reachesBy_105 rfl (lv_at hl 0 rfl) ?_
      refine lv_bipush (v := (20 : Int32)) hx hb dX0_reachesBy_106 (by decide) ?_
      refine lv_iload_n hx hb dX0_reachesBy_108 rfl (lv_at hl 1 rfl) ?_
      refine lv_imul hx hb dX0_reachesBy_109 ?_
      refine lv_aload_n hx hb dX0_reachesBy_110 rfl (lv_at hl 2 rfl) ?_
      refine lv_iload hx hb dX0_reachesBy_111 (lv_at hl 3 rfl) ?_
      obtain ⟨hi_17, hM⟩ := chkI_at hM
      refine va_iald hx hb hK hP 7 0 rfl rfl hi_17 dX0_reachesBy_113 ?_
      refine lv_iadd hx hb dX0_reachesBy_114 ?_
      refine lv_topi (fun x18 ex18 => ?_)
      replace hM := nm_at hM ex18
      refine va_put (ty := .int) hx hb hts hi0 tyX0 tyX0_ok nmX0 hown hK hP (hD.same rfl) hS 0 rfl rfl 5 (by decide) (hts (.fieldLink RX0 31 "NightPlots$Search" "firstRoll" "I") (List.mem_of_getElem? (i := 6) rfl)) (fun _ h9 => h9) rfl (by decide +kernel) rfl rfl (Nat.le_of_ble_eq_true rfl) dX0_reachesBy_115 (fun H locs hP _ hS => ?_)
      obtain ⟨zZ_19, ezZ_19⟩ : ∃ z : GS, z = (up2 zZ_13 0 5 x18) := ⟨_, rfl⟩
      have hP : va_P D vwCl (cSearch Y zA (aS 0) zZ_19 lZ_14 ++ cStand Y aS (hT 0) vS gS_15 ++ cTold Y hT tT) H := by rw [ezZ_19]; exact hP
      replace hM := nm_at hM ezZ_19
      refine lv_iconst (v := (1 : Int32)) hx hb dX0_reachesBy_118 (by decide) ?_
      cases hM
      rw [hQQ]
      exact W.zret (ty := .boolean) hx hb hr rfl (fun t ht hW => ⟨⟨_, (), rfl, rfl, by show va_P D vwCl _ t.heap; rw [ht]; exact hP⟩, hS.F ht⟩) hS.2.2 dX0_reachesBy_119
    · refine lq4_at (fun (x20 : Int32) (zZ_21 : GS) (lZ_22 : Nat → Int64) (gS_23 : GS) => ∀ (H : Heap) (locs : List Loc) (ls : Array Slot), va_P D vwCl (cSearch Y zA (aS 0) zZ_21 lZ_22 ++ cStand Y aS (hT 0) vS gS_23 ++ cTold Y hT tT) H → va_S A s.heap H locs → lv_has ls 8 [(0, .ref (zA 0)), (1, .int i2), (2, .int (4 : Int32)), (3, .ref (zA 7)), (4, .int x3), (5, .int r4), (6, .int x20)] → W p l e (headSpec wsX0_reachesBy rmX0_reachesBy_4).room s m ([.ref (zA 0), .int i2, .int (4 : Int32)] : List Value).toArray below meth c H locs 0 0 QQ (F0 m 32 ls [])) (fun rec24 x20 zZ_21 lZ_22 gS_23 ih24 hM H locs ls hP hS hl => ?_) FU (0 : Int32) zZ_7 lZ gS hM H locs ls hP hS (lv_sub hl [4, 5, 6, 3, 2, 1, 0] rfl)
      unfold BX0_reachesBy_4_32 at hM
      refine lv_iload hx hb dX0_reachesBy_32 (lv_at hl 6 rfl) ?_
      refine lv_iload hx hb dX0_reachesBy_34 (lv_at hl 5 rfl) ?_
      refine lv_icmp_ge (tgt := 126) hx hb dX0_reachesBy_36 (by decide) (fun c25 => ?_) (fun c25 => ?_)
      · replace hM := if_at_pos hM c25
        exact hJ11 zZ_21 lZ_22 gS_23 hM H locs ls hP hS (lv_sub hl [] rfl)
      · replace hM := if_at_neg hM c25
        refine lv_iload hx hb dX0_reachesBy_39 (lv_at hl 6 rfl) ?_
        refine lv_aload_n hx hb dX0_reachesBy_41 rfl (lv_at hl 3 rfl) ?_
        refine va_alen (v := (8 : Int32)) hx hb hK hP 7 0 rfl rfl rfl dX0_reachesBy_42 ?_
        refine lv_icmp_ge (tgt := 126) hx hb dX0_reachesBy_43 (by decide) (fun c26 => ?_) (fun c26 => ?_)
        · replace hM := if_at_pos hM c26
          exact hJ11 zZ_21 lZ_22 gS_23 hM H locs ls hP hS (lv_sub hl [] rfl)
        · replace hM := if_at_neg hM c26
          refine lv_aload_n hx hb dX0_reachesBy_46 rfl (lv_at hl 0 rfl) ?_
          refine va_get hx hb hts hi0 hown hK hP 0 rfl rfl 0 (by decide) (hts (.fieldLink RX0 20 "NightPlots$Search" "standing" "LNightPlots$Standing;") (List.mem_of_getElem? (i := 2) rfl)) (fun _ h9 => h9) rfl dX0_reachesBy_47 ?_
          refine lv_iload_n hx hb dX0_reachesBy_50 rfl (lv_at hl 1 rfl) ?_
          refine lv_aload_n hx hb dX0_reachesBy_51 rfl (lv_at hl 3 rfl) ?_
          refine lv_iload hx hb dX0_reachesBy_52 (lv_at hl 6 rfl) ?_
          obtain ⟨hi_27, hM⟩ := chkI_at hM
          refine va_iald hx hb hK hP 7 0 rfl rfl hi_27 dX0_reachesBy_54 ?_
          obtain ⟨gS_28, hc29, hM⟩ := bnd1_at hM
          refine cm_v (w2 := (cSearch Y zA (aS 0) zZ_21 lZ_22 ++ cStand Y aS (hT 0) vS gS_28 ++ cTold Y hT tT)) (va_runV (As := [.int i2, .int (zZ_21 5 x20.toNatClampNeg)]) (rest := []) ⟨hx, hb, hml, hown, hts⟩ (ctX1_moveHouse l D Y aS hT vS H.size gS_23 tT i2 (zZ_21 5 x20.toNatClampNeg) gS_28 hc29) (cwV 2 hts gX0_reachesBy_X1_moveHouse rfl rfl rfl (by decide +kernel) ⟨Nat.le_of_ble_eq_true rfl, Nat.le_of_ble_eq_true rfl⟩) (pcW_V (ci := 1) (q0 := 9) hK hP (hD.same rfl) [9, 10, 11, 12, 13, 14, 15, 16, 17, 18, 19] rfl (pc_map (pc_cons rfl (pc_cons rfl (pc_cons rfl (pc_cons rfl (pc_cons rfl (pc_cons rfl (pc_cons rfl (pc_cons rfl (pc_cons rfl (pc_cons rfl (pc_cons rfl pc_nil)))))))))))) rfl rfl) rfl rfl hl.1 rfl (lv_room (Nat.le_of_ble_eq_true rfl)) dX0_reachesBy_55 ⟨Nat.zero_le _, Nat.zero_le _⟩) hP (hD.same rfl) hS hA [9, 10, 11, 12, 13, 14, 15, 16, 17, 18, 19] (pc_map (pc_cons rfl (pc_cons rfl (pc_cons rfl (pc_cons rfl (pc_cons rfl (pc_cons rfl (pc_cons rfl (pc_cons rfl (pc_cons rfl (pc_cons rfl (pc_cons rfl pc_nil)))))))))))) (up_old rfl rfl (up_old rfl rfl (up_old rfl rfl (up_old rfl rfl (up_old rfl rfl (up_old rfl rfl (up_old rfl rfl (up_old rfl rfl (up_old rfl rfl (up_new 0 rfl (up_new 1 rfl (up_new 2 rfl (up_new 3 rfl (up_new 4 rfl (up_new 5 rfl (up_new 6 rfl (up_new 7 rfl (up_new 8 rfl (up_new 9 rfl (up_new 10 rfl up_nil)))))))))))))))))))) (fun H locs hP hS => ?_)
          refine lv_iload_n hx hb dX0_reachesBy_58 rfl (lv_at hl 2 rfl) ?_
          refine lv_iconst (v := (1 : Int32)) hx hb dX0_reachesBy_59 (by decide) ?_
          refine jn4_at (fun (zZ_30 : GS) (lZ_31 : Nat → Int64) (gS_32 : GS) (x33 : Int32) => ∀ (H : Heap) (locs : List Loc) (ls : Array Slot), va_P D vwCl (cSearch Y zA (aS 0) zZ_30 lZ_31 ++ cStand Y aS (hT 0) vS gS_32 ++ cTold Y hT tT) H → va_S A s.heap H locs → lv_has ls 8 [(0, .ref (zA 0)), (1, .int i2), (2, .int (4 : Int32)), (3, .ref (zA 7)), (4, .int x3), (5, .int r4), (6, .int x20)] → W p l e (headSpec wsX0_reachesBy rmX0_reachesBy_4).room s m ([.ref (zA 0), .int i2, .int (4 : Int32)] : List Value).toArray below meth c H locs 0 0 QQ (F0 m 88 ls [.int x33])) hM (fun zZ_30 lZ_31 gS_32 x33 hM H locs ls hP hS hl => ?_) (fun k34 hJ34 hM => ?_)
          · refine lv_istore (lv' := [(7, .int x33), (0, .ref (zA 0)), (1, .int i2), (2, .int (4 : Int32)), (3, .ref (zA 7)), (4, .int x3), (5, .int r4), (6, .int x20)]) hx hb dX0_reachesBy_88 hl (by decide) rfl (fun ls hl => ?_)
            refine lv_aload_n hx hb dX0_reachesBy_90 rfl (lv_at hl 1 rfl) ?_
            refine va_get hx hb hts hi0 hown hK hP 0 rfl rfl 0 (by decide) (hts (.fieldLink RX0 20 "NightPlots$Search" "standing" "LNightPlots$Standing;") (List.mem_of_getElem? (i := 2) rfl)) (fun _ h9 => h9) rfl dX0_reachesBy_91 ?_
            refine lv_iload_n hx hb dX0_reachesBy_94 rfl (lv_at hl 2 rfl) ?_
            refine lv_iload hx hb dX0_reachesBy_95 (lv_at hl 5 rfl) ?_
            obtain ⟨gS_35, hc36, hM⟩ := bnd1_at hM
            refine cm_v (w2 := (cSearch Y zA (aS 0) zZ_30 lZ_31 ++ cStand Y aS (hT 0) vS gS_35 ++ cTold Y hT tT)) (va_runV (As := [.int i2, .int x3]) (rest := []) ⟨hx, hb, hml, hown, hts⟩ (ctX1_moveHouse l D Y aS hT vS H.size gS_32 tT i2 x3 gS_35 hc36) (cwV 2 hts gX0_reachesBy_X1_moveHouse rfl rfl rfl (by decide +kernel) ⟨Nat.le_of_ble_eq_true rfl, Nat.le_of_ble_eq_true rfl⟩) (pcW_V (ci := 1) (q0 := 9) hK hP (hD.same rfl) [9, 10, 11, 12, 13, 14, 15, 16, 17, 18, 19] rfl (pc_map (pc_cons rfl (pc_cons rfl (pc_cons rfl (pc_cons rfl (pc_cons rfl (pc_cons rfl (pc_cons rfl (pc_cons rfl (pc_cons rfl (pc_cons rfl (pc_cons rfl pc_nil)))))))))))) rfl rfl) rfl rfl hl.1 rfl (lv_room (Nat.le_of_ble_eq_true rfl)) dX0_reachesBy_97 ⟨Nat.zero_le _, Nat.zero_le _⟩) hP (hD.same rfl) hS hA [9, 10, 11, 12, 13, 14, 15, 16, 17, 18, 19] (pc_map (pc_cons rfl (pc_cons rfl (pc_cons rfl (pc_cons rfl (pc_cons rfl (pc_cons rfl (pc_cons rfl (pc_cons rfl (pc_cons rfl (pc_cons rfl (pc_cons rfl pc_nil)))))))))))) (up_old rfl rfl (up_old rfl rfl (up_old rfl rfl (up_old rfl rfl (up_old rfl rfl (up_old rfl rfl (up_old rfl rfl (up_old rfl rfl (up_old rfl rfl (up_new 0 rfl (up_new 1 rfl (up_new 2 rfl (up_new 3 rfl (up_new 4 rfl (up_new 5 rfl (up_new 6 rfl (up_new 7 rfl (up_new 8 rfl (up_new 9 rfl (up_new 10 rfl up_nil)))))))))))))))))))) (fun H locs hP hS => ?_)
            refine lv_iload hx hb dX0_reachesBy_100 (lv_at hl 0 rfl) ?_
            refine lv_if_eq (tgt := 120) hx hb dX0_reachesBy_102 (by decide) (fun c37 => ?_) (fun c37 => ?_)
            · replace hM := if_at_pos hM c37
              obtain ⟨x38, ex38⟩ : ∃ z : Int32, z = (x20 + 1) := ⟨_, rfl⟩
              replace hM := nm_at hM ex38
              refine lv_iinc (v := x38) (lv' := [(6, .int x38), (7, .int x33), (0, .ref (zA 0)), (1, .int i2), (2, .int (4 : Int32)), (3, .ref (zA 7)), (4, .int x3), (5, .int r4)]) hx hb dX0_reachesBy_120 hl (k := 7) rfl (by rw [ex38]; rfl) (by decide) rfl (fun ls hl => ?_)
              refine lv_goto (tgt := 32) hx hb dX0_reachesBy_123 (by decide) ?_
              exact ih24 x38 zZ_30 lZ_31 gS_35 hM H locs ls hP hS (lv_sub hl [2, 3, 4, 5, 6, 7, 0] rfl)
            · replace hM := if_at_neg hM c37
              exact hJ16 x20 zZ_30 lZ_31 gS_35 hM H locs ls hP hS (lv_sub hl [1, 2, 4, 7] rfl)
          · refine lv_icmp_ne (tgt := 81) hx hb dX0_reachesBy_60 (by decide) (fun _ => ?_) (fun c => absurd c (by decide))
            refine lv_aload_n hx hb dX0_reachesBy_81 rfl (lv_at hl 0 rfl) ?_
            refine lv_iload_n hx hb dX0_reachesBy_82 rfl (lv_at hl 2 rfl) ?_
            refine lv_iconst (v := (1 : Int32)) hx hb dX0_reachesBy_83 (by decide) ?_
            refine lv_isub hx hb dX0_reachesBy_84 ?_
            rw [show ((4 : Int32) - (1 : Int32)) = (3 : Int32) from by decide]
            obtain ⟨r39, zZ_40, lZ_41, gS_42, hc43, hM⟩ := bnd4_at hM
            refine co_i (va_runS (As := [.ref (zA 0), .int (3 : Int32)]) (rest := []) ⟨hx, hb, hml, hown, hts⟩ (ctX0_reaches_3 l D Y zA aS hT vS H.size zZ_21 lZ_22 gS_28 tT r39 zZ_40 lZ_41 gS_42 hc43) ⟨callB_of 2 hts ggX0_reachesBy_X0_reaches rfl rfl rfl (hts (.initialized RX0) (List.mem_of_getElem? (i := 69) rfl)) (hts (.methodLink RX0 82 yX0_reaches) (List.mem_of_getElem? (i := 67) rfl)) (by decide +kernel) ⟨Nat.le_of_ble_eq_true rfl, Nat.le_of_ble_eq_true rfl⟩, (hts (.static yX0_reaches) (List.mem_of_getElem? (i := 68) rfl))⟩ (pcN_S hNF (pcW_S0 hK hP (hD.same rfl))) rfl rfl hl.1 rfl (lv_room (Nat.le_of_ble_eq_true rfl)) dX0_reachesBy_85 ⟨Nat.zero_le _, Nat.zero_le _⟩) (hD.same rfl) hS hA (fun H locs hP hS => ?_)
            exact hJ34 zZ_40 lZ_41 gS_42 r39 hM H locs ls hP hS (lv_sub hl [0, 1, 2, 3, 4, 5, 6] rfl)
noncomputable def BX0_reaches_4_55 (tT : GS) (k11 : GS → (Nat → Int64) → GS → Option (Int32 × GS × (Nat → Int64) × GS)) (k17 : GS → (Nat → Int64) → GS → Option (Int32 × GS × (Nat → Int64) × GS)) (rec22 : Int32 → GS → (Nat → Int64) → GS → Option (Int32 × GS × (Nat → Int64) × GS)) (x18 : Int32) (zZ_19 : GS) (lZ_20 : Nat → Int64) (gS_21 : GS) : Option (Int32 × GS × (Nat → Int64) × GS) := if (tT 0 1) ≤ x18 then (k11 zZ_19 lZ_20 gS_21) else (bnd1 (MX0_mayHelp zZ_19 x18 (4 : Int32)) fun (r24 : Int32) => jn3 (fun (zZ_26 : GS) (lZ_27 : Nat → Int64) (gS_28 : GS) => nm (x18 + 1) fun (x30 : Int32) => rec22 x30 zZ_26 lZ_27 gS_28) (fun k29 => if r24 = 0 then (k29 zZ_19 lZ_20 gS_21) else (bnd4 (MX0_reachesBy_4 zZ_19 lZ_20 gS_21 tT x18) fun (r32 : Int32) (zZ_33 : GS) (lZ_34 : Nat → Int64) (gS_35 : GS) => if r32 = 0 then (k29 zZ_33 lZ_34 gS_35) else (k17 zZ_33 lZ_34 gS_35))))
noncomputable def MX0_reaches_4 (zZ : GS) (lZ : Nat → Int64) (gS : GS) (tT : GS) : Option (Int32 × GS × (Nat → Int64) × GS) := jn0 (some ((0 : Int32), zZ, lZ, gS)) (fun k1 => bnd1 (MX1_placesKey gS tT) fun (r2 : Int64) => nm ((r2 * (8 : Int64)) + ((4 : Int32).toInt64)) fun (y4 : Int64) => nm ((((y4 * (-7046029254386353131 : Int64)).toUInt64 >>> ((52 : Int32).toInt64.toUInt64 &&& Int64.toUInt64 63)).toInt64).toInt32) fun (x5 : Int32) => chkI x5 4096 (if (lg_cmp (lZ x5.toNatClampNeg) y4) = 0 then (some ((0 : Int32), zZ, lZ, gS)) else (jn3 (fun (zZ_8 : GS) (lZ_9 : Nat → Int64) (gS_10 : GS) => chkI x5 4096 (nm (vp_updL lZ_9 x5.toNatClampNeg y4) fun (lZ_13 : Nat → Int64) => some ((0 : Int32), zZ_8, lZ_13, gS_10))) (fun k11 => jn3 (fun (zZ_14 : GS) (lZ_15 : Nat → Int64) (gS_16 : GS) => some ((1 : Int32), zZ_14, lZ_15, gS_16)) (fun k17 => lq4 (BX0_reaches_4_55 tT k11 k17) FU (0 : Int32) zZ lZ gS)))))
abbrev rmX0_reaches_4 : Room := { frames := 12, cells := 0, slots := 0, locals := 480 }
set_option maxHeartbeats 4000000 in
set_option maxRecDepth 100000 in
theorem ctX0_reaches_4 (l : Launch) (D : va_G) (Y : Nat → ClassId) (zA : Nat → Nat) (aS : Nat → Nat) (hT : Nat → Nat) (vS : Nat) (sz : Nat) (zZ : GS) (lZ : Nat → Int64) (gS : GS) (tT : GS) (rr : Int32) (zZz : GS) (lZz : Nat → Int64) (gSz : GS) (hM : MX0_reaches_4 zZ lZ gS tT = some (rr, zZz, lZz, gSz)) : Met l yX0_reaches wsX0_reaches rmX0_reaches_4 (pcN [.ref (zA 0), .int (4 : Int32)] sz D Y (cSearch Y zA (aS 0) zZ lZ ++ cStand Y aS (hT 0) vS gS ++ cTold Y hT tT)) (qiW rr D (cSearch Y zA (aS 0) zZz lZz ++ cStand Y aS (hT 0) vS gSz ++ cTold Y hT tT) (va_A (cSearch Y zA (aS 0) zZ lZ ++ cStand Y aS (hT 0) vS gS ++ cTold Y hT tT) sz)) 0 0 (va_A (cSearch Y zA (aS 0) zZ lZ ++ cStand Y aS (hT 0) vS gS ++ cTold Y hT tT) sz) := by
  refine Met.ofW (cc := cX0_reaches) (maxL := 6) (ret := (some .boolean)) (by decide) rfl ?_
  intro p e s m args below meth c s₁ B hml hv
  obtain ⟨⟨rfl, hsz, hP, hK, hD0⟩, hNF⟩ := hv
  have hx := B.exec
  have hb := B.bytes
  have hr := B.returns
  have hts := atoms_spec (ws := wsX0_reaches) B.pre
  have hown : s.vm.findClass RX0 = some m.cls := findClass_of_methodNamed B.named
  have hlocks := B.notSynchronized
  subst hsz
  have hD := hD0.self (sz := s.heap.size)
  generalize hAe : va_A (cSearch Y zA (aS 0) zZ lZ ++ cStand Y aS (hT 0) vS gS ++ cTold Y hT tT) s.heap.size = A at hD ⊢
  have hA : ∀ q : Nat, s.heap.size ≤ q → A q := fun q h => by rw [← hAe]; exact Or.inr h
  have hS : va_S A s.heap s.heap [] := va_S.rf
  have hi0 : ∀ w ∈ wsX00, w ∈ wsX0_reaches := fun w h => List.mem_cons_of_mem _ (List.mem_append_left _ (List.mem_append_left _ (List.mem_append_right _ h)))
  have hi1 : ∀ w ∈ wsX10, w ∈ wsX0_reaches := fun w h => List.mem_cons_of_mem _ (List.mem_append_left _ (List.mem_append_right _ h))
  have hi3 : ∀ w ∈ wsX30, w ∈ wsX0_reaches := fun w h => List.mem_cons_of_mem _ (List.mem_append_right _ h)
  have hl := lv_entry ([.ref (zA 0), .int (4 : Int32)]) (n := 6) (Nat.le_of_ble_eq_true rfl)
  rw [lg_entry_eq]
  generalize (lg_sl ([.ref (zA 0), .int (4 : Int32)]) ++ List.replicate (6 - (lg_sl ([.ref (zA 0), .int (4 : Int32)])).length) Slot.unset).toArray = ls at hl ⊢
  have hl : lv_has ls 6 [(0, .ref (zA 0)), (1, .int (4 : Int32))] := hl
  obtain ⟨QQ, hQQ⟩ : ∃ Q : State → Prop, Q = MQ below (qiW rr D (cSearch Y zA (aS 0) zZz lZz ++ cStand Y aS (hT 0) vS gSz ++ cTold Y hT tT) A) ([.ref (zA 0), .int (4 : Int32)] : List Value).toArray s 0 0 A := ⟨_, rfl⟩
  rw [← hQQ]
  unfold MX0_reaches_4 at hM
  suffices hI : ∀ (H : Heap) (locs : List Loc), va_P D vwCl (cSearch Y zA (aS 0) zZ lZ ++ cStand Y aS (hT 0) vS gS ++ cTold Y hT tT) H → va_S A s.heap H locs → W p l e (headSpec wsX0_reaches rmX0_reaches_4).room s m ([.ref (zA 0), .int (4 : Int32)] : List Value).toArray below meth c H locs 0 0 QQ (F0 m 0 ls []) from hI _ _ hP hS
  clear hP hS
  intro H locs hP hS
  refine lv_iload_n hx hb dX0_reaches_0 rfl (lv_at hl 1 rfl) ?_
  refine lv_iconst (v := (1 : Int32)) hx hb dX0_reaches_1 (by decide) ?_
  refine jn0_at (∀ (H : Heap) (locs : List Loc) (ls : Array Slot), va_P D vwCl (cSearch Y zA (aS 0) zZ lZ ++ cStand Y aS (hT 0) vS gS ++ cTold Y hT tT) H → va_S A s.heap H locs → lv_has ls 6 [] → W p l e (headSpec wsX0_reaches rmX0_reaches_4).room s m ([.ref (zA 0), .int (4 : Int32)] : List Value).toArray below meth c H locs 0 0 QQ (F0 m 10 ls [])) hM (fun  hM H locs ls hP hS hl => ?_) (fun k1 hJ1 hM => ?_)
  · refine lv_iconst (v := (0 : Int32)) hx hb dX0_reaches_10 (by decide) ?_
    cases hM
    rw [hQQ]
    exact W.zret (ty := .boolean) hx hb hr rfl (fun t ht hW => ⟨⟨_, (), rfl, rfl, by show va_P D vwCl _ t.heap; rw [ht]; exact hP⟩, hS.F ht⟩) hS.2.2 dX0_reaches_11
  · refine lv_icmp_lt (tgt := 10) hx hb dX0_reaches_2 (by decide) (fun c => absurd c (by decide)) (fun _ => ?_)
    refine lv_iload_n hx hb dX0_reaches_5 rfl (lv_at hl 1 rfl) ?_
    refine lv_iconst (v := (5 : Int32)) hx hb dX0_reaches_6 (by decide) ?_
    refine lv_icmp_le (tgt := 12) hx hb dX0_reaches_7 (by decide) (fun _ => ?_) (fun c => absurd c (by decide))
    refine lv_aload_n hx hb dX0_reaches_12 rfl (lv_at hl 0 rfl) ?_
    refine va_get hx hb hts hi0 hown hK hP 0 rfl rfl 0 (by decide) (hts (.fieldLink RX0 20 "NightPlots$Search" "standing" "LNightPlots$Standing;") (List.mem_of_getElem? (i := 1) rfl)) (fun _ h9 => h9) rfl dX0_reaches_13 ?_
    obtain ⟨r2, hc3, hM⟩ := bnd1_at hM
    refine cm_l (w2 := (cSearch Y zA (aS 0) zZ lZ ++ cStand Y aS (hT 0) vS gS ++ cTold Y hT tT)) (va_runV (As := []) (rest := []) ⟨hx, hb, hml, hown, hts⟩ (ctX1_placesKey l D Y aS hT vS H.size gS tT r2 hc3) (cwV 0 hts gX0_reaches_X1_placesKey rfl rfl rfl (by decide +kernel) ⟨Nat.le_of_ble_eq_true rfl, Nat.le_of_ble_eq_true rfl⟩) (pcW_V (ci := 1) (q0 := 9) hK hP (hD.same rfl) [9, 10, 11, 12, 13, 14, 15, 16, 17, 18, 19] rfl (pc_map (pc_cons rfl (pc_cons rfl (pc_cons rfl (pc_cons rfl (pc_cons rfl (pc_cons rfl (pc_cons rfl (pc_cons rfl (pc_cons rfl (pc_cons rfl (pc_cons rfl pc_nil)))))))))))) rfl rfl) rfl rfl hl.1 rfl (lv_room (Nat.le_of_ble_eq_true rfl)) dX0_reaches_16 ⟨Nat.zero_le _, Nat.zero_le _⟩) hP (hD.same rfl) hS hA [9, 10, 11, 12, 13, 14, 15, 16, 17, 18, 19] (pc_map (pc_cons rfl (pc_cons rfl (pc_cons rfl (pc_cons rfl (pc_cons rfl (pc_cons rfl (pc_cons rfl (pc_cons rfl (pc_cons rfl (pc_cons rfl (pc_cons rfl pc_nil)))))))))))) (up_old rfl rfl (up_old rfl rfl (up_old rfl rfl (up_old rfl rfl (up_old rfl rfl (up_old rfl rfl (up_old rfl rfl (up_old rfl rfl (up_old rfl rfl (up_new 0 rfl (up_new 1 rfl (up_new 2 rfl (up_new 3 rfl (up_new 4 rfl (up_new 5 rfl (up_new 6 rfl (up_new 7 rfl (up_new 8 rfl (up_new 9 rfl (up_new 10 rfl up_nil)))))))))))))))))))) (fun H locs hP hS => ?_)
    refine lv_ldc2 (v := (8 : Int64)) hx hb hown (hts (.constantLong RX0 46 (8)) (List.mem_of_getElem? (i := 2) rfl)) dX0_reaches_19 ?_
    refine lv_lmul hx hb dX0_reaches_22 ?_
    refine lv_iload_n hx hb dX0_reaches_23 rfl (lv_at hl 1 rfl) ?_
    refine lv_i2l (v := (4 : Int32).toInt64) hx hb dX0_reaches_24 rfl ?_
    refine lv_ladd hx hb dX0_reaches_25 ?_
    refine lv_topl (fun y4 ey4 => ?_)
    replace hM := nm_at hM ey4
    refine lv_lstore_n (lv' := [(2, .long y4), (0, .ref (zA 0)), (1, .int (4 : Int32))]) hx hb dX0_reaches_26 rfl hl (by decide) rfl (fun ls hl => ?_)
    refine lv_lload_n hx hb dX0_reaches_27 rfl (lv_at hl 0 rfl) ?_
    refine lv_ldc2 (v := (-7046029254386353131 : Int64)) hx hb hown (hts (.constantLong RX0 48 (-7046029254386353131)) (List.mem_of_getElem? (i := 3) rfl)) dX0_reaches_28 ?_
    refine lv_lmul hx hb dX0_reaches_31 ?_
    refine lv_bipush (v := (52 : Int32)) hx hb dX0_reaches_32 (by decide) ?_
    refine lv_lushr (v := ((y4 * (-7046029254386353131 : Int64)).toUInt64 >>> ((52 : Int32).toInt64.toUInt64 &&& Int64.toUInt64 63)).toInt64) hx hb dX0_reaches_34 rfl ?_
    refine lv_l2i (v := (((y4 * (-7046029254386353131 : Int64)).toUInt64 >>> ((52 : Int32).toInt64.toUInt64 &&& Int64.toUInt64 63)).toInt64).toInt32) hx hb dX0_reaches_35 rfl ?_
    refine lv_topi (fun x5 ex5 => ?_)
    replace hM := nm_at hM ex5
    refine lv_istore (lv' := [(4, .int x5), (2, .long y4), (0, .ref (zA 0)), (1, .int (4 : Int32))]) hx hb dX0_reaches_36 hl (by decide) rfl (fun ls hl => ?_)
    refine lv_aload_n hx hb dX0_reaches_38 rfl (lv_at hl 2 rfl) ?_
    refine va_get hx hb hts hi0 hown hK hP 0 rfl rfl 2 (by decide) (hts (.fieldLink RX0 16 "NightPlots$Search" "deadEnds" "[J") (List.mem_of_getElem? (i := 4) rfl)) (fun _ h9 => h9) rfl dX0_reaches_39 ?_
    refine lv_iload hx hb dX0_reaches_42 (lv_at hl 0 rfl) ?_
    obtain ⟨hi_6, hM⟩ := chkI_at hM
    refine va_lald hx hb hK hP 2 1 rfl rfl hi_6 dX0_reaches_44 ?_
    refine lv_lload_n hx hb dX0_reaches_45 rfl (lv_at hl 1 rfl) ?_
    refine W.lcmp hx hb dX0_reaches_46 ?_
    refine lv_if_ne (tgt := 52) hx hb dX0_reaches_47 (by decide) (fun c7 => ?_) (fun c7 => ?_)
    · replace hM := if_at_neg hM c7
      refine lv_iconst (v := (0 : Int32)) hx hb dX0_reaches_52 (by decide) ?_
      refine lv_istore (lv' := [(5, .int (0 : Int32)), (4, .int x5), (2, .long y4), (0, .ref (zA 0)), (1, .int (4 : Int32))]) hx hb dX0_reaches_53 hl (by decide) rfl (fun ls hl => ?_)
      refine jn3_at (fun (zZ_8 : GS) (lZ_9 : Nat → Int64) (gS_10 : GS) => ∀ (H : Heap) (locs : List Loc) (ls : Array Slot), va_P D vwCl (cSearch Y zA (aS 0) zZ_8 lZ_9 ++ cStand Y aS (hT 0) vS gS_10 ++ cTold Y hT tT) H → va_S A s.heap H locs → lv_has ls 6 [(0, .ref (zA 0)), (2, .long y4), (4, .int x5)] → W p l e (headSpec wsX0_reaches rmX0_reaches_4).room s m ([.ref (zA 0), .int (4 : Int32)] : List Value).toArray below meth c H locs 0 0 QQ (F0 m 98 ls [])) hM (fun zZ_8 lZ_9 gS_10 hM H locs ls hP hS hl => ?_) (fun k11 hJ11 hM => ?_)
      · refine lv_aload_n hx hb dX0_reaches_98 rfl (lv_at hl 0 rfl) ?_
        refine va_get hx hb hts hi0 hown hK hP 0 rfl rfl 2 (by decide) (hts (.fieldLink RX0 16 "NightPlots$Search" "deadEnds" "[J") (List.mem_of_getElem? (i := 4) rfl)) (fun _ h9 => h9) rfl dX0_reaches_99 ?_
        refine lv_iload hx hb dX0_reaches_102 (lv_at hl 2 rfl) ?_
        refine lv_lload_n hx hb dX0_reaches_104 rfl (lv_at hl 1 rfl) ?_
        obtain ⟨hi_12, hM⟩ := chkI_at hM
        refine va_last hx hb hK hP (hD.same rfl) hS 2 1 rfl rfl hi_12 dX0_reaches_105 (fun H locs hP _ hS => ?_)
        obtain ⟨lZ_13, elZ_13⟩ : ∃ z : Nat → Int64, z = (vp_updL lZ_9 x5.toNatClampNeg y4) := ⟨_, rfl⟩
        have hP : va_P D vwCl (cSearch Y zA (aS 0) zZ_8 lZ_13 ++ cStand Y aS (hT 0) vS gS_10 ++ cTold Y hT tT) H := by rw [elZ_13]; exact hP
        replace hM := nm_at hM elZ_13
        refine lv_iconst (v := (0 : Int32)) hx hb dX0_reaches_106 (by decide) ?_
        cases hM
        rw [hQQ]
        exact W.zret (ty := .boolean) hx hb hr rfl (fun t ht hW => ⟨⟨_, (), rfl, rfl, by show va_P D vwCl _ t.heap; rw [ht]; exact hP⟩, hS.F ht⟩) hS.2.2 dX0_reaches_107
      · refine jn3_at (fun (zZ_14 : GS) (lZ_15 : Nat → Int64) (gS_16 : GS) => ∀ (H : Heap) (locs : List Loc) (ls : Array Slot), va_P D vwCl (cSearch Y zA (aS 0) zZ_14 lZ_15 ++ cStand Y aS (hT 0) vS gS_16 ++ cTold Y hT tT) H → va_S A s.heap H locs → lv_has ls 6 [] → W p l e (headSpec wsX0_reaches rmX0_reaches_4).room s m ([.ref (zA 0), .int (4 : Int32)] : List Value).toArray below meth c H locs 0 0 QQ (F0 m 90 ls [])) hM (fun zZ_14 lZ_15 gS_16 hM H locs ls hP hS hl => ?_) (fun k17 hJ17 hM => ?_)
        · refine lv_iconst (v := (1 : Int32)) hx hb dX0_reaches_90 (by decide) ?_
          cases hM
          rw [hQQ]
          exact W.zret (ty := .boolean) hx hb hr rfl (fun t ht hW => ⟨⟨_, (), rfl, rfl, by show va_P D vwCl _ t.heap; rw [ht]; exact hP⟩, hS.F ht⟩) hS.2.2 dX0_reaches_91
        · refine lq4_at (fun (x18 : Int32) (zZ_19 : GS) (lZ_20 : Nat → Int64) (gS_21 : GS) => ∀ (H : Heap) (locs : List Loc) (ls : Array Slot), va_P D vwCl (cSearch Y zA (aS 0) zZ_19 lZ_20 ++ cStand Y aS (hT 0) vS gS_21 ++ cTold Y hT tT) H → va_S A s.heap H locs → lv_has ls 6 [(0, .ref (zA 0)), (1, .int (4 : Int32)), (2, .long y4), (4, .int x5), (5, .int x18)] → W p l e (headSpec wsX0_reaches rmX0_reaches_4).room s m ([.ref (zA 0), .int (4 : Int32)] : List Value).toArray below meth c H locs 0 0 QQ (F0 m 55 ls [])) (fun rec22 x18 zZ_19 lZ_20 gS_21 ih22 hM H locs ls hP hS hl => ?_) FU (0 : Int32) zZ lZ gS hM H locs ls hP hS (lv_sub hl [3, 4, 2, 1, 0] rfl)
          unfold BX0_reaches_4_55 at hM
          refine lv_iload hx hb dX0_reaches_55 (lv_at hl 4 rfl) ?_
          refine lv_aload_n hx hb dX0_reaches_57 rfl (lv_at hl 0 rfl) ?_
          refine va_get hx hb hts hi0 hown hK hP 0 rfl rfl 0 (by decide) (hts (.fieldLink RX0 20 "NightPlots$Search" "standing" "LNightPlots$Standing;") (List.mem_of_getElem? (i := 1) rfl)) (fun _ h9 => h9) rfl dX0_reaches_58 ?_
          refine va_getN hx hb hts hi1 hown hK hP 9 rfl rfl 0 (by decide) (hNF.use rfl) (fun _ h9 => h9) rfl dX0_reaches_61 ?_
          refine va_get hx hb hts hi3 hown hK hP 12 rfl rfl 1 (by decide) (hts (.fieldLink RX0 54 "NightPlots$Told" "houses" "I") (List.mem_of_getElem? (i := 5) rfl)) (fun _ h9 => h9) rfl dX0_reaches_64 ?_
          refine lv_icmp_ge (tgt := 98) hx hb dX0_reaches_67 (by decide) (fun c23 => ?_) (fun c23 => ?_)
          · replace hM := if_at_pos hM c23
            exact hJ11 zZ_19 lZ_20 gS_21 hM H locs ls hP hS (lv_sub hl [0, 2, 3] rfl)
          · replace hM := if_at_neg hM c23
            refine lv_aload_n hx hb dX0_reaches_70 rfl (lv_at hl 0 rfl) ?_
            refine lv_iload hx hb dX0_reaches_71 (lv_at hl 4 rfl) ?_
            refine lv_iload_n hx hb dX0_reaches_73 rfl (lv_at hl 1 rfl) ?_
            obtain ⟨r24, hc25, hM⟩ := bnd1_at hM
            refine cm_i (w2 := (cSearch Y zA (aS 0) zZ_19 lZ_20 ++ cStand Y aS (hT 0) vS gS_21 ++ cTold Y hT tT)) (va_runV (As := [.int x18, .int (4 : Int32)]) (rest := []) ⟨hx, hb, hml, hown, hts⟩ (ctX0_mayHelp l D Y zA (aS 0) H.size zZ_19 lZ_20 x18 (4 : Int32) r24 hc25) (cwV 2 hts gX0_reaches_X0_mayHelp rfl rfl rfl (by decide +kernel) ⟨Nat.le_of_ble_eq_true rfl, Nat.le_of_ble_eq_true rfl⟩) (pcW_V (ci := 0) (q0 := 0) hK hP (hD.same rfl) [0, 1, 2, 3, 4, 5, 6, 7, 8] rfl (pc_map (pc_cons rfl (pc_cons rfl (pc_cons rfl (pc_cons rfl (pc_cons rfl (pc_cons rfl (pc_cons rfl (pc_cons rfl (pc_cons rfl pc_nil)))))))))) rfl rfl) rfl rfl hl.1 rfl (lv_room (Nat.le_of_ble_eq_true rfl)) dX0_reaches_74 ⟨Nat.zero_le _, Nat.zero_le _⟩) hP (hD.same rfl) hS hA [0, 1, 2, 3, 4, 5, 6, 7, 8] (pc_map (pc_cons rfl (pc_cons rfl (pc_cons rfl (pc_cons rfl (pc_cons rfl (pc_cons rfl (pc_cons rfl (pc_cons rfl (pc_cons rfl pc_nil)))))))))) (up_new 0 rfl (up_new 1 rfl (up_new 2 rfl (up_new 3 rfl (up_new 4 rfl (up_new 5 rfl (up_new 6 rfl (up_new 7 rfl (up_new 8 rfl (up_old rfl rfl (up_old rfl rfl (up_old rfl rfl (up_old rfl rfl (up_old rfl rfl (up_old rfl rfl (up_old rfl rfl (up_old rfl rfl (up_old rfl rfl (up_old rfl rfl (up_old rfl rfl up_nil)))))))))))))))))))) (fun H locs hP hS => ?_)
            refine jn3_at (fun (zZ_26 : GS) (lZ_27 : Nat → Int64) (gS_28 : GS) => ∀ (H : Heap) (locs : List Loc) (ls : Array Slot), va_P D vwCl (cSearch Y zA (aS 0) zZ_26 lZ_27 ++ cStand Y aS (hT 0) vS gS_28 ++ cTold Y hT tT) H → va_S A s.heap H locs → lv_has ls 6 [(0, .ref (zA 0)), (1, .int (4 : Int32)), (2, .long y4), (4, .int x5), (5, .int x18)] → W p l e (headSpec wsX0_reaches rmX0_reaches_4).room s m ([.ref (zA 0), .int (4 : Int32)] : List Value).toArray below meth c H locs 0 0 QQ (F0 m 92 ls [])) hM (fun zZ_26 lZ_27 gS_28 hM H locs ls hP hS hl => ?_) (fun k29 hJ29 hM => ?_)
            · obtain ⟨x30, ex30⟩ : ∃ z : Int32, z = (x18 + 1) := ⟨_, rfl⟩
              replace hM := nm_at hM ex30
              refine lv_iinc (v := x30) (lv' := [(5, .int x30), (0, .ref (zA 0)), (1, .int (4 : Int32)), (2, .long y4), (4, .int x5)]) hx hb dX0_reaches_92 hl (k := 4) rfl (by rw [ex30]; rfl) (by decide) rfl (fun ls hl => ?_)
              refine lv_goto (tgt := 55) hx hb dX0_reaches_95 (by decide) ?_
              exact ih22 x30 zZ_26 lZ_27 gS_28 hM H locs ls hP hS (lv_sub hl [1, 2, 3, 4, 0] rfl)
            · refine lv_if_eq (tgt := 92) hx hb dX0_reaches_77 (by decide) (fun c31 => ?_) (fun c31 => ?_)
              · replace hM := if_at_pos hM c31
                exact hJ29 zZ_19 lZ_20 gS_21 hM H locs ls hP hS (lv_sub hl [0, 1, 2, 3, 4] rfl)
              · replace hM := if_at_neg hM c31
                refine lv_aload_n hx hb dX0_reaches_80 rfl (lv_at hl 0 rfl) ?_
                refine lv_iload hx hb dX0_reaches_81 (lv_at hl 4 rfl) ?_
                refine lv_iload_n hx hb dX0_reaches_83 rfl (lv_at hl 1 rfl) ?_
                obtain ⟨r32, zZ_33, lZ_34, gS_35, hc36, hM⟩ := bnd4_at hM
                refine co_i (va_runS (As := [.ref (zA 0), .int x18, .int (4 : Int32)]) (rest := []) ⟨hx, hb, hml, hown, hts⟩ (ctX0_reachesBy_4 l D Y zA aS hT vS H.size zZ_19 lZ_20 gS_21 tT x18 r32 zZ_33 lZ_34 gS_35 hc36) ⟨callB_of 3 hts ggX0_reaches_X0_reachesBy rfl rfl rfl (hts (.initialized RX0) (List.mem_of_getElem? (i := 17) rfl)) (hts (.methodLink RX0 63 yX0_reachesBy) (List.mem_of_getElem? (i := 21) rfl)) (by decide +kernel) ⟨Nat.le_of_ble_eq_true rfl, Nat.le_of_ble_eq_true rfl⟩, (hts (.static yX0_reachesBy) (List.mem_of_getElem? (i := 22) rfl))⟩ (pcN_S hNF (pcW_S0 hK hP (hD.same rfl))) rfl rfl hl.1 rfl (lv_room (Nat.le_of_ble_eq_true rfl)) dX0_reaches_84 ⟨Nat.zero_le _, Nat.zero_le _⟩) (hD.same rfl) hS hA (fun H locs hP hS => ?_)
                refine lv_if_eq (tgt := 92) hx hb dX0_reaches_87 (by decide) (fun c37 => ?_) (fun c37 => ?_)
                · replace hM := if_at_pos hM c37
                  exact hJ29 zZ_33 lZ_34 gS_35 hM H locs ls hP hS (lv_sub hl [0, 1, 2, 3, 4] rfl)
                · replace hM := if_at_neg hM c37
                  exact hJ17 zZ_33 lZ_34 gS_35 hM H locs ls hP hS (lv_sub hl [] rfl)
    · replace hM := if_at_pos hM c7
      refine lv_iconst (v := (0 : Int32)) hx hb dX0_reaches_50 (by decide) ?_
      cases hM
      rw [hQQ]
      exact W.zret (ty := .boolean) hx hb hr rfl (fun t ht hW => ⟨⟨_, (), rfl, rfl, by show va_P D vwCl _ t.heap; rw [ht]; exact hP⟩, hS.F ht⟩) hS.2.2 dX0_reaches_51
noncomputable def BX0_reachesBy_5_32 (r4 : Int32) (k11 : GS → (Nat → Int64) → GS → Option (Int32 × GS × (Nat → Int64) × GS)) (tT : GS) (i2 : Int32) (x3 : Int32) (k16 : Int32 → GS → (Nat → Int64) → GS → Option (Int32 × GS × (Nat → Int64) × GS)) (rec24 : Int32 → GS → (Nat → Int64) → GS → Option (Int32 × GS × (Nat → Int64) × GS)) (x20 : Int32) (zZ_21 : GS) (lZ_22 : Nat → Int64) (gS_23 : GS) : Option (Int32 × GS × (Nat → Int64) × GS) := if r4 ≤ x20 then (k11 zZ_21 lZ_22 gS_23) else (if (8 : Int32) ≤ x20 then (k11 zZ_21 lZ_22 gS_23) else (chkI x20 8 (bnd1 (MX1_moveHouse gS_23 tT i2 (zZ_21 6 x20.toNatClampNeg)) fun (gS_28 : GS) => jn4 (fun (zZ_30 : GS) (lZ_31 : Nat → Int64) (gS_32 : GS) (x33 : Int32) => bnd1 (MX1_moveHouse gS_32 tT i2 x3) fun (gS_35 : GS) => if x33 = 0 then (nm (x20 + 1) fun (x38 : Int32) => rec24 x38 zZ_30 lZ_31 gS_35) else (k16 x20 zZ_30 lZ_31 gS_35)) (fun k34 => bnd4 (MX0_reaches_4 zZ_21 lZ_22 gS_28 tT) fun (r39 : Int32) (zZ_40 : GS) (lZ_41 : Nat → Int64) (gS_42 : GS) => k34 zZ_40 lZ_41 gS_42 r39))))
noncomputable def MX0_reachesBy_5 (zZ : GS) (lZ : Nat → Int64) (gS : GS) (tT : GS) (i2 : Int32) : Option (Int32 × GS × (Nat → Int64) × GS) := chkI (5 : Int32) 6 (chkI i2 8 (nm (gS 1 i2.toNatClampNeg) fun (x3 : Int32) => bnd2 (MX1_findWays gS (zZ 6) tT i2) fun (r4 : Int32) (fR_5 : Nat → Int32) => nm (upA zZ 6 fR_5) fun (zZ_7 : GS) => jn3 (fun (zZ_8 : GS) (lZ_9 : Nat → Int64) (gS_10 : GS) => some ((0 : Int32), zZ_8, lZ_9, gS_10)) (fun k11 => jn4 (fun (x12 : Int32) (zZ_13 : GS) (lZ_14 : Nat → Int64) (gS_15 : GS) => chkI x12 8 (nm (((20 : Int32) * i2) + (zZ_13 6 x12.toNatClampNeg)) fun (x18 : Int32) => nm (up2 zZ_13 0 5 x18) fun (zZ_19 : GS) => some ((1 : Int32), zZ_19, lZ_14, gS_15))) (fun k16 => lq4 (BX0_reachesBy_5_32 r4 k11 tT i2 x3 k16) FU (0 : Int32) zZ_7 lZ gS))))
abbrev rmX0_reachesBy_5 : Room := { frames := 13, cells := 0, slots := 0, locals := 520 }
set_option maxHeartbeats 4000000 in
set_option maxRecDepth 100000 in
theorem ctX0_reachesBy_5 (l : Launch) (D : va_G) (Y : Nat → ClassId) (zA : Nat → Nat) (aS : Nat → Nat) (hT : Nat → Nat) (vS : Nat) (sz : Nat) (zZ : GS) (lZ : Nat → Int64) (gS : GS) (tT : GS) (i2 : Int32) (rr : Int32) (zZz : GS) (lZz : Nat → Int64) (gSz : GS) (hM : MX0_reachesBy_5 zZ lZ gS tT i2 = some (rr, zZz, lZz, gSz)) : Met l yX0_reachesBy wsX0_reachesBy rmX0_reachesBy_5 (pcN [.ref (zA 0), .int i2, .int (5 : Int32)] sz D Y (cSearch Y zA (aS 0) zZ lZ ++ cStand Y aS (hT 0) vS gS ++ cTold Y hT tT)) (qiW rr D (cSearch Y zA (aS 0) zZz lZz ++ cStand Y aS (hT 0) vS gSz ++ cTold Y hT tT) (va_A (cSearch Y zA (aS 0) zZ lZ ++ cStand Y aS (hT 0) vS gS ++ cTold Y hT tT) sz)) 0 0 (va_A (cSearch Y zA (aS 0) zZ lZ ++ cStand Y aS (hT 0) vS gS ++ cTold Y hT tT) sz) := by
  refine Met.ofW (cc := cX0_reachesBy) (maxL := 8) (ret := (some .boolean)) (by decide) rfl ?_
  intro p e s m args below meth c s₁ B hml hv
  obtain ⟨⟨rfl, hsz, hP, hK, hD0⟩, hNF⟩ := hv
  have hx := B.exec
  have hb := B.bytes
  have hr := B.returns
  have hts := atoms_spec (ws := wsX0_reachesBy) B.pre
  have hown : s.vm.findClass RX0 = some m.cls := findClass_of_methodNamed B.named
  have hlocks := B.notSynchronized
  subst hsz
  have hD := hD0.self (sz := s.heap.size)
  generalize hAe : va_A (cSearch Y zA (aS 0) zZ lZ ++ cStand Y aS (hT 0) vS gS ++ cTold Y hT tT) s.heap.size = A at hD ⊢
  have hA : ∀ q : Nat, s.heap.size ≤ q → A q := fun q h => by rw [← hAe]; exact Or.inr h
  have hS : va_S A s.heap s.heap [] := va_S.rf
  have hi0 : ∀ w ∈ wsX00, w ∈ wsX0_reachesBy := fun w h => List.mem_cons_of_mem _ (List.mem_append_left _ (List.mem_append_left _ (List.mem_append_right _ h)))
  have hi1 : ∀ w ∈ wsX10, w ∈ wsX0_reachesBy := fun w h => List.mem_cons_of_mem _ (List.mem_append_left _ (List.mem_append_right _ h))
  have hl := lv_entry ([.ref (zA 0), .int i2, .int (5 : Int32)]) (n := 8) (Nat.le_of_ble_eq_true rfl)
  rw [lg_entry_eq]
  generalize (lg_sl ([.ref (zA 0), .int i2, .int (5 : Int32)]) ++ List.replicate (8 - (lg_sl ([.ref (zA 0), .int i2, .int (5 : Int32)])).length) Slot.unset).toArray = ls at hl ⊢
  have hl : lv_has ls 8 [(0, .ref (zA 0)), (1, .int i2), (2, .int (5 : Int32))] := hl
  obtain ⟨QQ, hQQ⟩ : ∃ Q : State → Prop, Q = MQ below (qiW rr D (cSearch Y zA (aS 0) zZz lZz ++ cStand Y aS (hT 0) vS gSz ++ cTold Y hT tT) A) ([.ref (zA 0), .int i2, .int (5 : Int32)] : List Value).toArray s 0 0 A := ⟨_, rfl⟩
  rw [← hQQ]
  unfold MX0_reachesBy_5 at hM
  suffices hI : ∀ (H : Heap) (locs : List Loc), va_P D vwCl (cSearch Y zA (aS 0) zZ lZ ++ cStand Y aS (hT 0) vS gS ++ cTold Y hT tT) H → va_S A s.heap H locs → W p l e (headSpec wsX0_reachesBy rmX0_reachesBy_5).room s m ([.ref (zA 0), .int i2, .int (5 : Int32)] : List Value).toArray below meth c H locs 0 0 QQ (F0 m 0 ls []) from hI _ _ hP hS
  clear hP hS
  intro H locs hP hS
  refine lv_aload_n hx hb dX0_reachesBy_0 rfl (lv_at hl 0 rfl) ?_
  refine va_get hx hb hts hi0 hown hK hP 0 rfl rfl 1 (by decide) (hts (.fieldLink RX0 11 "NightPlots$Search" "ways" "[[I") (List.mem_of_getElem? (i := 1) rfl)) (fun _ h9 => h9) rfl dX0_reachesBy_1 ?_
  refine lv_iload_n hx hb dX0_reachesBy_4 rfl (lv_at hl 2 rfl) ?_
  obtain ⟨hi_1, hM⟩ := chkI_at hM
  refine va_ald2 (v := .ref (zA 8)) hx hb hK hP 1 4 rfl rfl hi_1 rfl dX0_reachesBy_5 ?_
  refine lv_astore_n (lv' := [(3, .ref (zA 8)), (0, .ref (zA 0)), (1, .int i2), (2, .int (5 : Int32))]) hx hb dX0_reachesBy_6 rfl hl (by decide) rfl (fun ls hl => ?_)
  refine lv_aload_n hx hb dX0_reachesBy_7 rfl (lv_at hl 1 rfl) ?_
  refine va_get hx hb hts hi0 hown hK hP 0 rfl rfl 0 (by decide) (hts (.fieldLink RX0 20 "NightPlots$Search" "standing" "LNightPlots$Standing;") (List.mem_of_getElem? (i := 2) rfl)) (fun _ h9 => h9) rfl dX0_reachesBy_8 ?_
  refine va_get hx hb hts hi1 hown hK hP 9 rfl rfl 1 (by decide) (hts (.fieldLink RX0 67 "NightPlots$Standing" "place" "[I") (List.mem_of_getElem? (i := 3) rfl)) (fun _ h9 => h9) rfl dX0_reachesBy_11 ?_
  refine lv_iload_n hx hb dX0_reachesBy_14 rfl (lv_at hl 2 rfl) ?_
  obtain ⟨hi_2, hM⟩ := chkI_at hM
  refine va_iald hx hb hK hP 10 0 rfl rfl hi_2 dX0_reachesBy_15 ?_
  refine lv_topi (fun x3 ex3 => ?_)
  replace hM := nm_at hM ex3
  refine lv_istore (lv' := [(4, .int x3), (3, .ref (zA 8)), (0, .ref (zA 0)), (1, .int i2), (2, .int (5 : Int32))]) hx hb dX0_reachesBy_16 hl (by decide) rfl (fun ls hl => ?_)
  refine lv_aload_n hx hb dX0_reachesBy_18 rfl (lv_at hl 2 rfl) ?_
  refine va_get hx hb hts hi0 hown hK hP 0 rfl rfl 0 (by decide) (hts (.fieldLink RX0 20 "NightPlots$Search" "standing" "LNightPlots$Standing;") (List.mem_of_getElem? (i := 2) rfl)) (fun _ h9 => h9) rfl dX0_reachesBy_19 ?_
  refine lv_iload_n hx hb dX0_reachesBy_22 rfl (lv_at hl 3 rfl) ?_
  refine lv_aload_n hx hb dX0_reachesBy_23 rfl (lv_at hl 1 rfl) ?_
  obtain ⟨r4, fR_5, hc6, hM⟩ := bnd2_at hM
  refine cm_i (w2 := (cSearch Y zA (aS 0) (upA zZ 6 fR_5) lZ ++ cStand Y aS (hT 0) vS gS ++ cTold Y hT tT)) (va_runV (As := [.int i2, .ref (zA 8)]) (rest := []) ⟨hx, hb, hml, hown, hts⟩ (ctX1_findWays l D Y aS (zA 8) hT vS H.size gS (zZ 6) tT i2 r4 fR_5 hc6) (cwV 2 hts gX0_reachesBy_X1_findWays rfl rfl rfl (by decide +kernel) ⟨Nat.le_of_ble_eq_true rfl, Nat.le_of_ble_eq_true rfl⟩) (pcW_V (ci := 1) (q0 := 9) hK hP (hD.same rfl) [9, 10, 11, 8, 12, 13, 14, 15, 16, 17, 18, 19] rfl (pc_map (pc_cons rfl (pc_cons rfl (pc_cons rfl (pc_cons rfl (pc_cons rfl (pc_cons rfl (pc_cons rfl (pc_cons rfl (pc_cons rfl (pc_cons rfl (pc_cons rfl (pc_cons rfl pc_nil))))))))))))) rfl rfl) rfl rfl hl.1 rfl (lv_room (Nat.le_of_ble_eq_true rfl)) dX0_reachesBy_24 ⟨Nat.zero_le _, Nat.zero_le _⟩) hP (hD.same rfl) hS hA [9, 10, 11, 8, 12, 13, 14, 15, 16, 17, 18, 19] (pc_map (pc_cons rfl (pc_cons rfl (pc_cons rfl (pc_cons rfl (pc_cons rfl (pc_cons rfl (pc_cons rfl (pc_cons rfl (pc_cons rfl (pc_cons rfl (pc_cons rfl (pc_cons rfl pc_nil))))))))))))) (up_old rfl rfl (up_old rfl rfl (up_old rfl rfl (up_old rfl rfl (up_old rfl rfl (up_old rfl rfl (up_old rfl rfl (up_old rfl rfl (up_new 3 rfl (up_new 0 rfl (up_new 1 rfl (up_new 2 rfl (up_new 4 rfl (up_new 5 rfl (up_new 6 rfl (up_new 7 rfl (up_new 8 rfl (up_new 9 rfl (up_new 10 rfl (up_new 11 rfl up_nil)))))))))))))))))))) (fun H locs hP hS => ?_)
  obtain ⟨zZ_7, ezZ_7⟩ : ∃ z : GS, z = (upA zZ 6 fR_5) := ⟨_, rfl⟩
  have hP : va_P D vwCl (cSearch Y zA (aS 0) zZ_7 lZ ++ cStand Y aS (hT 0) vS gS ++ cTold Y hT tT) H := by rw [ezZ_7]; exact hP
  replace hM := nm_at hM ezZ_7
  refine lv_istore (lv' := [(5, .int r4), (4, .int x3), (3, .ref (zA 8)), (0, .ref (zA 0)), (1, .int i2), (2, .int (5 : Int32))]) hx hb dX0_reachesBy_27 hl (by decide) rfl (fun ls hl => ?_)
  refine lv_iconst (v := (0 : Int32)) hx hb dX0_reachesBy_29 (by decide) ?_
  refine lv_istore (lv' := [(6, .int (0 : Int32)), (5, .int r4), (4, .int x3), (3, .ref (zA 8)), (0, .ref (zA 0)), (1, .int i2), (2, .int (5 : Int32))]) hx hb dX0_reachesBy_30 hl (by decide) rfl (fun ls hl => ?_)
  refine jn3_at (fun (zZ_8 : GS) (lZ_9 : Nat → Int64) (gS_10 : GS) => ∀ (H : Heap) (locs : List Loc) (ls : Array Slot), va_P D vwCl (cSearch Y zA (aS 0) zZ_8 lZ_9 ++ cStand Y aS (hT 0) vS gS_10 ++ cTold Y hT tT) H → va_S A s.heap H locs → lv_has ls 8 [] → W p l e (headSpec wsX0_reachesBy rmX0_reachesBy_5).room s m ([.ref (zA 0), .int i2, .int (5 : Int32)] : List Value).toArray below meth c H locs 0 0 QQ (F0 m 126 ls [])) hM (fun zZ_8 lZ_9 gS_10 hM H locs ls hP hS hl => ?_) (fun k11 hJ11 hM => ?_)
  · refine lv_iconst (v := (0 : Int32)) hx hb dX0_reachesBy_126 (by decide) ?_
    cases hM
    rw [hQQ]
    exact W.zret (ty := .boolean) hx hb hr rfl (fun t ht hW => ⟨⟨_, (), rfl, rfl, by show va_P D vwCl _ t.heap; rw [ht]; exact hP⟩, hS.F ht⟩) hS.2.2 dX0_reachesBy_127
  · refine jn4_at (fun (x12 : Int32) (zZ_13 : GS) (lZ_14 : Nat → Int64) (gS_15 : GS) => ∀ (H : Heap) (locs : List Loc) (ls : Array Slot), va_P D vwCl (cSearch Y zA (aS 0) zZ_13 lZ_14 ++ cStand Y aS (hT 0) vS gS_15 ++ cTold Y hT tT) H → va_S A s.heap H locs → lv_has ls 8 [(0, .ref (zA 0)), (1, .int i2), (3, .ref (zA 8)), (6, .int x12)] → W p l e (headSpec wsX0_reachesBy rmX0_reachesBy_5).room s m ([.ref (zA 0), .int i2, .int (5 : Int32)] : List Value).toArray below meth c H locs 0 0 QQ (F0 m 105 ls [])) hM (fun x12 zZ_13 lZ_14 gS_15 hM H locs ls hP hS hl => ?_) (fun k16 hJ16 hM => ?_)
    · refine lv_aload_n hx hb dX0_reachesBy_105 rfl (lv_at hl 0 rfl) ?_
      refine lv_bipush (v := (20 : Int32)) hx hb dX0_reachesBy_106 (by decide) ?_
      refine lv_iload_n hx hb dX0_reachesBy_108 rfl (lv_at hl 1 rfl) ?_
      refine lv_imul hx hb dX0_reachesBy_109 ?_
      refine lv_aload_n hx hb dX0_reachesBy_110 rfl (lv_at hl 2 rfl) ?_
      refine lv_iload hx hb dX0_reachesBy_111 (lv_at hl 3 rfl) ?_
      obtain ⟨hi_17, hM⟩ := chkI_at hM
      refine va_iald hx hb hK hP 8 0 rfl rfl hi_17 dX0_reachesBy_113 ?_
      refine lv_iadd hx hb dX0_reachesBy_114 ?_
      refine lv_topi (fun x18 ex18 => ?_)
      replace hM := nm_at hM ex18
      refine va_put (ty := .int) hx hb hts hi0 tyX0 tyX0_ok nmX0 hown hK hP (hD.same rfl) hS 0 rfl rfl 5 (by decide) (hts (.fieldLink RX0 31 "NightPlots$Search" "firstRoll" "I") (List.mem_of_getElem? (i := 6) rfl)) (fun _ h9 => h9) rfl (by decide +kernel) rfl rfl (Nat.le_of_ble_eq_true rfl) dX0_reachesBy_115 (fun H locs hP _ hS => ?_)
      obtain ⟨zZ_19, ezZ_19⟩ : ∃ z : GS, z = (up2 zZ_13 0 5 x18) := ⟨_, rfl⟩
      have hP : va_P D vwCl (cSearch Y zA (aS 0) zZ_19 lZ_14 ++ cStand Y aS (hT 0) vS gS_15 ++ cTold Y hT tT) H := by rw [ezZ_19]; exact hP
      replace hM := nm_at hM ezZ_19
      refine lv_iconst (v := (1 : Int32)) hx hb dX0_reachesBy_118 (by decide) ?_
      cases hM
      rw [hQQ]
      exact W.zret (ty := .boolean) hx hb hr rfl (fun t ht hW => ⟨⟨_, (), rfl, rfl, by show va_P D vwCl _ t.heap; rw [ht]; exact hP⟩, hS.F ht⟩) hS.2.2 dX0_reachesBy_119
    · refine lq4_at (fun (x20 : Int32) (zZ_21 : GS) (lZ_22 : Nat → Int64) (gS_23 : GS) => ∀ (H : Heap) (locs : List Loc) (ls : Array Slot), va_P D vwCl (cSearch Y zA (aS 0) zZ_21 lZ_22 ++ cStand Y aS (hT 0) vS gS_23 ++ cTold Y hT tT) H → va_S A s.heap H locs → lv_has ls 8 [(0, .ref (zA 0)), (1, .int i2), (2, .int (5 : Int32)), (3, .ref (zA 8)), (4, .int x3), (5, .int r4), (6, .int x20)] → W p l e (headSpec wsX0_reachesBy rmX0_reachesBy_5).room s m ([.ref (zA 0), .int i2, .int (5 : Int32)] : List Value).toArray below meth c H locs 0 0 QQ (F0 m 32 ls [])) (fun rec24 x20 zZ_21 lZ_22 gS_23 ih24 hM H locs ls hP hS hl => ?_) FU (0 : Int32) zZ_7 lZ gS hM H locs ls hP hS (lv_sub hl [4, 5, 6, 3, 2, 1, 0] rfl)
      unfold BX0_reachesBy_5_32 at hM
      refine lv_iload hx hb dX0_reachesBy_32 (lv_at hl 6 rfl) ?_
      refine lv_iload hx hb dX0_reachesBy_34 (lv_at hl 5 rfl) ?_
      refine lv_icmp_ge (tgt := 126) hx hb dX0_reachesBy_36 (by decide) (fun c25 => ?_) (fun c25 => ?_)
      · replace hM := if_at_pos hM c25
        exact hJ11 zZ_21 lZ_22 gS_23 hM H locs ls hP hS (lv_sub hl [] rfl)
      · replace hM := if_at_neg hM c25
        refine lv_iload hx hb dX0_reachesBy_39 (lv_at hl 6 rfl) ?_
        refine lv_aload_n hx hb dX0_reachesBy_41 rfl (lv_at hl 3 rfl) ?_
        refine va_alen (v := (8 : Int32)) hx hb hK hP 8 0 rfl rfl rfl dX0_reachesBy_42 ?_
        refine lv_icmp_ge (tgt := 126) hx hb dX0_reachesBy_43 (by decide) (fun c26 => ?_) (fun c26 => ?_)
        · replace hM := if_at_pos hM c26
          exact hJ11 zZ_21 lZ_22 gS_23 hM H locs ls hP hS (lv_sub hl [] rfl)
        · replace hM := if_at_neg hM c26
          refine lv_aload_n hx hb dX0_reachesBy_46 rfl (lv_at hl 0 rfl) ?_
          refine va_get hx hb hts hi0 hown hK hP 0 rfl rfl 0 (by decide) (hts (.fieldLink RX0 20 "NightPlots$Search" "standing" "LNightPlots$Standing;") (List.mem_of_getElem? (i := 2) rfl)) (fun _ h9 => h9) rfl dX0_reachesBy_47 ?_
          refine lv_iload_n hx hb dX0_reachesBy_50 rfl (lv_at hl 1 rfl) ?_
          refine lv_aload_n hx hb dX0_reachesBy_51 rfl (lv_at hl 3 rfl) ?_
          refine lv_iload hx hb dX0_reachesBy_52 (lv_at hl 6 rfl) ?_
          obtain ⟨hi_27, hM⟩ := chkI_at hM
          refine va_iald hx hb hK hP 8 0 rfl rfl hi_27 dX0_reachesBy_54 ?_
          obtain ⟨gS_28, hc29, hM⟩ := bnd1_at hM
          refine cm_v (w2 := (cSearch Y zA (aS 0) zZ_21 lZ_22 ++ cStand Y aS (hT 0) vS gS_28 ++ cTold Y hT tT)) (va_runV (As := [.int i2, .int (zZ_21 6 x20.toNatClampNeg)]) (rest := []) ⟨hx, hb, hml, hown, hts⟩ (ctX1_moveHouse l D Y aS hT vS H.size gS_23 tT i2 (zZ_21 6 x20.toNatClampNeg) gS_28 hc29) (cwV 2 hts gX0_reachesBy_X1_moveHouse rfl rfl rfl (by decide +kernel) ⟨Nat.le_of_ble_eq_true rfl, Nat.le_of_ble_eq_true rfl⟩) (pcW_V (ci := 1) (q0 := 9) hK hP (hD.same rfl) [9, 10, 11, 12, 13, 14, 15, 16, 17, 18, 19] rfl (pc_map (pc_cons rfl (pc_cons rfl (pc_cons rfl (pc_cons rfl (pc_cons rfl (pc_cons rfl (pc_cons rfl (pc_cons rfl (pc_cons rfl (pc_cons rfl (pc_cons rfl pc_nil)))))))))))) rfl rfl) rfl rfl hl.1 rfl (lv_room (Nat.le_of_ble_eq_true rfl)) dX0_reachesBy_55 ⟨Nat.zero_le _, Nat.zero_le _⟩) hP (hD.same rfl) hS hA [9, 10, 11, 12, 13, 14, 15, 16, 17, 18, 19] (pc_map (pc_cons rfl (pc_cons rfl (pc_cons rfl (pc_cons rfl (pc_cons rfl (pc_cons rfl (pc_cons rfl (pc_cons rfl (pc_cons rfl (pc_cons rfl (pc_cons rfl pc_nil)))))))))))) (up_old rfl rfl (up_old rfl rfl (up_old rfl rfl (up_old rfl rfl (up_old rfl rfl (up_old rfl rfl (up_old rfl rfl (up_old rfl rfl (up_old rfl rfl (up_new 0 rfl (up_new 1 rfl (up_new 2 rfl (up_new 3 rfl (up_new 4 rfl (up_new 5 rfl (up_new 6 rfl (up_new 7 rfl (up_new 8 rfl (up_new 9 rfl (up_new 10 rfl up_nil)))))))))))))))))))) (fun H locs hP hS => ?_)
          refine lv_iload_n hx hb dX0_reachesBy_58 rfl (lv_at hl 2 rfl) ?_
          refine lv_iconst (v := (1 : Int32)) hx hb dX0_reachesBy_59 (by decide) ?_
          refine jn4_at (fun (zZ_30 : GS) (lZ_31 : Nat → Int64) (gS_32 : GS) (x33 : Int32) => ∀ (H : Heap) (locs : List Loc) (ls : Array Slot), va_P D vwCl (cSearch Y zA (aS 0) zZ_30 lZ_31 ++ cStand Y aS (hT 0) vS gS_32 ++ cTold Y hT tT) H → va_S A s.heap H locs → lv_has ls 8 [(0, .ref (zA 0)), (1, .int i2), (2, .int (5 : Int32)), (3, .ref (zA 8)), (4, .int x3), (5, .int r4), (6, .int x20)] → W p l e (headSpec wsX0_reachesBy rmX0_reachesBy_5).room s m ([.ref (zA 0), .int i2, .int (5 : Int32)] : List Value).toArray below meth c H locs 0 0 QQ (F0 m 88 ls [.int x33])) hM (fun zZ_30 lZ_31 gS_32 x33 hM H locs ls hP hS hl => ?_) (fun k34 hJ34 hM => ?_)
          · refine lv_istore (lv' := [(7, .int x33), (0, .ref (zA 0)), (1, .int i2), (2, .int (5 : Int32)), (3, .ref (zA 8)), (4, .int x3), (5, .int r4), (6, .int x20)]) hx hb dX0_reachesBy_88 hl (by decide) rfl (fun ls hl => ?_)
            refine lv_aload_n hx hb dX0_reachesBy_90 rfl (lv_at hl 1 rfl) ?_
            refine va_get hx hb hts hi0 hown hK hP 0 rfl rfl 0 (by decide) (hts (.fieldLink RX0 20 "NightPlots$Search" "standing" "LNightPlots$Standing;") (List.mem_of_getElem? (i := 2) rfl)) (fun _ h9 => h9) rfl dX0_reachesBy_91 ?_
            refine lv_iload_n hx hb dX0_reachesBy_94 rfl (lv_at hl 2 rfl) ?_
            refine lv_iload hx hb dX0_reachesBy_95 (lv_at hl 5 rfl) ?_
            obtain ⟨gS_35, hc36, hM⟩ := bnd1_at hM
            refine cm_v (w2 := (cSearch Y zA (aS 0) zZ_30 lZ_31 ++ cStand Y aS (hT 0) vS gS_35 ++ cTold Y hT tT)) (va_runV (As := [.int i2, .int x3]) (rest := []) ⟨hx, hb, hml, hown, hts⟩ (ctX1_moveHouse l D Y aS hT vS H.size gS_32 tT i2 x3 gS_35 hc36) (cwV 2 hts gX0_reachesBy_X1_moveHouse rfl rfl rfl (by decide +kernel) ⟨Nat.le_of_ble_eq_true rfl, Nat.le_of_ble_eq_true rfl⟩) (pcW_V (ci := 1) (q0 := 9) hK hP (hD.same rfl) [9, 10, 11, 12, 13, 14, 15, 16, 17, 18, 19] rfl (pc_map (pc_cons rfl (pc_cons rfl (pc_cons rfl (pc_cons rfl (pc_cons rfl (pc_cons rfl (pc_cons rfl (pc_cons rfl (pc_cons rfl (pc_cons rfl (pc_cons rfl pc_nil)))))))))))) rfl rfl) rfl rfl hl.1 rfl (lv_room (Nat.le_of_ble_eq_true rfl)) dX0_reachesBy_97 ⟨Nat.zero_le _, Nat.zero_le _⟩) hP (hD.same rfl) hS hA [9, 10, 11, 12, 13, 14, 15, 16, 17, 18, 19] (pc_map (pc_cons rfl (pc_cons rfl (pc_cons rfl (pc_cons rfl (pc_cons rfl (pc_cons rfl (pc_cons rfl (pc_cons rfl (pc_cons rfl (pc_cons rfl (pc_cons rfl pc_nil)))))))))))) (up_old rfl rfl (up_old rfl rfl (up_old rfl rfl (up_old rfl rfl (up_old rfl rfl (up_old rfl rfl (up_old rfl rfl (up_old rfl rfl (up_old rfl rfl (up_new 0 rfl (up_new 1 rfl (up_new 2 rfl (up_new 3 rfl (up_new 4 rfl (up_new 5 rfl (up_new 6 rfl (up_new 7 rfl (up_new 8 rfl (up_new 9 rfl (up_new 10 rfl up_nil)))))))))))))))))))) (fun H locs hP hS => ?_)
            refine lv_iload hx hb dX0_reachesBy_100 (lv_at hl 0 rfl) ?_
            refine lv_if_eq (tgt := 120) hx hb dX0_reachesBy_102 (by decide) (fun c37 => ?_) (fun c37 => ?_)
            · replace hM := if_at_pos hM c37
              obtain ⟨x38, ex38⟩ : ∃ z : Int32, z = (x20 + 1) := ⟨_, rfl⟩
              replace hM := nm_at hM ex38
              refine lv_iinc (v := x38) (lv' := [(6, .int x38), (7, .int x33), (0, .ref (zA 0)), (1, .int i2), (2, .int (5 : Int32)), (3, .ref (zA 8)), (4, .int x3), (5, .int r4)]) hx hb dX0_reachesBy_120 hl (k := 7) rfl (by rw [ex38]; rfl) (by decide) rfl (fun ls hl => ?_)
              refine lv_goto (tgt := 32) hx hb dX0_reachesBy_123 (by decide) ?_
              exact ih24 x38 zZ_30 lZ_31 gS_35 hM H locs ls hP hS (lv_sub hl [2, 3, 4, 5, 6, 7, 0] rfl)
            · replace hM := if_at_neg hM c37
              exact hJ16 x20 zZ_30 lZ_31 gS_35 hM H locs ls hP hS (lv_sub hl [1, 2, 4, 7] rfl)
          · refine lv_icmp_ne (tgt := 81) hx hb dX0_reachesBy_60 (by decide) (fun _ => ?_) (fun c => absurd c (by decide))
            refine lv_aload_n hx hb dX0_reachesBy_81 rfl (lv_at hl 0 rfl) ?_
            refine lv_iload_n hx hb dX0_reachesBy_82 rfl (lv_at hl 2 rfl) ?_
            refine lv_iconst (v := (1 : Int32)) hx hb dX0_reachesBy_83 (by decide) ?_
            refine lv_isub hx hb dX0_reachesBy_84 ?_
            rw [show ((5 : Int32) - (1 : Int32)) = (4 : Int32) from by decide]
            obtain ⟨r39, zZ_40, lZ_41, gS_42, hc43, hM⟩ := bnd4_at hM
            refine co_i (va_runS (As := [.ref (zA 0), .int (4 : Int32)]) (rest := []) ⟨hx, hb, hml, hown, hts⟩ (ctX0_reaches_4 l D Y zA aS hT vS H.size zZ_21 lZ_22 gS_28 tT r39 zZ_40 lZ_41 gS_42 hc43) ⟨callB_of 2 hts ggX0_reachesBy_X0_reaches rfl rfl rfl (hts (.initialized RX0) (List.mem_of_getElem? (i := 69) rfl)) (hts (.methodLink RX0 82 yX0_reaches) (List.mem_of_getElem? (i := 67) rfl)) (by decide +kernel) ⟨Nat.le_of_ble_eq_true rfl, Nat.le_of_ble_eq_true rfl⟩, (hts (.static yX0_reaches) (List.mem_of_getElem? (i := 68) rfl))⟩ (pcN_S hNF (pcW_S0 hK hP (hD.same rfl))) rfl rfl hl.1 rfl (lv_room (Nat.le_of_ble_eq_true rfl)) dX0_reachesBy_85 ⟨Nat.zero_le _, Nat.zero_le _⟩) (hD.same rfl) hS hA (fun H locs hP hS => ?_)
            exact hJ34 zZ_40 lZ_41 gS_42 r39 hM H locs ls hP hS (lv_sub hl [0, 1, 2, 3, 4, 5, 6] rfl)
noncomputable def BX0_reaches_5_55 (tT : GS) (k11 : GS → (Nat → Int64) → GS → Option (Int32 × GS × (Nat → Int64) × GS)) (k17 : GS → (Nat → Int64) → GS → Option (Int32 × GS × (Nat → Int64) × GS)) (rec22 : Int32 → GS → (Nat → Int64) → GS → Option (Int32 × GS × (Nat → Int64) × GS)) (x18 : Int32) (zZ_19 : GS) (lZ_20 : Nat → Int64) (gS_21 : GS) : Option (Int32 × GS × (Nat → Int64) × GS) := if (tT 0 1) ≤ x18 then (k11 zZ_19 lZ_20 gS_21) else (bnd1 (MX0_mayHelp zZ_19 x18 (5 : Int32)) fun (r24 : Int32) => jn3 (fun (zZ_26 : GS) (lZ_27 : Nat → Int64) (gS_28 : GS) => nm (x18 + 1) fun (x30 : Int32) => rec22 x30 zZ_26 lZ_27 gS_28) (fun k29 => if r24 = 0 then (k29 zZ_19 lZ_20 gS_21) else (bnd4 (MX0_reachesBy_5 zZ_19 lZ_20 gS_21 tT x18) fun (r32 : Int32) (zZ_33 : GS) (lZ_34 : Nat → Int64) (gS_35 : GS) => if r32 = 0 then (k29 zZ_33 lZ_34 gS_35) else (k17 zZ_33 lZ_34 gS_35))))
noncomputable def MX0_reaches_5 (zZ : GS) (lZ : Nat → Int64) (gS : GS) (tT : GS) : Option (Int32 × GS × (Nat → Int64) × GS) := jn0 (some ((0 : Int32), zZ, lZ, gS)) (fun k1 => bnd1 (MX1_placesKey gS tT) fun (r2 : Int64) => nm ((r2 * (8 : Int64)) + ((5 : Int32).toInt64)) fun (y4 : Int64) => nm ((((y4 * (-7046029254386353131 : Int64)).toUInt64 >>> ((52 : Int32).toInt64.toUInt64 &&& Int64.toUInt64 63)).toInt64).toInt32) fun (x5 : Int32) => chkI x5 4096 (if (lg_cmp (lZ x5.toNatClampNeg) y4) = 0 then (some ((0 : Int32), zZ, lZ, gS)) else (jn3 (fun (zZ_8 : GS) (lZ_9 : Nat → Int64) (gS_10 : GS) => chkI x5 4096 (nm (vp_updL lZ_9 x5.toNatClampNeg y4) fun (lZ_13 : Nat → Int64) => some ((0 : Int32), zZ_8, lZ_13, gS_10))) (fun k11 => jn3 (fun (zZ_14 : GS) (lZ_15 : Nat → Int64) (gS_16 : GS) => some ((1 : Int32), zZ_14, lZ_15, gS_16)) (fun k17 => lq4 (BX0_reaches_5_55 tT k11 k17) FU (0 : Int32) zZ lZ gS)))))
abbrev rmX0_reaches_5 : Room := { frames := 14, cells := 0, slots := 0, locals := 560 }
set_option maxHeartbeats 4000000 in
set_option maxRecDepth 100000 in
theorem ctX0_reaches_5 (l : Launch) (D : va_G) (Y : Nat → ClassId) (zA : Nat → Nat) (aS : Nat → Nat) (hT : Nat → Nat) (vS : Nat) (sz : Nat) (zZ : GS) (lZ : Nat → Int64) (gS : GS) (tT : GS) (rr : Int32) (zZz : GS) (lZz : Nat → Int64) (gSz : GS) (hM : MX0_reaches_5 zZ lZ gS tT = some (rr, zZz, lZz, gSz)) : Met l yX0_reaches wsX0_reaches rmX0_reaches_5 (pcN [.ref (zA 0), .int (5 : Int32)] sz D Y (cSearch Y zA (aS 0) zZ lZ ++ cStand Y aS (hT 0) vS gS ++ cTold Y hT tT)) (qiW rr D (cSearch Y zA (aS 0) zZz lZz ++ cStand Y aS (hT 0) vS gSz ++ cTold Y hT tT) (va_A (cSearch Y zA (aS 0) zZ lZ ++ cStand Y aS (hT 0) vS gS ++ cTold Y hT tT) sz)) 0 0 (va_A (cSearch Y zA (aS 0) zZ lZ ++ cStand Y aS (hT 0) vS gS ++ cTold Y hT tT) sz) := by
  refine Met.ofW (cc := cX0_reaches) (maxL := 6) (ret := (some .boolean)) (by decide) rfl ?_
  intro p e s m args below meth c s₁ B hml hv
  obtain ⟨⟨rfl, hsz, hP, hK, hD0⟩, hNF⟩ := hv
  have hx := B.exec
  have hb := B.bytes
  have hr := B.returns
  have hts := atoms_spec (ws := wsX0_reaches) B.pre
  have hown : s.vm.findClass RX0 = some m.cls := findClass_of_methodNamed B.named
  have hlocks := B.notSynchronized
  subst hsz
  have hD := hD0.self (sz := s.heap.size)
  generalize hAe : va_A (cSearch Y zA (aS 0) zZ lZ ++ cStand Y aS (hT 0) vS gS ++ cTold Y hT tT) s.heap.size = A at hD ⊢
  have hA : ∀ q : Nat, s.heap.size ≤ q → A q := fun q h => by rw [← hAe]; exact Or.inr h
  have hS : va_S A s.heap s.heap [] := va_S.rf
  have hi0 : ∀ w ∈ wsX00, w ∈ wsX0_reaches := fun w h => List.mem_cons_of_mem _ (List.mem_append_left _ (List.mem_append_left _ (List.mem_append_right _ h)))
  have hi1 : ∀ w ∈ wsX10, w ∈ wsX0_reaches := fun w h => List.mem_cons_of_mem _ (List.mem_append_left _ (List.mem_append_right _ h))
  have hi3 : ∀ w ∈ wsX30, w ∈ wsX0_reaches := fun w h => List.mem_cons_of_mem _ (List.mem_append_right _ h)
  have hl := lv_entry ([.ref (zA 0), .int (5 : Int32)]) (n := 6) (Nat.le_of_ble_eq_true rfl)
  rw [lg_entry_eq]
  generalize (lg_sl ([.ref (zA 0), .int (5 : Int32)]) ++ List.replicate (6 - (lg_sl ([.ref (zA 0), .int (5 : Int32)])).length) Slot.unset).toArray = ls at hl ⊢
  have hl : lv_has ls 6 [(0, .ref (zA 0)), (1, .int (5 : Int32))] := hl
  obtain ⟨QQ, hQQ⟩ : ∃ Q : State → Prop, Q = MQ below (qiW rr D (cSearch Y zA (aS 0) zZz lZz ++ cStand Y aS (hT 0) vS gSz ++ cTold Y hT tT) A) ([.ref (zA 0), .int (5 : Int32)] : List Value).toArray s 0 0 A := ⟨_, rfl⟩
  rw [← hQQ]
  unfold MX0_reaches_5 at hM
  suffices hI : ∀ (H : Heap) (locs : List Loc), va_P D vwCl (cSearch Y zA (aS 0) zZ lZ ++ cStand Y aS (hT 0) vS gS ++ cTold Y hT tT) H → va_S A s.heap H locs → W p l e (headSpec wsX0_reaches rmX0_reaches_5).room s m ([.ref (zA 0), .int (5 : Int32)] : List Value).toArray below meth c H locs 0 0 QQ (F0 m 0 ls []) from hI _ _ hP hS
  clear hP hS
  intro H locs hP hS
  refine lv_iload_n hx hb dX0_reaches_0 rfl (lv_at hl 1 rfl) ?_
  refine lv_iconst (v := (1 : Int32)) hx hb dX0_reaches_1 (by decide) ?_
  refine jn0_at (∀ (H : Heap) (locs : List Loc) (ls : Array Slot), va_P D vwCl (cSearch Y zA (aS 0) zZ lZ ++ cStand Y aS (hT 0) vS gS ++ cTold Y hT tT) H → va_S A s.heap H locs → lv_has ls 6 [] → W p l e (headSpec wsX0_reaches rmX0_reaches_5).room s m ([.ref (zA 0), .int (5 : Int32)] : List Value).toArray below meth c H locs 0 0 QQ (F0 m 10 ls [])) hM (fun  hM H locs ls hP hS hl => ?_) (fun k1 hJ1 hM => ?_)
  · refine lv_iconst (v := (0 : Int32)) hx hb dX0_reaches_10 (by decide) ?_
    cases hM
    rw [hQQ]
    exact W.zret (ty := .boolean) hx hb hr rfl (fun t ht hW => ⟨⟨_, (), rfl, rfl, by show va_P D vwCl _ t.heap; rw [ht]; exact hP⟩, hS.F ht⟩) hS.2.2 dX0_reaches_11
  · refine lv_icmp_lt (tgt := 10) hx hb dX0_reaches_2 (by decide) (fun c => absurd c (by decide)) (fun _ => ?_)
    refine lv_iload_n hx hb dX0_reaches_5 rfl (lv_at hl 1 rfl) ?_
    refine lv_iconst (v := (5 : Int32)) hx hb dX0_reaches_6 (by decide) ?_
    refine lv_icmp_le (tgt := 12) hx hb dX0_reaches_7 (by decide) (fun _ => ?_) (fun c => absurd c (by decide))
    refine lv_aload_n hx hb dX0_reaches_12 rfl (lv_at hl 0 rfl) ?_
    refine va_get hx hb hts hi0 hown hK hP 0 rfl rfl 0 (by decide) (hts (.fieldLink RX0 20 "NightPlots$Search" "standing" "LNightPlots$Standing;") (List.mem_of_getElem? (i := 1) rfl)) (fun _ h9 => h9) rfl dX0_reaches_13 ?_
    obtain ⟨r2, hc3, hM⟩ := bnd1_at hM
    refine cm_l (w2 := (cSearch Y zA (aS 0) zZ lZ ++ cStand Y aS (hT 0) vS gS ++ cTold Y hT tT)) (va_runV (As := []) (rest := []) ⟨hx, hb, hml, hown, hts⟩ (ctX1_placesKey l D Y aS hT vS H.size gS tT r2 hc3) (cwV 0 hts gX0_reaches_X1_placesKey rfl rfl rfl (by decide +kernel) ⟨Nat.le_of_ble_eq_true rfl, Nat.le_of_ble_eq_true rfl⟩) (pcW_V (ci := 1) (q0 := 9) hK hP (hD.same rfl) [9, 10, 11, 12, 13, 14, 15, 16, 17, 18, 19] rfl (pc_map (pc_cons rfl (pc_cons rfl (pc_cons rfl (pc_cons rfl (pc_cons rfl (pc_cons rfl (pc_cons rfl (pc_cons rfl (pc_cons rfl (pc_cons rfl (pc_cons rfl pc_nil)))))))))))) rfl rfl) rfl rfl hl.1 rfl (lv_room (Nat.le_of_ble_eq_true rfl)) dX0_reaches_16 ⟨Nat.zero_le _, Nat.zero_le _⟩) hP (hD.same rfl) hS hA [9, 10, 11, 12, 13, 14, 15, 16, 17, 18, 19] (pc_map (pc_cons rfl (pc_cons rfl (pc_cons rfl (pc_cons rfl (pc_cons rfl (pc_cons rfl (pc_cons rfl (pc_cons rfl (pc_cons rfl (pc_cons rfl (pc_cons rfl pc_nil)))))))))))) (up_old rfl rfl (up_old rfl rfl (up_old rfl rfl (up_old rfl rfl (up_old rfl rfl (up_old rfl rfl (up_old rfl rfl (up_old rfl rfl (up_old rfl rfl (up_new 0 rfl (up_new 1 rfl (up_new 2 rfl (up_new 3 rfl (up_new 4 rfl (up_new 5 rfl (up_new 6 rfl (up_new 7 rfl (up_new 8 rfl (up_new 9 rfl (up_new 10 rfl up_nil)))))))))))))))))))) (fun H locs hP hS => ?_)
    refine lv_ldc2 (v := (8 : Int64)) hx hb hown (hts (.constantLong RX0 46 (8)) (List.mem_of_getElem? (i := 2) rfl)) dX0_reaches_19 ?_
    refine lv_lmul hx hb dX0_reaches_22 ?_
    refine lv_iload_n hx hb dX0_reaches_23 rfl (lv_at hl 1 rfl) ?_
    refine lv_i2l (v := (5 : Int32).toInt64) hx hb dX0_reaches_24 rfl ?_
    refine lv_ladd hx hb dX0_reaches_25 ?_
    refine lv_topl (fun y4 ey4 => ?_)
    replace hM := nm_at hM ey4
    refine lv_lstore_n (lv' := [(2, .long y4), (0, .ref (zA 0)), (1, .int (5 : Int32))]) hx hb dX0_reaches_26 rfl hl (by decide) rfl (fun ls hl => ?_)
    refine lv_lload_n hx hb dX0_reaches_27 rfl (lv_at hl 0 rfl) ?_
    refine lv_ldc2 (v := (-7046029254386353131 : Int64)) hx hb hown (hts (.constantLong RX0 48 (-7046029254386353131)) (List.mem_of_getElem? (i := 3) rfl)) dX0_reaches_28 ?_
    refine lv_lmul hx hb dX0_reaches_31 ?_
    refine lv_bipush (v := (52 : Int32)) hx hb dX0_reaches_32 (by decide) ?_
    refine lv_lushr (v := ((y4 * (-7046029254386353131 : Int64)).toUInt64 >>> ((52 : Int32).toInt64.toUInt64 &&& Int64.toUInt64 63)).toInt64) hx hb dX0_reaches_34 rfl ?_
    refine lv_l2i (v := (((y4 * (-7046029254386353131 : Int64)).toUInt64 >>> ((52 : Int32).toInt64.toUInt64 &&& Int64.toUInt64 63)).toInt64).toInt32) hx hb dX0_reaches_35 rfl ?_
    refine lv_topi (fun x5 ex5 => ?_)
    replace hM := nm_at hM ex5
    refine lv_istore (lv' := [(4, .int x5), (2, .long y4), (0, .ref (zA 0)), (1, .int (5 : Int32))]) hx hb dX0_reaches_36 hl (by decide) rfl (fun ls hl => ?_)
    refine lv_aload_n hx hb dX0_reaches_38 rfl (lv_at hl 2 rfl) ?_
    refine va_get hx hb hts hi0 hown hK hP 0 rfl rfl 2 (by decide) (hts (.fieldLink RX0 16 "NightPlots$Search" "deadEnds" "[J") (List.mem_of_getElem? (i := 4) rfl)) (fun _ h9 => h9) rfl dX0_reaches_39 ?_
    refine lv_iload hx hb dX0_reaches_42 (lv_at hl 0 rfl) ?_
    obtain ⟨hi_6, hM⟩ := chkI_at hM
    refine va_lald hx hb hK hP 2 1 rfl rfl hi_6 dX0_reaches_44 ?_
    refine lv_lload_n hx hb dX0_reaches_45 rfl (lv_at hl 1 rfl) ?_
    refine W.lcmp hx hb dX0_reaches_46 ?_
    refine lv_if_ne (tgt := 52) hx hb dX0_reaches_47 (by decide) (fun c7 => ?_) (fun c7 => ?_)
    · replace hM := if_at_neg hM c7
      refine lv_iconst (v := (0 : Int32)) hx hb dX0_reaches_52 (by decide) ?_
      refine lv_istore (lv' := [(5, .int (0 : Int32)), (4, .int x5), (2, .long y4), (0, .ref (zA 0)), (1, .int (5 : Int32))]) hx hb dX0_reaches_53 hl (by decide) rfl (fun ls hl => ?_)
      refine jn3_at (fun (zZ_8 : GS) (lZ_9 : Nat → Int64) (gS_10 : GS) => ∀ (H : Heap) (locs : List Loc) (ls : Array Slot), va_P D vwCl (cSearch Y zA (aS 0) zZ_8 lZ_9 ++ cStand Y aS (hT 0) vS gS_10 ++ cTold Y hT tT) H → va_S A s.heap H locs → lv_has ls 6 [(0, .ref (zA 0)), (2, .long y4), (4, .int x5)] → W p l e (headSpec wsX0_reaches rmX0_reaches_5).room s m ([.ref (zA 0), .int (5 : Int32)] : List Value).toArray below meth c H locs 0 0 QQ (F0 m 98 ls [])) hM (fun zZ_8 lZ_9 gS_10 hM H locs ls hP hS hl => ?_) (fun k11 hJ11 hM => ?_)
      · refine lv_aload_n hx hb dX0_reaches_98 rfl (lv_at hl 0 rfl) ?_
        refine va_get hx hb hts hi0 hown hK hP 0 rfl rfl 2 (by decide) (hts (.fieldLink RX0 16 "NightPlots$Search" "deadEnds" "[J") (List.mem_of_getElem? (i := 4) rfl)) (fun _ h9 => h9) rfl dX0_reaches_99 ?_
        refine lv_iload hx hb dX0_reaches_102 (lv_at hl 2 rfl) ?_
        refine lv_lload_n hx hb dX0_reaches_104 rfl (lv_at hl 1 rfl) ?_
        obtain ⟨hi_12, hM⟩ := chkI_at hM
        refine va_last hx hb hK hP (hD.same rfl) hS 2 1 rfl rfl hi_12 dX0_reaches_105 (fun H locs hP _ hS => ?_)
        obtain ⟨lZ_13, elZ_13⟩ : ∃ z : Nat → Int64, z = (vp_updL lZ_9 x5.toNatClampNeg y4) := ⟨_, rfl⟩
        have hP : va_P D vwCl (cSearch Y zA (aS 0) zZ_8 lZ_13 ++ cStand Y aS (hT 0) vS gS_10 ++ cTold Y hT tT) H := by rw [elZ_13]; exact hP
        replace hM := nm_at hM elZ_13
        refine lv_iconst (v := (0 : Int32)) hx hb dX0_reaches_106 (by decide) ?_
        cases hM
        rw [hQQ]
        exact W.zret (ty := .boolean) hx hb hr rfl (fun t ht hW => ⟨⟨_, (), rfl, rfl, by show va_P D vwCl _ t.heap; rw [ht]; exact hP⟩, hS.F ht⟩) hS.2.2 dX0_reaches_107
      · refine jn3_at (fun (zZ_14 : GS) (lZ_15 : Nat → Int64) (gS_16 : GS) => ∀ (H : Heap) (locs : List Loc) (ls : Array Slot), va_P D vwCl (cSearch Y zA (aS 0) zZ_14 lZ_15 ++ cStand Y aS (hT 0) vS gS_16 ++ cTold Y hT tT) H → va_S A s.heap H locs → lv_has ls 6 [] → W p l e (headSpec wsX0_reaches rmX0_reaches_5).room s m ([.ref (zA 0), .int (5 : Int32)] : List Value).toArray below meth c H locs 0 0 QQ (F0 m 90 ls [])) hM (fun zZ_14 lZ_15 gS_16 hM H locs ls hP hS hl => ?_) (fun k17 hJ17 hM => ?_)
        · refine lv_iconst (v := (1 : Int32)) hx hb dX0_reaches_90 (by decide) ?_
          cases hM
          rw [hQQ]
          exact W.zret (ty := .boolean) hx hb hr rfl (fun t ht hW => ⟨⟨_, (), rfl, rfl, by show va_P D vwCl _ t.heap; rw [ht]; exact hP⟩, hS.F ht⟩) hS.2.2 dX0_reaches_91
        · refine lq4_at (fun (x18 : Int32) (zZ_19 : GS) (lZ_20 : Nat → Int64) (gS_21 : GS) => ∀ (H : Heap) (locs : List Loc) (ls : Array Slot), va_P D vwCl (cSearch Y zA (aS 0) zZ_19 lZ_20 ++ cStand Y aS (hT 0) vS gS_21 ++ cTold Y hT tT) H → va_S A s.heap H locs → lv_has ls 6 [(0, .ref (zA 0)), (1, .int (5 : Int32)), (2, .long y4), (4, .int x5), (5, .int x18)] → W p l e (headSpec wsX0_reaches rmX0_reaches_5).room s m ([.ref (zA 0), .int (5 : Int32)] : List Value).toArray below meth c H locs 0 0 QQ (F0 m 55 ls [])) (fun rec22 x18 zZ_19 lZ_20 gS_21 ih22 hM H locs ls hP hS hl => ?_) FU (0 : Int32) zZ lZ gS hM H locs ls hP hS (lv_sub hl [3, 4, 2, 1, 0] rfl)
          unfold BX0_reaches_5_55 at hM
          refine lv_iload hx hb dX0_reaches_55 (lv_at hl 4 rfl) ?_
          refine lv_aload_n hx hb dX0_reaches_57 rfl (lv_at hl 0 rfl) ?_
          refine va_get hx hb hts hi0 hown hK hP 0 rfl rfl 0 (by decide) (hts (.fieldLink RX0 20 "NightPlots$Search" "standing" "LNightPlots$Standing;") (List.mem_of_getElem? (i := 1) rfl)) (fun _ h9 => h9) rfl dX0_reaches_58 ?_
          refine va_getN hx hb hts hi1 hown hK hP 9 rfl rfl 0 (by decide) (hNF.use rfl) (fun _ h9 => h9) rfl dX0_reaches_61 ?_
          refine va_get hx hb hts hi3 hown hK hP 12 rfl rfl 1 (by decide) (hts (.fieldLink RX0 54 "NightPlots$Told" "houses" "I") (List.mem_of_getElem? (i := 5) rfl)) (fun _ h9 => h9) rfl dX0_reaches_64 ?_
          refine lv_icmp_ge (tgt := 98) hx hb dX0_reaches_67 (by decide) (fun c23 => ?_) (fun c23 => ?_)
          · replace hM := if_at_pos hM c23
            exact hJ11 zZ_19 lZ_20 gS_21 hM H locs ls hP hS (lv_sub hl [0, 2, 3] rfl)
          · replace hM := if_at_neg hM c23
            refine lv_aload_n hx hb dX0_reaches_70 rfl (lv_at hl 0 rfl) ?_
            refine lv_iload hx hb dX0_reaches_71 (lv_at hl 4 rfl) ?_
            refine lv_iload_n hx hb dX0_reaches_73 rfl (lv_at hl 1 rfl) ?_
            obtain ⟨r24, hc25, hM⟩ := bnd1_at hM
            refine cm_i (w2 := (cSearch Y zA (aS 0) zZ_19 lZ_20 ++ cStand Y aS (hT 0) vS gS_21 ++ cTold Y hT tT)) (va_runV (As := [.int x18, .int (5 : Int32)]) (rest := []) ⟨hx, hb, hml, hown, hts⟩ (ctX0_mayHelp l D Y zA (aS 0) H.size zZ_19 lZ_20 x18 (5 : Int32) r24 hc25) (cwV 2 hts gX0_reaches_X0_mayHelp rfl rfl rfl (by decide +kernel) ⟨Nat.le_of_ble_eq_true rfl, Nat.le_of_ble_eq_true rfl⟩) (pcW_V (ci := 0) (q0 := 0) hK hP (hD.same rfl) [0, 1, 2, 3, 4, 5, 6, 7, 8] rfl (pc_map (pc_cons rfl (pc_cons rfl (pc_cons rfl (pc_cons rfl (pc_cons rfl (pc_cons rfl (pc_cons rfl (pc_cons rfl (pc_cons rfl pc_nil)))))))))) rfl rfl) rfl rfl hl.1 rfl (lv_room (Nat.le_of_ble_eq_true rfl)) dX0_reaches_74 ⟨Nat.zero_le _, Nat.zero_le _⟩) hP (hD.same rfl) hS hA [0, 1, 2, 3, 4, 5, 6, 7, 8] (pc_map (pc_cons rfl (pc_cons rfl (pc_cons rfl (pc_cons rfl (pc_cons rfl (pc_cons rfl (pc_cons rfl (pc_cons rfl (pc_cons rfl pc_nil)))))))))) (up_new 0 rfl (up_new 1 rfl (up_new 2 rfl (up_new 3 rfl (up_new 4 rfl (up_new 5 rfl (up_new 6 rfl (up_new 7 rfl (up_new 8 rfl (up_old rfl rfl (up_old rfl rfl (up_old rfl rfl (up_old rfl rfl (up_old rfl rfl (up_old rfl rfl (up_old rfl rfl (up_old rfl rfl (up_old rfl rfl (up_old rfl rfl (up_old rfl rfl up_nil)))))))))))))))))))) (fun H locs hP hS => ?_)
            refine jn3_at (fun (zZ_26 : GS) (lZ_27 : Nat → Int64) (gS_28 : GS) => ∀ (H : Heap) (locs : List Loc) (ls : Array Slot), va_P D vwCl (cSearch Y zA (aS 0) zZ_26 lZ_27 ++ cStand Y aS (hT 0) vS gS_28 ++ cTold Y hT tT) H → va_S A s.heap H locs → lv_has ls 6 [(0, .ref (zA 0)), (1, .int (5 : Int32)), (2, .long y4), (4, .int x5), (5, .int x18)] → W p l e (headSpec wsX0_reaches rmX0_reaches_5).room s m ([.ref (zA 0), .int (5 : Int32)] : List Value).toArray below meth c H locs 0 0 QQ (F0 m 92 ls [])) hM (fun zZ_26 lZ_27 gS_28 hM H locs ls hP hS hl => ?_) (fun k29 hJ29 hM => ?_)
            · obtain ⟨x30, ex30⟩ : ∃ z : Int32, z = (x18 + 1) := ⟨_, rfl⟩
              replace hM := nm_at hM ex30
              refine lv_iinc (v := x30) (lv' := [(5, .int x30), (0, .ref (zA 0)), (1, .int (5 : Int32)), (2, .long y4), (4, .int x5)]) hx hb dX0_reaches_92 hl (k := 4) rfl (by rw [ex30]; rfl) (by decide) rfl (fun ls hl => ?_)
              refine lv_goto (tgt := 55) hx hb dX0_reaches_95 (by decide) ?_
              exact ih22 x30 zZ_26 lZ_27 gS_28 hM H locs ls hP hS (lv_sub hl [1, 2, 3, 4, 0] rfl)
            · refine lv_if_eq (tgt := 92) hx hb dX0_reaches_77 (by decide) (fun c31 => ?_) (fun c31 => ?_)
              · replace hM := if_at_pos hM c31
                exact hJ29 zZ_19 lZ_20 gS_21 hM H locs ls hP hS (lv_sub hl [0, 1, 2, 3, 4] rfl)
              · replace hM := if_at_neg hM c31
                refine lv_aload_n hx hb dX0_reaches_80 rfl (lv_at hl 0 rfl) ?_
                refine lv_iload hx hb dX0_reaches_81 (lv_at hl 4 rfl) ?_
                refine lv_iload_n hx hb dX0_reaches_83 rfl (lv_at hl 1 rfl) ?_
                obtain ⟨r32, zZ_33, lZ_34, gS_35, hc36, hM⟩ := bnd4_at hM
                refine co_i (va_runS (As := [.ref (zA 0), .int x18, .int (5 : Int32)]) (rest := []) ⟨hx, hb, hml, hown, hts⟩ (ctX0_reachesBy_5 l D Y zA aS hT vS H.size zZ_19 lZ_20 gS_21 tT x18 r32 zZ_33 lZ_34 gS_35 hc36) ⟨callB_of 3 hts ggX0_reaches_X0_reachesBy rfl rfl rfl (hts (.initialized RX0) (List.mem_of_getElem? (i := 17) rfl)) (hts (.methodLink RX0 63 yX0_reachesBy) (List.mem_of_getElem? (i := 21) rfl)) (by decide +kernel) ⟨Nat.le_of_ble_eq_true rfl, Nat.le_of_ble_eq_true rfl⟩, (hts (.static yX0_reachesBy) (List.mem_of_getElem? (i := 22) rfl))⟩ (pcN_S hNF (pcW_S0 hK hP (hD.same rfl))) rfl rfl hl.1 rfl (lv_room (Nat.le_of_ble_eq_true rfl)) dX0_reaches_84 ⟨Nat.zero_le _, Nat.zero_le _⟩) (hD.same rfl) hS hA (fun H locs hP hS => ?_)
                refine lv_if_eq (tgt := 92) hx hb dX0_reaches_87 (by decide) (fun c37 => ?_) (fun c37 => ?_)
                · replace hM := if_at_pos hM c37
                  exact hJ29 zZ_33 lZ_34 gS_35 hM H locs ls hP hS (lv_sub hl [0, 1, 2, 3, 4] rfl)
                · replace hM := if_at_neg hM c37
                  exact hJ17 zZ_33 lZ_34 gS_35 hM H locs ls hP hS (lv_sub hl [] rfl)
    · replace hM := if_at_pos hM c7
      refine lv_iconst (v := (0 : Int32)) hx hb dX0_reaches_50 (by decide) ?_
      cases hM
      rw [hQQ]
      exact W.zret (ty := .boolean) hx hb hr rfl (fun t ht hW => ⟨⟨_, (), rfl, rfl, by show va_P D vwCl _ t.heap; rw [ht]; exact hP⟩, hS.F ht⟩) hS.2.2 dX0_reaches_51
