noncomputable def BX0_reaches_1B_55 (tT : GS) (k10 : GS → GS → Option (Int32 × GS × (Nat → Int64) × GS)) (k15 : GS → GS → Option (Int32 × GS × (Nat → Int64) × GS)) (rec19 : Int32 → GS → GS → Option (Int32 × GS × (Nat → Int64) × GS)) (x16 : Int32) (zZ_17 : GS) (gS_18 : GS) : Option (Int32 × GS × (Nat → Int64) × GS) := if (tT 0 1) ≤ x16 then (k10 zZ_17 gS_18) else (bnd1 (MX0_mayHelp zZ_17 x16 (1 : Int32)) fun (r21 : Int32) => jn2 (fun (zZ_23 : GS) (gS_24 : GS) => nm (x16 + 1) fun (x26 : Int32) => rec19 x26 zZ_23 gS_24) (fun k25 => if r21 = 0 then (k25 zZ_17 gS_18) else (bnd3 (MX0_reachesBy_1 zZ_17 gS_18 tT x16) fun (r28 : Int32) (zZ_29 : GS) (gS_30 : GS) => if r28 = 0 then (k25 zZ_29 gS_30) else (k15 zZ_29 gS_30))))
noncomputable def MX0_reaches_1B (zZ : GS) (lZ : Nat → Int64) (gS : GS) (tT : GS) : Option (Int32 × GS × (Nat → Int64) × GS) := jn0 (some ((0 : Int32), zZ, lZ, gS)) (fun k1 => bnd1 (MX1_placesKey gS tT) fun (r2 : Int64) => nm ((r2 * (8 : Int64)) + ((1 : Int32).toInt64)) fun (y4 : Int64) => nm ((((y4 * (-7046029254386353131 : Int64)).toUInt64 >>> ((52 : Int32).toInt64.toUInt64 &&& Int64.toUInt64 63)).toInt64).toInt32) fun (x5 : Int32) => chkI x5 4096 (if (lg_cmp (lZ x5.toNatClampNeg) y4) = 0 then (some ((0 : Int32), zZ, lZ, gS)) else (jn2 (fun (zZ_8 : GS) (gS_9 : GS) => chkI x5 4096 (nm (vp_updL lZ x5.toNatClampNeg y4) fun (lZ_12 : Nat → Int64) => some ((0 : Int32), zZ_8, lZ_12, gS_9))) (fun k10 => jn2 (fun (zZ_13 : GS) (gS_14 : GS) => some ((1 : Int32), zZ_13, lZ, gS_14)) (fun k15 => lq3 (BX0_reaches_1B_55 tT k10 k15) FU (0 : Int32) zZ gS)))))
abbrev rmX0_reaches_1B : Room := { frames := 14, cells := 0, slots := 0, locals := 560 }
set_option maxHeartbeats 4000000 in
set_option maxRecDepth 100000 in
theorem ctX0_reaches_1B (l : Launch) (D : va_G) (Y : Nat → ClassId) (zA : Nat → Nat) (aS : Nat → Nat) (hT : Nat → Nat) (vS : Nat) (sz : Nat) (zZ : GS) (lZ : Nat → Int64) (gS : GS) (tT : GS) (rr : Int32) (zZz : GS) (lZz : Nat → Int64) (gSz : GS) (hM : MX0_reaches_1B zZ lZ gS tT = some (rr, zZz, lZz, gSz)) : Met l yX0_reaches wsX0_reaches rmX0_reaches_1B (pcN [.ref (zA 0), .int (1 : Int32)] sz D Y (cSearch Y zA (aS 0) zZ lZ ++ cStand Y aS (hT 0) vS gS ++ cTold Y hT tT)) (qiW rr D (cSearch Y zA (aS 0) zZz lZz ++ cStand Y aS (hT 0) vS gSz ++ cTold Y hT tT) (va_A (cSearch Y zA (aS 0) zZ lZ ++ cStand Y aS (hT 0) vS gS ++ cTold Y hT tT) sz)) 0 0 (va_A (cSearch Y zA (aS 0) zZ lZ ++ cStand Y aS (hT 0) vS gS ++ cTold Y hT tT) sz) := by
  refine Met.ofW (cc := cX0_reaches) (maxL := 6) (ret := (some .boolean)) (by decide) rfl ?_
  intro p e s m args below meth c s₁ B hml hv
  obtain ⟨⟨rfl, hsz, hP, hK, hD0⟩, hNF⟩ := hv
  have hx := B.exec
  have hb := B.bytes
  have hr := B.returns
  have hts := atoms_spec (ws := wsX0_reaches) B.pre
  have hown : s.vm.findClass RX0 = some m.cls := findClass_of_methodNamed B.named
  have hlocks := B.notSynchronized
  subst hsz
  have hD := hD0.self (sz := s.heap.size)
  generalize hAe : va_A (cSearch Y zA (aS 0) zZ lZ ++ cStand Y aS (hT 0) vS gS ++ cTold Y hT tT) s.heap.size = A at hD ⊢
  have hA : ∀ q : Nat, s.heap.size ≤ q → A q := fun q h => by rw [← hAe]; exact Or.inr h
  have hS : va_S A s.heap s.heap [] := va_S.rf
  have hi0 : ∀ w ∈ wsX00, w ∈ wsX0_reaches := fun w h => List.mem_cons_of_mem _ (List.mem_append_left _ (List.mem_append_left _ (List.mem_append_right _ h)))
  have hi1 : ∀ w ∈ wsX10, w ∈ wsX0_reaches := fun w h => List.mem_cons_of_mem _ (List.mem_append_left _ (List.mem_append_right _ h))
  have hi3 : ∀ w ∈ wsX30, w ∈ wsX0_reaches := fun w h => List.mem_cons_of_mem _ (List.mem_append_right _ h)
  have hl := lv_entry ([.ref (zA 0), .int (1 : Int32)]) (n := 6) (Nat.le_of_ble_eq_true rfl)
  rw [lg_entry_eq]
  generalize (lg_sl ([.ref (zA 0), .int (1 : Int32)]) ++ List.replicate (6 - (lg_sl ([.ref (zA 0), .int (1 : Int32)])).length) Slot.unset).toArray = ls at hl ⊢
  have hl : lv_has ls 6 [(0, .ref (zA 0)), (1, .int (1 : Int32))] := hl
  obtain ⟨QQ, hQQ⟩ : ∃ Q : State → Prop, Q = MQ below (qiW rr D (cSearch Y zA (aS 0) zZz lZz ++ cStand Y aS (hT 0) vS gSz ++ cTold Y hT tT) A) ([.ref (zA 0), .int (1 : Int32)] : List Value).toArray s 0 0 A := ⟨_, rfl⟩
  rw [← hQQ]
  unfold MX0_reaches_1B at hM
  suffices hI : ∀ (H : Heap) (locs : List Loc), va_P D vwCl (cSearch Y zA (aS 0) zZ lZ ++ cStand Y aS (hT 0) vS gS ++ cTold Y hT tT) H → va_S A s.heap H locs → W p l e (headSpec wsX0_reaches rmX0_reaches_1B).room s m ([.ref (zA 0), .int (1 : Int32)] : List Value).toArray below meth c H locs 0 0 QQ (F0 m 0 ls []) from hI _ _ hP hS
  clear hP hS
  intro H locs hP hS
  refine lv_iload_n hx hb dX0_reaches_0 rfl (lv_at hl 1 rfl) ?_
  refine lv_iconst (v := (1 : Int32)) hx hb dX0_reaches_1 (by decide) ?_
  refine jn0_at (∀ (H : Heap) (locs : List Loc) (ls : Array Slot), va_P D vwCl (cSearch Y zA (aS 0) zZ lZ ++ cStand Y aS (hT 0) vS gS ++ cTold Y hT tT) H → va_S A s.heap H locs → lv_has ls 6 [] → W p l e (headSpec wsX0_reaches rmX0_reaches_1B).room s m ([.ref (zA 0), .int (1 : Int32)] : List Value).toArray below meth c H locs 0 0 QQ (F0 m 10 ls [])) hM (fun  hM H locs ls hP hS hl => ?_) (fun k1 hJ1 hM => ?_)
  · refine lv_iconst (v := (0 : Int32)) hx hb dX0_reaches_10 (by decide) ?_
    cases hM
    rw [hQQ]
    exact W.zret (ty := .boolean) hx hb hr rfl (fun t ht hW => ⟨⟨_, (), rfl, rfl, by show va_P D vwCl _ t.heap; rw [ht]; exact hP⟩, hS.F ht⟩) hS.2.2 dX0_reaches_11
  · refine lv_icmp_lt (tgt := 10) hx hb dX0_reaches_2 (by decide) (fun c => absurd c (by decide)) (fun _ => ?_)
    refine lv_iload_n hx hb dX0_reaches_5 rfl (lv_at hl 1 rfl) ?_
    refine lv_iconst (v := (5 : Int32)) hx hb dX0_reaches_6 (by decide) ?_
    refine lv_icmp_le (tgt := 12) hx hb dX0_reaches_7 (by decide) (fun _ => ?_) (fun c => absurd c (by decide))
    refine lv_aload_n hx hb dX0_reaches_12 rfl (lv_at hl 0 rfl) ?_
    refine va_get hx hb hts hi0 hown hK hP 0 rfl rfl 0 (by decide) (hts (.fieldLink RX0 20 "NightPlots$Search" "standing" "LNightPlots$Standing;") (List.mem_of_getElem? (i := 1) rfl)) (fun _ h9 => h9) rfl dX0_reaches_13 ?_
    obtain ⟨r2, hc3, hM⟩ := bnd1_at hM
    refine cm_l (w2 := (cSearch Y zA (aS 0) zZ lZ ++ cStand Y aS (hT 0) vS gS ++ cTold Y hT tT)) (va_runV (As := []) (rest := []) ⟨hx, hb, hml, hown, hts⟩ (ctX1_placesKey l D Y aS hT vS H.size gS tT r2 hc3) (cwV 0 hts gX0_reaches_X1_placesKey rfl rfl rfl (by decide +kernel) ⟨Nat.le_of_ble_eq_true rfl, Nat.le_of_ble_eq_true rfl⟩) (pcW_V (ci := 1) (q0 := 9) hK hP (hD.same rfl) [9, 10, 11, 12, 13, 14, 15, 16, 17, 18, 19] rfl (pc_map (pc_cons rfl (pc_cons rfl (pc_cons rfl (pc_cons rfl (pc_cons rfl (pc_cons rfl (pc_cons rfl (pc_cons rfl (pc_cons rfl (pc_cons rfl (pc_cons rfl pc_nil)))))))))))) rfl rfl) rfl rfl hl.1 rfl (lv_room (Nat.le_of_ble_eq_true rfl)) dX0_reaches_16 ⟨Nat.zero_le _, Nat.zero_le _⟩) hP (hD.same rfl) hS hA [9, 10, 11, 12, 13, 14, 15, 16, 17, 18, 19] (pc_map (pc_cons rfl (pc_cons rfl (pc_cons rfl (pc_cons rfl (pc_cons rfl (pc_cons rfl (pc_cons rfl (pc_cons rfl (pc_cons rfl (pc_cons rfl (pc_cons rfl pc_nil)))))))))))) (up_old rfl rfl (up_old rfl rfl (up_old rfl rfl (up_old rfl rfl (up_old rfl rfl (up_old rfl rfl (up_old rfl rfl (up_old rfl rfl (up_old rfl rfl (up_new 0 rfl (up_new 1 rfl (up_new 2 rfl (up_new 3 rfl (up_new 4 rfl (up_new 5 rfl (up_new 6 rfl (up_new 7 rfl (up_new 8 rfl (up_new 9 rfl (up_new 10 rfl up_nil)))))))))))))))))))) (fun H locs hP hS => ?_)
    refine lv_ldc2 (v := (8 : Int64)) hx hb hown (hts (.constantLong RX0 46 (8)) (List.mem_of_getElem? (i := 2) rfl)) dX0_reaches_19 ?_
    refine lv_lmul hx hb dX0_reaches_22 ?_
    refine lv_iload_n hx hb dX0_reaches_23 rfl (lv_at hl 1 rfl) ?_
    refine lv_i2l (v := (1 : Int32).toInt64) hx hb dX0_reaches_24 rfl ?_
    refine lv_ladd hx hb dX0_reaches_25 ?_
    refine lv_topl (fun y4 ey4 => ?_)
    replace hM := nm_at hM ey4
    refine lv_lstore_n (lv' := [(2, .long y4), (0, .ref (zA 0)), (1, .int (1 : Int32))]) hx hb dX0_reaches_26 rfl hl (by decide) rfl (fun ls hl => ?_)
    refine lv_lload_n hx hb dX0_reaches_27 rfl (lv_at hl 0 rfl) ?_
    refine lv_ldc2 (v := (-7046029254386353131 : Int64)) hx hb hown (hts (.constantLong RX0 48 (-7046029254386353131)) (List.mem_of_getElem? (i := 3) rfl)) dX0_reaches_28 ?_
    refine lv_lmul hx hb dX0_reaches_31 ?_
    refine lv_bipush (v := (52 : Int32)) hx hb dX0_reaches_32 (by decide) ?_
    refine lv_lushr (v := ((y4 * (-7046029254386353131 : Int64)).toUInt64 >>> ((52 : Int32).toInt64.toUInt64 &&& Int64.toUInt64 63)).toInt64) hx hb dX0_reaches_34 rfl ?_
    refine lv_l2i (v := (((y4 * (-7046029254386353131 : Int64)).toUInt64 >>> ((52 : Int32).toInt64.toUInt64 &&& Int64.toUInt64 63)).toInt64).toInt32) hx hb dX0_reaches_35 rfl ?_
    refine lv_topi (fun x5 ex5 => ?_)
    replace hM := nm_at hM ex5
    refine lv_istore (lv' := [(4, .int x5), (2, .long y4), (0, .ref (zA 0)), (1, .int (1 : Int32))]) hx hb dX0_reaches_36 hl (by decide) rfl (fun ls hl => ?_)
    refine lv_aload_n hx hb dX0_reaches_38 rfl (lv_at hl 2 rfl) ?_
    refine va_get hx hb hts hi0 hown hK hP 0 rfl rfl 2 (by decide) (hts (.fieldLink RX0 16 "NightPlots$Search" "deadEnds" "[J") (List.mem_of_getElem? (i := 4) rfl)) (fun _ h9 => h9) rfl dX0_reaches_39 ?_
    refine lv_iload hx hb dX0_reaches_42 (lv_at hl 0 rfl) ?_
    obtain ⟨hi_6, hM⟩ := chkI_at hM
    refine va_lald hx hb hK hP 2 1 rfl rfl hi_6 dX0_reaches_44 ?_
    refine lv_lload_n hx hb dX0_reaches_45 rfl (lv_at hl 1 rfl) ?_
    refine W.lcmp hx hb dX0_reaches_46 ?_
    refine lv_if_ne (tgt := 52) hx hb dX0_reaches_47 (by decide) (fun c7 => ?_) (fun c7 => ?_)
    · replace hM := if_at_neg hM c7
      refine lv_iconst (v := (0 : Int32)) hx hb dX0_reaches_52 (by decide) ?_
      refine lv_istore (lv' := [(5, .int (0 : Int32)), (4, .int x5), (2, .long y4), (0, .ref (zA 0)), (1, .int (1 : Int32))]) hx hb dX0_reaches_53 hl (by decide) rfl (fun ls hl => ?_)
      refine jn2_at (fun (zZ_8 : GS) (gS_9 : GS) => ∀ (H : Heap) (locs : List Loc) (ls : Array Slot), va_P D vwCl (cSearch Y zA (aS 0) zZ_8 lZ ++ cStand Y aS (hT 0) vS gS_9 ++ cTold Y hT tT) H → va_S A s.heap H locs → lv_has ls 6 [(0, .ref (zA 0)), (2, .long y4), (4, .int x5)] → W p l e (headSpec wsX0_reaches rmX0_reaches_1B).room s m ([.ref (zA 0), .int (1 : Int32)] : List Value).toArray below meth c H locs 0 0 QQ (F0 m 98 ls [])) hM (fun zZ_8 gS_9 hM H locs ls hP hS hl => ?_) (fun k10 hJ10 hM => ?_)
      · refine lv_aload_n hx hb dX0_reaches_98 rfl (lv_at hl 0 rfl) ?_
        refine va_get hx hb hts hi0 hown hK hP 0 rfl rfl 2 (by decide) (hts (.fieldLink RX0 16 "NightPlots$Search" "deadEnds" "[J") (List.mem_of_getElem? (i := 4) rfl)) (fun _ h9 => h9) rfl dX0_reaches_99 ?_
        refine lv_iload hx hb dX0_reaches_102 (lv_at hl 2 rfl) ?_
        refine lv_lload_n hx hb dX0_reaches_104 rfl (lv_at hl 1 rfl) ?_
        obtain ⟨hi_11, hM⟩ := chkI_at hM
        refine va_last hx hb hK hP (hD.same rfl) hS 2 1 rfl rfl hi_11 dX0_reaches_105 (fun H locs hP _ hS => ?_)
        obtain ⟨lZ_12, elZ_12⟩ : ∃ z : Nat → Int64, z = (vp_updL lZ x5.toNatClampNeg y4) := ⟨_, rfl⟩
        have hP : va_P D vwCl (cSearch Y zA (aS 0) zZ_8 lZ_12 ++ cStand Y aS (hT 0) vS gS_9 ++ cTold Y hT tT) H := by rw [elZ_12]; exact hP
        replace hM := nm_at hM elZ_12
        refine lv_iconst (v := (0 : Int32)) hx hb dX0_reaches_106 (by decide) ?_
        cases hM
        rw [hQQ]
        exact W.zret (ty := .boolean) hx hb hr rfl (fun t ht hW => ⟨⟨_, (), rfl, rfl, by show va_P D vwCl _ t.heap; rw [ht]; exact hP⟩, hS.F ht⟩) hS.2.2 dX0_reaches_107
      · refine jn2_at (fun (zZ_13 : GS) (gS_14 : GS) => ∀ (H : Heap) (locs : List Loc) (ls : Array Slot), va_P D vwCl (cSearch Y zA (aS 0) zZ_13 lZ ++ cStand Y aS (hT 0) vS gS_14 ++ cTold Y hT tT) H → va_S A s.heap H locs → lv_has ls 6 [] → W p l e (headSpec wsX0_reaches rmX0_reaches_1B).room s m ([.ref (zA 0), .int (1 : Int32)] : List Value).toArray below meth c H locs 0 0 QQ (F0 m 90 ls [])) hM (fun zZ_13 gS_14 hM H locs ls hP hS hl => ?_) (fun k15 hJ15 hM => ?_)
        · refine lv_iconst (v := (1 : Int32)) hx hb dX0_reaches_90 (by decide) ?_
          cases hM
          rw [hQQ]
          exact W.zret (ty := .boolean) hx hb hr rfl (fun t ht hW => ⟨⟨_, (), rfl, rfl, by show va_P D vwCl _ t.heap; rw [ht]; exact hP⟩, hS.F ht⟩) hS.2.2 dX0_reaches_91
        · refine lq3_at (fun (x16 : Int32) (zZ_17 : GS) (gS_18 : GS) => ∀ (H : Heap) (locs : List Loc) (ls : Array Slot), va_P D vwCl (cSearch Y zA (aS 0) zZ_17 lZ ++ cStand Y aS (hT 0) vS gS_18 ++ cTold Y hT tT) H → va_S A s.heap H locs → lv_has ls 6 [(0, .ref (zA 0)), (1, .int (1 : Int32)), (2, .long y4), (4, .int x5), (5, .int x16)] → W p l e (headSpec wsX0_reaches rmX0_reaches_1B).room s m ([.ref (zA 0), .int (1 : Int32)] : List Value).toArray below meth c H locs 0 0 QQ (F0 m 55 ls [])) (fun rec19 x16 zZ_17 gS_18 ih19 hM H locs ls hP hS hl => ?_) FU (0 : Int32) zZ gS hM H locs ls hP hS (lv_sub hl [3, 4, 2, 1, 0] rfl)
          unfold BX0_reaches_1B_55 at hM
          refine lv_iload hx hb dX0_reaches_55 (lv_at hl 4 rfl) ?_
          refine lv_aload_n hx hb dX0_reaches_57 rfl (lv_at hl 0 rfl) ?_
          refine va_get hx hb hts hi0 hown hK hP 0 rfl rfl 0 (by decide) (hts (.fieldLink RX0 20 "NightPlots$Search" "standing" "LNightPlots$Standing;") (List.mem_of_getElem? (i := 1) rfl)) (fun _ h9 => h9) rfl dX0_reaches_58 ?_
          refine va_getN hx hb hts hi1 hown hK hP 9 rfl rfl 0 (by decide) (hNF.use rfl) (fun _ h9 => h9) rfl dX0_reaches_61 ?_
          refine va_get hx hb hts hi3 hown hK hP 12 rfl rfl 1 (by decide) (hts (.fieldLink RX0 54 "NightPlots$Told" "houses" "I") (List.mem_of_getElem? (i := 5) rfl)) (fun _ h9 => h9) rfl dX0_reaches_64 ?_
          refine lv_icmp_ge (tgt := 98) hx hb dX0_reaches_67 (by decide) (fun c20 => ?_) (fun c20 => ?_)
          · replace hM := if_at_pos hM c20
            exact hJ10 zZ_17 gS_18 hM H locs ls hP hS (lv_sub hl [0, 2, 3] rfl)
          · replace hM := if_at_neg hM c20
            refine lv_aload_n hx hb dX0_reaches_70 rfl (lv_at hl 0 rfl) ?_
            refine lv_iload hx hb dX0_reaches_71 (lv_at hl 4 rfl) ?_
            refine lv_iload_n hx hb dX0_reaches_73 rfl (lv_at hl 1 rfl) ?_
            obtain ⟨r21, hc22, hM⟩ := bnd1_at hM
            refine cm_i (w2 := (cSearch Y zA (aS 0) zZ_17 lZ ++ cStand Y aS (hT 0) vS gS_18 ++ cTold Y hT tT)) (va_runV (As := [.int x16, .int (1 : Int32)]) (rest := []) ⟨hx, hb, hml, hown, hts⟩ (ctX0_mayHelp l D Y zA (aS 0) H.size zZ_17 lZ x16 (1 : Int32) r21 hc22) (cwV 2 hts gX0_reaches_X0_mayHelp rfl rfl rfl (by decide +kernel) ⟨Nat.le_of_ble_eq_true rfl, Nat.le_of_ble_eq_true rfl⟩) (pcW_V (ci := 0) (q0 := 0) hK hP (hD.same rfl) [0, 1, 2, 3, 4, 5, 6, 7, 8] rfl (pc_map (pc_cons rfl (pc_cons rfl (pc_cons rfl (pc_cons rfl (pc_cons rfl (pc_cons rfl (pc_cons rfl (pc_cons rfl (pc_cons rfl pc_nil)))))))))) rfl rfl) rfl rfl hl.1 rfl (lv_room (Nat.le_of_ble_eq_true rfl)) dX0_reaches_74 ⟨Nat.zero_le _, Nat.zero_le _⟩) hP (hD.same rfl) hS hA [0, 1, 2, 3, 4, 5, 6, 7, 8] (pc_map (pc_cons rfl (pc_cons rfl (pc_cons rfl (pc_cons rfl (pc_cons rfl (pc_cons rfl (pc_cons rfl (pc_cons rfl (pc_cons rfl pc_nil)))))))))) (up_new 0 rfl (up_new 1 rfl (up_new 2 rfl (up_new 3 rfl (up_new 4 rfl (up_new 5 rfl (up_new 6 rfl (up_new 7 rfl (up_new 8 rfl (up_old rfl rfl (up_old rfl rfl (up_old rfl rfl (up_old rfl rfl (up_old rfl rfl (up_old rfl rfl (up_old rfl rfl (up_old rfl rfl (up_old rfl rfl (up_old rfl rfl (up_old rfl rfl up_nil)))))))))))))))))))) (fun H locs hP hS => ?_)
            refine jn2_at (fun (zZ_23 : GS) (gS_24 : GS) => ∀ (H : Heap) (locs : List Loc) (ls : Array Slot), va_P D vwCl (cSearch Y zA (aS 0) zZ_23 lZ ++ cStand Y aS (hT 0) vS gS_24 ++ cTold Y hT tT) H → va_S A s.heap H locs → lv_has ls 6 [(0, .ref (zA 0)), (1, .int (1 : Int32)), (2, .long y4), (4, .int x5), (5, .int x16)] → W p l e (headSpec wsX0_reaches rmX0_reaches_1B).room s m ([.ref (zA 0), .int (1 : Int32)] : List Value).toArray below meth c H locs 0 0 QQ (F0 m 92 ls [])) hM (fun zZ_23 gS_24 hM H locs ls hP hS hl => ?_) (fun k25 hJ25 hM => ?_)
            · obtain ⟨x26, ex26⟩ : ∃ z : Int32, z = (x16 + 1) := ⟨_, rfl⟩
              replace hM := nm_at hM ex26
              refine lv_iinc (v := x26) (lv' := [(5, .int x26), (0, .ref (zA 0)), (1, .int (1 : Int32)), (2, .long y4), (4, .int x5)]) hx hb dX0_reaches_92 hl (k := 4) rfl (by rw [ex26]; rfl) (by decide) rfl (fun ls hl => ?_)
              refine lv_goto (tgt := 55) hx hb dX0_reaches_95 (by decide) ?_
              exact ih19 x26 zZ_23 gS_24 hM H locs ls hP hS (lv_sub hl [1, 2, 3, 4, 0] rfl)
            · refine lv_if_eq (tgt := 92) hx hb dX0_reaches_77 (by decide) (fun c27 => ?_) (fun c27 => ?_)
              · replace hM := if_at_pos hM c27
                exact hJ25 zZ_17 gS_18 hM H locs ls hP hS (lv_sub hl [0, 1, 2, 3, 4] rfl)
              · replace hM := if_at_neg hM c27
                refine lv_aload_n hx hb dX0_reaches_80 rfl (lv_at hl 0 rfl) ?_
                refine lv_iload hx hb dX0_reaches_81 (lv_at hl 4 rfl) ?_
                refine lv_iload_n hx hb dX0_reaches_83 rfl (lv_at hl 1 rfl) ?_
                obtain ⟨r28, zZ_29, gS_30, hc31, hM⟩ := bnd3_at hM
                refine co_i (va_runS (As := [.ref (zA 0), .int x16, .int (1 : Int32)]) (rest := []) ⟨hx, hb, hml, hown, hts⟩ (ctX0_reachesBy_1 l D Y zA aS hT vS H.size zZ_17 lZ gS_18 tT x16 r28 zZ_29 gS_30 hc31) ⟨callB_of 3 hts ggX0_reaches_X0_reachesBy rfl rfl rfl (hts (.initialized RX0) (List.mem_of_getElem? (i := 17) rfl)) (hts (.methodLink RX0 63 yX0_reachesBy) (List.mem_of_getElem? (i := 21) rfl)) (by decide +kernel) ⟨Nat.le_of_ble_eq_true rfl, Nat.le_of_ble_eq_true rfl⟩, (hts (.static yX0_reachesBy) (List.mem_of_getElem? (i := 22) rfl))⟩ (pcN_S hNF (pcW_S0 hK hP (hD.same rfl))) rfl rfl hl.1 rfl (lv_room (Nat.le_of_ble_eq_true rfl)) dX0_reaches_84 ⟨Nat.zero_le _, Nat.zero_le _⟩) (hD.same rfl) hS hA (fun H locs hP hS => ?_)
                refine lv_if_eq (tgt := 92) hx hb dX0_reaches_87 (by decide) (fun c32 => ?_) (fun c32 => ?_)
                · replace hM := if_at_pos hM c32
                  exact hJ25 zZ_29 gS_30 hM H locs ls hP hS (lv_sub hl [0, 1, 2, 3, 4] rfl)
                · replace hM := if_at_neg hM c32
                  exact hJ15 zZ_29 gS_30 hM H locs ls hP hS (lv_sub hl [] rfl)
    · replace hM := if_at_pos hM c7
      refine lv_iconst (v := (0 : Int32)) hx hb dX0_reaches_50 (by decide) ?_
      cases hM
      rw [hQQ]
      exact W.zret (ty := .boolean) hx hb hr rfl (fun t ht hW => ⟨⟨_, (), rfl, rfl, by show va_P D vwCl _ t.heap; rw [ht]; exact hP⟩, hS.F ht⟩) hS.2.2 dX0_reaches_51
noncomputable def BX0_reaches_2B_55 (tT : GS) (k11 : GS → (Nat → Int64) → GS → Option (Int32 × GS × (Nat → Int64) × GS)) (k17 : GS → (Nat → Int64) → GS → Option (Int32 × GS × (Nat → Int64) × GS)) (rec22 : Int32 → GS → (Nat → Int64) → GS → Option (Int32 × GS × (Nat → Int64) × GS)) (x18 : Int32) (zZ_19 : GS) (lZ_20 : Nat → Int64) (gS_21 : GS) : Option (Int32 × GS × (Nat → Int64) × GS) := if (tT 0 1) ≤ x18 then (k11 zZ_19 lZ_20 gS_21) else (bnd1 (MX0_mayHelp zZ_19 x18 (2 : Int32)) fun (r24 : Int32) => jn3 (fun (zZ_26 : GS) (lZ_27 : Nat → Int64) (gS_28 : GS) => nm (x18 + 1) fun (x30 : Int32) => rec22 x30 zZ_26 lZ_27 gS_28) (fun k29 => if r24 = 0 then (k29 zZ_19 lZ_20 gS_21) else (bnd4 (MX0_reachesBy_2 zZ_19 lZ_20 gS_21 tT x18) fun (r32 : Int32) (zZ_33 : GS) (lZ_34 : Nat → Int64) (gS_35 : GS) => if r32 = 0 then (k29 zZ_33 lZ_34 gS_35) else (k17 zZ_33 lZ_34 gS_35))))
noncomputable def MX0_reaches_2B (zZ : GS) (lZ : Nat → Int64) (gS : GS) (tT : GS) : Option (Int32 × GS × (Nat → Int64) × GS) := jn0 (some ((0 : Int32), zZ, lZ, gS)) (fun k1 => bnd1 (MX1_placesKey gS tT) fun (r2 : Int64) => nm ((r2 * (8 : Int64)) + ((2 : Int32).toInt64)) fun (y4 : Int64) => nm ((((y4 * (-7046029254386353131 : Int64)).toUInt64 >>> ((52 : Int32).toInt64.toUInt64 &&& Int64.toUInt64 63)).toInt64).toInt32) fun (x5 : Int32) => chkI x5 4096 (if (lg_cmp (lZ x5.toNatClampNeg) y4) = 0 then (some ((0 : Int32), zZ, lZ, gS)) else (jn3 (fun (zZ_8 : GS) (lZ_9 : Nat → Int64) (gS_10 : GS) => chkI x5 4096 (nm (vp_updL lZ_9 x5.toNatClampNeg y4) fun (lZ_13 : Nat → Int64) => some ((0 : Int32), zZ_8, lZ_13, gS_10))) (fun k11 => jn3 (fun (zZ_14 : GS) (lZ_15 : Nat → Int64) (gS_16 : GS) => some ((1 : Int32), zZ_14, lZ_15, gS_16)) (fun k17 => lq4 (BX0_reaches_2B_55 tT k11 k17) FU (0 : Int32) zZ lZ gS)))))
abbrev rmX0_reaches_2B : Room := { frames := 14, cells := 0, slots := 0, locals := 560 }
set_option maxHeartbeats 4000000 in
set_option maxRecDepth 100000 in
theorem ctX0_reaches_2B (l : Launch) (D : va_G) (Y : Nat → ClassId) (zA : Nat → Nat) (aS : Nat → Nat) (hT : Nat → Nat) (vS : Nat) (sz : Nat) (zZ : GS) (lZ : Nat → Int64) (gS : GS) (tT : GS) (rr : Int32) (zZz : GS) (lZz : Nat → Int64) (gSz : GS) (hM : MX0_reaches_2B zZ lZ gS tT = some (rr, zZz, lZz, gSz)) : Met l yX0_reaches wsX0_reaches rmX0_reaches_2B (pcN [.ref (zA 0), .int (2 : Int32)] sz D Y (cSearch Y zA (aS 0) zZ lZ ++ cStand Y aS (hT 0) vS gS ++ cTold Y hT tT)) (qiW rr D (cSearch Y zA (aS 0) zZz lZz ++ cStand Y aS (hT 0) vS gSz ++ cTold Y hT tT) (va_A (cSearch Y zA (aS 0) zZ lZ ++ cStand Y aS (hT 0) vS gS ++ cTold Y hT tT) sz)) 0 0 (va_A (cSearch Y zA (aS 0) zZ lZ ++ cStand Y aS (hT 0) vS gS ++ cTold Y hT tT) sz) := by
  refine Met.ofW (cc := cX0_reaches) (maxL := 6) (ret := (some .boolean)) (by decide) rfl ?_
  intro p e s m args below meth c s₁ B hml hv
  obtain ⟨⟨rfl, hsz, hP, hK, hD0⟩, hNF⟩ := hv
  have hx := B.exec
  have hb := B.bytes
  have hr := B.returns
  have hts := atoms_spec (ws := wsX0_reaches) B.pre
  have hown : s.vm.findClass RX0 = some m.cls := findClass_of_methodNamed B.named
  have hlocks := B.notSynchronized
  subst hsz
  have hD := hD0.self (sz := s.heap.size)
  generalize hAe : va_A (cSearch Y zA (aS 0) zZ lZ ++ cStand Y aS (hT 0) vS gS ++ cTold Y hT tT) s.heap.size = A at hD ⊢
  have hA : ∀ q : Nat, s.heap.size ≤ q → A q := fun q h => by rw [← hAe]; exact Or.inr h
  have hS : va_S A s.heap s.heap [] := va_S.rf
  have hi0 : ∀ w ∈ wsX00, w ∈ wsX0_reaches := fun w h => List.mem_cons_of_mem _ (List.mem_append_left _ (List.mem_append_left _ (List.mem_append_right _ h)))
  have hi1 : ∀ w ∈ wsX10, w ∈ wsX0_reaches := fun w h => List.mem_cons_of_mem _ (List.mem_append_left _ (List.mem_append_right _ h))
  have hi3 : ∀ w ∈ wsX30, w ∈ wsX0_reaches := fun w h => List.mem_cons_of_mem _ (List.mem_append_right _ h)
  have hl := lv_entry ([.ref (zA 0), .int (2 : Int32)]) (n := 6) (Nat.le_of_ble_eq_true rfl)
  rw [lg_entry_eq]
  generalize (lg_sl ([.ref (zA 0), .int (2 : Int32)]) ++ List.replicate (6 - (lg_sl ([.ref (zA 0), .int (2 : Int32)])).length) Slot.unset).toArray = ls at hl ⊢
  have hl : lv_has ls 6 [(0, .ref (zA 0)), (1, .int (2 : Int32))] := hl
  obtain ⟨QQ, hQQ⟩ : ∃ Q : State → Prop, Q = MQ below (qiW rr D (cSearch Y zA (aS 0) zZz lZz ++ cStand Y aS (hT 0) vS gSz ++ cTold Y hT tT) A) ([.ref (zA 0), .int (2 : Int32)] : List Value).toArray s 0 0 A := ⟨_, rfl⟩
  rw [← hQQ]
  unfold MX0_reaches_2B at hM
  suffices hI : ∀ (H : Heap) (locs : List Loc), va_P D vwCl (cSearch Y zA (aS 0) zZ lZ ++ cStand Y aS (hT 0) vS gS ++ cTold Y hT tT) H → va_S A s.heap H locs → W p l e (headSpec wsX0_reaches rmX0_reaches_2B).room s m ([.ref (zA 0), .int (2 : Int32)] : List Value).toArray below meth c H locs 0 0 QQ (F0 m 0 ls []) from hI _ _ hP hS
  clear hP hS
  intro H locs hP hS
  refine lv_iload_n hx hb dX0_reaches_0 rfl (lv_at hl 1 rfl) ?_
  refine lv_iconst (v := (1 : Int32)) hx hb dX0_reaches_1 (by decide) ?_
  refine jn0_at (∀ (H : Heap) (locs : List Loc) (ls : Array Slot), va_P D vwCl (cSearch Y zA (aS 0) zZ lZ ++ cStand Y aS (hT 0) vS gS ++ cTold Y hT tT) H → va_S A s.heap H locs → lv_has ls 6 [] → W p l e (headSpec wsX0_reaches rmX0_reaches_2B).room s m ([.ref (zA 0), .int (2 : Int32)] : List Value).toArray below meth c H locs 0 0 QQ (F0 m 10 ls [])) hM (fun  hM H locs ls hP hS hl => ?_) (fun k1 hJ1 hM => ?_)
  · refine lv_iconst (v := (0 : Int32)) hx hb dX0_reaches_10 (by decide) ?_
    cases hM
    rw [hQQ]
    exact W.zret (ty := .boolean) hx hb hr rfl (fun t ht hW => ⟨⟨_, (), rfl, rfl, by show va_P D vwCl _ t.heap; rw [ht]; exact hP⟩, hS.F ht⟩) hS.2.2 dX0_reaches_11
  · refine lv_icmp_lt (tgt := 10) hx hb dX0_reaches_2 (by decide) (fun c => absurd c (by decide)) (fun _ => ?_)
    refine lv_iload_n hx hb dX0_reaches_5 rfl (lv_at hl 1 rfl) ?_
    refine lv_iconst (v := (5 : Int32)) hx hb dX0_reaches_6 (by decide) ?_
    refine lv_icmp_le (tgt := 12) hx hb dX0_reaches_7 (by decide) (fun _ => ?_) (fun c => absurd c (by decide))
    refine lv_aload_n hx hb dX0_reaches_12 rfl (lv_at hl 0 rfl) ?_
    refine va_get hx hb hts hi0 hown hK hP 0 rfl rfl 0 (by decide) (hts (.fieldLink RX0 20 "NightPlots$Search" "standing" "LNightPlots$Standing;") (List.mem_of_getElem? (i := 1) rfl)) (fun _ h9 => h9) rfl dX0_reaches_13 ?_
    obtain ⟨r2, hc3, hM⟩ := bnd1_at hM
    refine cm_l (w2 := (cSearch Y zA (aS 0) zZ lZ ++ cStand Y aS (hT 0) vS gS ++ cTold Y hT tT)) (va_runV (As := []) (rest := []) ⟨hx, hb, hml, hown, hts⟩ (ctX1_placesKey l D Y aS hT vS H.size gS tT r2 hc3) (cwV 0 hts gX0_reaches_X1_placesKey rfl rfl rfl (by decide +kernel) ⟨Nat.le_of_ble_eq_true rfl, Nat.le_of_ble_eq_true rfl⟩) (pcW_V (ci := 1) (q0 := 9) hK hP (hD.same rfl) [9, 10, 11, 12, 13, 14, 15, 16, 17, 18, 19] rfl (pc_map (pc_cons rfl (pc_cons rfl (pc_cons rfl (pc_cons rfl (pc_cons rfl (pc_cons rfl (pc_cons rfl (pc_cons rfl (pc_cons rfl (pc_cons rfl (pc_cons rfl pc_nil)))))))))))) rfl rfl) rfl rfl hl.1 rfl (lv_room (Nat.le_of_ble_eq_true rfl)) dX0_reaches_16 ⟨Nat.zero_le _, Nat.zero_le _⟩) hP (hD.same rfl) hS hA [9, 10, 11, 12, 13, 14, 15, 16, 17, 18, 19] (pc_map (pc_cons rfl (pc_cons rfl (pc_cons rfl (pc_cons rfl (pc_cons rfl (pc_cons rfl (pc_cons rfl (pc_cons rfl (pc_cons rfl (pc_cons rfl (pc_cons rfl pc_nil)))))))))))) (up_old rfl rfl (up_old rfl rfl (up_old rfl rfl (up_old rfl rfl (up_old rfl rfl (up_old rfl rfl (up_old rfl rfl (up_old rfl rfl (up_old rfl rfl (up_new 0 rfl (up_new 1 rfl (up_new 2 rfl (up_new 3 rfl (up_new 4 rfl (up_new 5 rfl (up_new 6 rfl (up_new 7 rfl (up_new 8 rfl (up_new 9 rfl (up_new 10 rfl up_nil)))))))))))))))))))) (fun H locs hP hS => ?_)
    refine lv_ldc2 (v := (8 : Int64)) hx hb hown (hts (.constantLong RX0 46 (8)) (List.mem_of_getElem? (i := 2) rfl)) dX0_reaches_19 ?_
    refine lv_lmul hx hb dX0_reaches_22 ?_
    refine lv_iload_n hx hb dX0_reaches_23 rfl (lv_at hl 1 rfl) ?_
    refine lv_i2l (v := (2 : Int32).toInt64) hx hb dX0_reaches_24 rfl ?_
    refine lv_ladd hx hb dX0_reaches_25 ?_
    refine lv_topl (fun y4 ey4 => ?_)
    replace hM := nm_at hM ey4
    refine lv_lstore_n (lv' := [(2, .long y4), (0, .ref (zA 0)), (1, .int (2 : Int32))]) hx hb dX0_reaches_26 rfl hl (by decide) rfl (fun ls hl => ?_)
    refine lv_lload_n hx hb dX0_reaches_27 rfl (lv_at hl 0 rfl) ?_
    refine lv_ldc2 (v := (-7046029254386353131 : Int64)) hx hb hown (hts (.constantLong RX0 48 (-7046029254386353131)) (List.mem_of_getElem? (i := 3) rfl)) dX0_reaches_28 ?_
    refine lv_lmul hx hb dX0_reaches_31 ?_
    refine lv_bipush (v := (52 : Int32)) hx hb dX0_reaches_32 (by decide) ?_
    refine lv_lushr (v := ((y4 * (-7046029254386353131 : Int64)).toUInt64 >>> ((52 : Int32).toInt64.toUInt64 &&& Int64.toUInt64 63)).toInt64) hx hb dX0_reaches_34 rfl ?_
    refine lv_l2i (v := (((y4 * (-7046029254386353131 : Int64)).toUInt64 >>> ((52 : Int32).toInt64.toUInt64 &&& Int64.toUInt64 63)).toInt64).toInt32) hx hb dX0_reaches_35 rfl ?_
    refine lv_topi (fun x5 ex5 => ?_)
    replace hM := nm_at hM ex5
    refine lv_istore (lv' := [(4, .int x5), (2, .long y4), (0, .ref (zA 0)), (1, .int (2 : Int32))]) hx hb dX0_reaches_36 hl (by decide) rfl (fun ls hl => ?_)
    refine lv_aload_n hx hb dX0_reaches_38 rfl (lv_at hl 2 rfl) ?_
    refine va_get hx hb hts hi0 hown hK hP 0 rfl rfl 2 (by decide) (hts (.fieldLink RX0 16 "NightPlots$Search" "deadEnds" "[J") (List.mem_of_getElem? (i := 4) rfl)) (fun _ h9 => h9) rfl dX0_reaches_39 ?_
    refine lv_iload hx hb dX0_reaches_42 (lv_at hl 0 rfl) ?_
    obtain ⟨hi_6, hM⟩ := chkI_at hM
    refine va_lald hx hb hK hP 2 1 rfl rfl hi_6 dX0_reaches_44 ?_
    refine lv_lload_n hx hb dX0_reaches_45 rfl (lv_at hl 1 rfl) ?_
    refine W.lcmp hx hb dX0_reaches_46 ?_
    refine lv_if_ne (tgt := 52) hx hb dX0_reaches_47 (by decide) (fun c7 => ?_) (fun c7 => ?_)
    · replace hM := if_at_neg hM c7
      refine lv_iconst (v := (0 : Int32)) hx hb dX0_reaches_52 (by decide) ?_
      refine lv_istore (lv' := [(5, .int (0 : Int32)), (4, .int x5), (2, .long y4), (0, .ref (zA 0)), (1, .int (2 : Int32))]) hx hb dX0_reaches_53 hl (by decide) rfl (fun ls hl => ?_)
      refine jn3_at (fun (zZ_8 : GS) (lZ_9 : Nat → Int64) (gS_10 : GS) => ∀ (H : Heap) (locs : List Loc) (ls : Array Slot), va_P D vwCl (cSearch Y zA (aS 0) zZ_8 lZ_9 ++ cStand Y aS (hT 0) vS gS_10 ++ cTold Y hT tT) H → va_S A s.heap H locs → lv_has ls 6 [(0, .ref (zA 0)), (2, .long y4), (4, .int x5)] → W p l e (headSpec wsX0_reaches rmX0_reaches_2B).room s m ([.ref (zA 0), .int (2 : Int32)] : List Value).toArray below meth c H locs 0 0 QQ (F0 m 98 ls [])) hM (fun zZ_8 lZ_9 gS_10 hM H locs ls hP hS hl => ?_) (fun k11 hJ11 hM => ?_)
      · refine lv_aload_n hx hb dX0_reaches_98 rfl (lv_at hl 0 rfl) ?_
        refine va_get hx hb hts hi0 hown hK hP 0 rfl rfl 2 (by decide) (hts (.fieldLink RX0 16 "NightPlots$Search" "deadEnds" "[J") (List.mem_of_getElem? (i := 4) rfl)) (fun _ h9 => h9) rfl dX0_reaches_99 ?_
        refine lv_iload hx hb dX0_reaches_102 (lv_at hl 2 rfl) ?_
        refine lv_lload_n hx hb dX0_reaches_104 rfl (lv_at hl 1 rfl) ?_
        obtain ⟨hi_12, hM⟩ := chkI_at hM
        refine va_last hx hb hK hP (hD.same rfl) hS 2 1 rfl rfl hi_12 dX0_reaches_105 (fun H locs hP _ hS => ?_)
        obtain ⟨lZ_13, elZ_13⟩ : ∃ z : Nat → Int64, z = (vp_updL lZ_9 x5.toNatClampNeg y4) := ⟨_, rfl⟩
        have hP : va_P D vwCl (cSearch Y zA (aS 0) zZ_8 lZ_13 ++ cStand Y aS (hT 0) vS gS_10 ++ cTold Y hT tT) H := by rw [elZ_13]; exact hP
        replace hM := nm_at hM elZ_13
        refine lv_iconst (v := (0 : Int32)) hx hb dX0_reaches_106 (by decide) ?_
        cases hM
        rw [hQQ]
        exact W.zret (ty := .boolean) hx hb hr rfl (fun t ht hW => ⟨⟨_, (), rfl, rfl, by show va_P D vwCl _ t.heap; rw [ht]; exact hP⟩, hS.F ht⟩) hS.2.2 dX0_reaches_107
      · refine jn3_at (fun (zZ_14 : GS) (lZ_15 : Nat → Int64) (gS_16 : GS) => ∀ (H : Heap) (locs : List Loc) (ls : Array Slot), va_P D vwCl (cSearch Y zA (aS 0) zZ_14 lZ_15 ++ cStand Y aS (hT 0) vS gS_16 ++ cTold Y hT tT) H → va_S A s.heap H locs → lv_has ls 6 [] → W p l e (headSpec wsX0_reaches rmX0_reaches_2B).room s m ([.ref (zA 0), .int (2 : Int32)] : List Value).toArray below meth c H locs 0 0 QQ (F0 m 90 ls [])) hM (fun zZ_14 lZ_15 gS_16 hM H locs ls hP hS hl => ?_) (fun k17 hJ17 hM => ?_)
        · refine lv_iconst (v := (1 : Int32)) hx hb dX0_reaches_90 (by decide) ?_
          cases hM
          rw [hQQ]
          exact W.zret (ty := .boolean) hx hb hr rfl (fun t ht hW => ⟨⟨_, (), rfl, rfl, by show va_P D vwCl _ t.heap; rw [ht]; exact hP⟩, hS.F ht⟩) hS.2.2 dX0_reaches_91
        · refine lq4_at (fun (x18 : Int32) (zZ_19 : GS) (lZ_20 : Nat → Int64) (gS_21 : GS) => ∀ (H : Heap) (locs : List Loc) (ls : Array Slot), va_P D vwCl (cSearch Y zA (aS 0) zZ_19 lZ_20 ++ cStand Y aS (hT 0) vS gS_21 ++ cTold Y hT tT) H → va_S A s.heap H locs → lv_has ls 6 [(0, .ref (zA 0)), (1, .int (2 : Int32)), (2, .long y4), (4, .int x5), (5, .int x18)] → W p l e (headSpec wsX0_reaches rmX0_reaches_2B).room s m ([.ref (zA 0), .int (2 : Int32)] : List Value).toArray below meth c H locs 0 0 QQ (F0 m 55 ls [])) (fun rec22 x18 zZ_19 lZ_20 gS_21 ih22 hM H locs ls hP hS hl => ?_) FU (0 : Int32) zZ lZ gS hM H locs ls hP hS (lv_sub hl [3, 4, 2, 1, 0] rfl)
          unfold BX0_reaches_2B_55 at hM
          refine lv_iload hx hb dX0_reaches_55 (lv_at hl 4 rfl) ?_
          refine lv_aload_n hx hb dX0_reaches_57 rfl (lv_at hl 0 rfl) ?_
          refine va_get hx hb hts hi0 hown hK hP 0 rfl rfl 0 (by decide) (hts (.fieldLink RX0 20 "NightPlots$Search" "standing" "LNightPlots$Standing;") (List.mem_of_getElem? (i := 1) rfl)) (fun _ h9 => h9) rfl dX0_reaches_58 ?_
          refine va_getN hx hb hts hi1 hown hK hP 9 rfl rfl 0 (by decide) (hNF.use rfl) (fun _ h9 => h9) rfl dX0_reaches_61 ?_
          refine va_get hx hb hts hi3 hown hK hP 12 rfl rfl 1 (by decide) (hts (.fieldLink RX0 54 "NightPlots$Told" "houses" "I") (List.mem_of_getElem? (i := 5) rfl)) (fun _ h9 => h9) rfl dX0_reaches_64 ?_
          refine lv_icmp_ge (tgt := 98) hx hb dX0_reaches_67 (by decide) (fun c23 => ?_) (fun c23 => ?_)
          · replace hM := if_at_pos hM c23
            exact hJ11 zZ_19 lZ_20 gS_21 hM H locs ls hP hS (lv_sub hl [0, 2, 3] rfl)
          · replace hM := if_at_neg hM c23
            refine lv_aload_n hx hb dX0_reaches_70 rfl (lv_at hl 0 rfl) ?_
            refine lv_iload hx hb dX0_reaches_71 (lv_at hl 4 rfl) ?_
            refine lv_iload_n hx hb dX0_reaches_73 rfl (lv_at hl 1 rfl) ?_
            obtain ⟨r24, hc25, hM⟩ := bnd1_at hM
            refine cm_i (w2 := (cSearch Y zA (aS 0) zZ_19 lZ_20 ++ cStand Y aS (hT 0) vS gS_21 ++ cTold Y hT tT)) (va_runV (As := [.int x18, .int (2 : Int32)]) (rest := []) ⟨hx, hb, hml, hown, hts⟩ (ctX0_mayHelp l D Y zA (aS 0) H.size zZ_19 lZ_20 x18 (2 : Int32) r24 hc25) (cwV 2 hts gX0_reaches_X0_mayHelp rfl rfl rfl (by decide +kernel) ⟨Nat.le_of_ble_eq_true rfl, Nat.le_of_ble_eq_true rfl⟩) (pcW_V (ci := 0) (q0 := 0) hK hP (hD.same rfl) [0, 1, 2, 3, 4, 5, 6, 7, 8] rfl (pc_map (pc_cons rfl (pc_cons rfl (pc_cons rfl (pc_cons rfl (pc_cons rfl (pc_cons rfl (pc_cons rfl (pc_cons rfl (pc_cons rfl pc_nil)))))))))) rfl rfl) rfl rfl hl.1 rfl (lv_room (Nat.le_of_ble_eq_true rfl)) dX0_reaches_74 ⟨Nat.zero_le _, Nat.zero_le _⟩) hP (hD.same rfl) hS hA [0, 1, 2, 3, 4, 5, 6, 7, 8] (pc_map (pc_cons rfl (pc_cons rfl (pc_cons rfl (pc_cons rfl (pc_cons rfl (pc_cons rfl (pc_cons rfl (pc_cons rfl (pc_cons rfl pc_nil)))))))))) (up_new 0 rfl (up_new 1 rfl (up_new 2 rfl (up_new 3 rfl (up_new 4 rfl (up_new 5 rfl (up_new 6 rfl (up_new 7 rfl (up_new 8 rfl (up_old rfl rfl (up_old rfl rfl (up_old rfl rfl (up_old rfl rfl (up_old rfl rfl (up_old rfl rfl (up_old rfl rfl (up_old rfl rfl (up_old rfl rfl (up_old rfl rfl (up_old rfl rfl up_nil)))))))))))))))))))) (fun H locs hP hS => ?_)
            refine jn3_at (fun (zZ_26 : GS) (lZ_27 : Nat → Int64) (gS_28 : GS) => ∀ (H : Heap) (locs : List Loc) (ls : Array Slot), va_P D vwCl (cSearch Y zA (aS 0) zZ_26 lZ_27 ++ cStand Y aS (hT 0) vS gS_28 ++ cTold Y hT tT) H → va_S A s.heap H locs → lv_has ls 6 [(0, .ref (zA 0)), (1, .int (2 : Int32)), (2, .long y4), (4, .int x5), (5, .int x18)] → W p l e (headSpec wsX0_reaches rmX0_reaches_2B).room s m ([.ref (zA 0), .int (2 : Int32)] : List Value).toArray below meth c H locs 0 0 QQ (F0 m 92 ls [])) hM (fun zZ_26 lZ_27 gS_28 hM H locs ls hP hS hl => ?_) (fun k29 hJ29 hM => ?_)
            · obtain ⟨x30, ex30⟩ : ∃ z : Int32, z = (x18 + 1) := ⟨_, rfl⟩
              replace hM := nm_at hM ex30
              refine lv_iinc (v := x30) (lv' := [(5, .int x30), (0, .ref (zA 0)), (1, .int (2 : Int32)), (2, .long y4), (4, .int x5)]) hx hb dX0_reaches_92 hl (k := 4) rfl (by rw [ex30]; rfl) (by decide) rfl (fun ls hl => ?_)
              refine lv_goto (tgt := 55) hx hb dX0_reaches_95 (by decide) ?_
              exact ih22 x30 zZ_26 lZ_27 gS_28 hM H locs ls hP hS (lv_sub hl [1, 2, 3, 4, 0] rfl)
            · refine lv_if_eq (tgt := 92) hx hb dX0_reaches_77 (by decide) (fun c31 => ?_) (fun c31 => ?_)
              · replace hM := if_at_pos hM c31
                exact hJ29 zZ_19 lZ_20 gS_21 hM H locs ls hP hS (lv_sub hl [0, 1, 2, 3, 4] rfl)
              · replace hM := if_at_neg hM c31
                refine lv_aload_n hx hb dX0_reaches_80 rfl (lv_at hl 0 rfl) ?_
                refine lv_iload hx hb dX0_reaches_81 (lv_at hl 4 rfl) ?_
                refine lv_iload_n hx hb dX0_reaches_83 rfl (lv_at hl 1 rfl) ?_
                obtain ⟨r32, zZ_33, lZ_34, gS_35, hc36, hM⟩ := bnd4_at hM
                refine co_i (va_runS (As := [.ref (zA 0), .int x18, .int (2 : Int32)]) (rest := []) ⟨hx, hb, hml, hown, hts⟩ (ctX0_reachesBy_2 l D Y zA aS hT vS H.size zZ_19 lZ_20 gS_21 tT x18 r32 zZ_33 lZ_34 gS_35 hc36) ⟨callB_of 3 hts ggX0_reaches_X0_reachesBy rfl rfl rfl (hts (.initialized RX0) (List.mem_of_getElem? (i := 17) rfl)) (hts (.methodLink RX0 63 yX0_reachesBy) (List.mem_of_getElem? (i := 21) rfl)) (by decide +kernel) ⟨Nat.le_of_ble_eq_true rfl, Nat.le_of_ble_eq_true rfl⟩, (hts (.static yX0_reachesBy) (List.mem_of_getElem? (i := 22) rfl))⟩ (pcN_S hNF (pcW_S0 hK hP (hD.same rfl))) rfl rfl hl.1 rfl (lv_room (Nat.le_of_ble_eq_true rfl)) dX0_reaches_84 ⟨Nat.zero_le _, Nat.zero_le _⟩) (hD.same rfl) hS hA (fun H locs hP hS => ?_)
                refine lv_if_eq (tgt := 92) hx hb dX0_reaches_87 (by decide) (fun c37 => ?_) (fun c37 => ?_)
                · replace hM := if_at_pos hM c37
                  exact hJ29 zZ_33 lZ_34 gS_35 hM H locs ls hP hS (lv_sub hl [0, 1, 2, 3, 4] rfl)
                · replace hM := if_at_neg hM c37
                  exact hJ17 zZ_33 lZ_34 gS_35 hM H locs ls hP hS (lv_sub hl [] rfl)
    · replace hM := if_at_pos hM c7
      refine lv_iconst (v := (0 : Int32)) hx hb dX0_reaches_50 (by decide) ?_
      cases hM
      rw [hQQ]
      exact W.zret (ty := .boolean) hx hb hr rfl (fun t ht hW => ⟨⟨_, (), rfl, rfl, by show va_P D vwCl _ t.heap; rw [ht]; exact hP⟩, hS.F ht⟩) hS.2.2 dX0_reaches_51
noncomputable def BX0_reaches_3B_55 (tT : GS) (k11 : GS → (Nat → Int64) → GS → Option (Int32 × GS × (Nat → Int64) × GS)) (k17 : GS → (Nat → Int64) → GS → Option (Int32 × GS × (Nat → Int64) × GS)) (rec22 : Int32 → GS → (Nat → Int64) → GS → Option (Int32 × GS × (Nat → Int64) × GS)) (x18 : Int32) (zZ_19 : GS) (lZ_20 : Nat → Int64) (gS_21 : GS) : Option (Int32 × GS × (Nat → Int64) × GS) := if (tT 0 1) ≤ x18 then (k11 zZ_19 lZ_20 gS_21) else (bnd1 (MX0_mayHelp zZ_19 x18 (3 : Int32)) fun (r24 : Int32) => jn3 (fun (zZ_26 : GS) (lZ_27 : Nat → Int64) (gS_28 : GS) => nm (x18 + 1) fun (x30 : Int32) => rec22 x30 zZ_26 lZ_27 gS_28) (fun k29 => if r24 = 0 then (k29 zZ_19 lZ_20 gS_21) else (bnd4 (MX0_reachesBy_3 zZ_19 lZ_20 gS_21 tT x18) fun (r32 : Int32) (zZ_33 : GS) (lZ_34 : Nat → Int64) (gS_35 : GS) => if r32 = 0 then (k29 zZ_33 lZ_34 gS_35) else (k17 zZ_33 lZ_34 gS_35))))
noncomputable def MX0_reaches_3B (zZ : GS) (lZ : Nat → Int64) (gS : GS) (tT : GS) : Option (Int32 × GS × (Nat → Int64) × GS) := jn0 (some ((0 : Int32), zZ, lZ, gS)) (fun k1 => bnd1 (MX1_placesKey gS tT) fun (r2 : Int64) => nm ((r2 * (8 : Int64)) + ((3 : Int32).toInt64)) fun (y4 : Int64) => nm ((((y4 * (-7046029254386353131 : Int64)).toUInt64 >>> ((52 : Int32).toInt64.toUInt64 &&& Int64.toUInt64 63)).toInt64).toInt32) fun (x5 : Int32) => chkI x5 4096 (if (lg_cmp (lZ x5.toNatClampNeg) y4) = 0 then (some ((0 : Int32), zZ, lZ, gS)) else (jn3 (fun (zZ_8 : GS) (lZ_9 : Nat → Int64) (gS_10 : GS) => chkI x5 4096 (nm (vp_updL lZ_9 x5.toNatClampNeg y4) fun (lZ_13 : Nat → Int64) => some ((0 : Int32), zZ_8, lZ_13, gS_10))) (fun k11 => jn3 (fun (zZ_14 : GS) (lZ_15 : Nat → Int64) (gS_16 : GS) => some ((1 : Int32), zZ_14, lZ_15, gS_16)) (fun k17 => lq4 (BX0_reaches_3B_55 tT k11 k17) FU (0 : Int32) zZ lZ gS)))))
abbrev rmX0_reaches_3B : Room := { frames := 14, cells := 0, slots := 0, locals := 560 }
set_option maxHeartbeats 4000000 in
set_option maxRecDepth 100000 in
theorem ctX0_reaches_3B (l : Launch) (D : va_G) (Y : Nat → ClassId) (zA : Nat → Nat) (aS : Nat → Nat) (hT : Nat → Nat) (vS : Nat) (sz : Nat) (zZ : GS) (lZ : Nat → Int64) (gS : GS) (tT : GS) (rr : Int32) (zZz : GS) (lZz : Nat → Int64) (gSz : GS) (hM : MX0_reaches_3B zZ lZ gS tT = some (rr, zZz, lZz, gSz)) : Met l yX0_reaches wsX0_reaches rmX0_reaches_3B (pcN [.ref (zA 0), .int (3 : Int32)] sz D Y (cSearch Y zA (aS 0) zZ lZ ++ cStand Y aS (hT 0) vS gS ++ cTold Y hT tT)) (qiW rr D (cSearch Y zA (aS 0) zZz lZz ++ cStand Y aS (hT 0) vS gSz ++ cTold Y hT tT) (va_A (cSearch Y zA (aS 0) zZ lZ ++ cStand Y aS (hT 0) vS gS ++ cTold Y hT tT) sz)) 0 0 (va_A (cSearch Y zA (aS 0) zZ lZ ++ cStand Y aS (hT 0) vS gS ++ cTold Y hT tT) sz) := by
  refine Met.ofW (cc := cX0_reaches) (maxL := 6) (ret := (some .boolean)) (by decide) rfl ?_
  intro p e s m args below meth c s₁ B hml hv
  obtain ⟨⟨rfl, hsz, hP, hK, hD0⟩, hNF⟩ := hv
  have hx := B.exec
  have hb := B.bytes
  have hr := B.returns
  have hts := atoms_spec (ws := wsX0_reaches) B.pre
  have hown : s.vm.findClass RX0 = some m.cls := findClass_of_methodNamed B.named
  have hlocks := B.notSynchronized
  subst hsz
  have hD := hD0.self (sz := s.heap.size)
  generalize hAe : va_A (cSearch Y zA (aS 0) zZ lZ ++ cStand Y aS (hT 0) vS gS ++ cTold Y hT tT) s.heap.size = A at hD ⊢
  have hA : ∀ q : Nat, s.heap.size ≤ q → A q := fun q h => by rw [← hAe]; exact Or.inr h
  have hS : va_S A s.heap s.heap [] := va_S.rf
  have hi0 : ∀ w ∈ wsX00, w ∈ wsX0_reaches := fun w h => List.mem_cons_of_mem _ (List.mem_append_left _ (List.mem_append_left _ (List.mem_append_right _ h)))
  have hi1 : ∀ w ∈ wsX10, w ∈ wsX0_reaches := fun w h => List.mem_cons_of_mem _ (List.mem_append_left _ (List.mem_append_right _ h))
  have hi3 : ∀ w ∈ wsX30, w ∈ wsX0_reaches := fun w h => List.mem_cons_of_mem _ (List.mem_append_right _ h)
  have hl := lv_entry ([.ref (zA 0), .int (3 : Int32)]) (n := 6) (Nat.le_of_ble_eq_true rfl)
  rw [lg_entry_eq]
  generalize (lg_sl ([.ref (zA 0), .int (3 : Int32)]) ++ List.replicate (6 - (lg_sl ([.ref (zA 0), .int (3 : Int32)])).length) Slot.unset).toArray = ls at hl ⊢
  have hl : lv_has ls 6 [(0, .ref (zA 0)), (1, .int (3 : Int32))] := hl
  obtain ⟨QQ, hQQ⟩ : ∃ Q : State → Prop, Q = MQ below (qiW rr D (cSearch Y zA (aS 0) zZz lZz ++ cStand Y aS (hT 0) vS gSz ++ cTold Y hT tT) A) ([.ref (zA 0), .int (3 : Int32)] : List Value).toArray s 0 0 A := ⟨_, rfl⟩
  rw [← hQQ]
  unfold MX0_reaches_3B at hM
  suffices hI : ∀ (H : Heap) (locs : List Loc), va_P D vwCl (cSearch Y zA (aS 0) zZ lZ ++ cStand Y aS (hT 0) vS gS ++ cTold Y hT tT) H → va_S A s.heap H locs → W p l e (headSpec wsX0_reaches rmX0_reaches_3B).room s m ([.ref (zA 0), .int (3 : Int32)] : List Value).toArray below meth c H locs 0 0 QQ (F0 m 0 ls []) from hI _ _ hP hS
  clear hP hS
  intro H locs hP hS
  refine lv_iload_n hx hb dX0_reaches_0 rfl (lv_at hl 1 rfl) ?_
  refine lv_iconst (v := (1 : Int32)) hx hb dX0_reaches_1 (by decide) ?_
  refine jn0_at (∀ (H : Heap) (locs : List Loc) (ls : Array Slot), va_P D vwCl (cSearch Y zA (aS 0) zZ lZ ++ cStand Y aS (hT 0) vS gS ++ cTold Y hT tT) H → va_S A s.heap H locs → lv_has ls 6 [] → W p l e (headSpec wsX0_reaches rmX0_reaches_3B).room s m ([.ref (zA 0), .int (3 : Int32)] : List Value).toArray below meth c H locs 0 0 QQ (F0 m 10 ls [])) hM (fun  hM H locs ls hP hS hl => ?_) (fun k1 hJ1 hM => ?_)
  · refine lv_iconst (v := (0 : Int32)) hx hb dX0_reaches_10 (by decide) ?_
    cases hM
    rw [hQQ]
    exact W.zret (ty := .boolean) hx hb hr rfl (fun t ht hW => ⟨⟨_, (), rfl, rfl, by show va_P D vwCl _ t.heap; rw [ht]; exact hP⟩, hS.F ht⟩) hS.2.2 dX0_reaches_11
  · refine lv_icmp_lt (tgt := 10) hx hb dX0_reaches_2 (by decide) (fun c => absurd c (by decide)) (fun _ => ?_)
    refine lv_iload_n hx hb dX0_reaches_5 rfl (lv_at hl 1 rfl) ?_
    refine lv_iconst (v := (5 : Int32)) hx hb dX0_reaches_6 (by decide) ?_
    refine lv_icmp_le (tgt := 12) hx hb dX0_reaches_7 (by decide) (fun _ => ?_) (fun c => absurd c (by decide))
    refine lv_aload_n hx hb dX0_reaches_12 rfl (lv_at hl 0 rfl) ?_
    refine va_get hx hb hts hi0 hown hK hP 0 rfl rfl 0 (by decide) (hts (.fieldLink RX0 20 "NightPlots$Search" "standing" "LNightPlots$Standing;") (List.mem_of_getElem? (i := 1) rfl)) (fun _ h9 => h9) rfl dX0_reaches_13 ?_
    obtain ⟨r2, hc3, hM⟩ := bnd1_at hM
    refine cm_l (w2 := (cSearch Y zA (aS 0) zZ lZ ++ cStand Y aS (hT 0) vS gS ++ cTold Y hT tT)) (va_runV (As := []) (rest := []) ⟨hx, hb, hml, hown, hts⟩ (ctX1_placesKey l D Y aS hT vS H.size gS tT r2 hc3) (cwV 0 hts gX0_reaches_X1_placesKey rfl rfl rfl (by decide +kernel) ⟨Nat.le_of_ble_eq_true rfl, Nat.le_of_ble_eq_true rfl⟩) (pcW_V (ci := 1) (q0 := 9) hK hP (hD.same rfl) [9, 10, 11, 12, 13, 14, 15, 16, 17, 18, 19] rfl (pc_map (pc_cons rfl (pc_cons rfl (pc_cons rfl (pc_cons rfl (pc_cons rfl (pc_cons rfl (pc_cons rfl (pc_cons rfl (pc_cons rfl (pc_cons rfl (pc_cons rfl pc_nil)))))))))))) rfl rfl) rfl rfl hl.1 rfl (lv_room (Nat.le_of_ble_eq_true rfl)) dX0_reaches_16 ⟨Nat.zero_le _, Nat.zero_le _⟩) hP (hD.same rfl) hS hA [9, 10, 11, 12, 13, 14, 15, 16, 17, 18, 19] (pc_map (pc_cons rfl (pc_cons rfl (pc_cons rfl (pc_cons rfl (pc_cons rfl (pc_cons rfl (pc_cons rfl (pc_cons rfl (pc_cons rfl (pc_cons rfl (pc_cons rfl pc_nil)))))))))))) (up_old rfl rfl (up_old rfl rfl (up_old rfl rfl (up_old rfl rfl (up_old rfl rfl (up_old rfl rfl (up_old rfl rfl (up_old rfl rfl (up_old rfl rfl (up_new 0 rfl (up_new 1 rfl (up_new 2 rfl (up_new 3 rfl (up_new 4 rfl (up_new 5 rfl (up_new 6 rfl (up_new 7 rfl (up_new 8 rfl (up_new 9 rfl (up_new 10 rfl up_nil)))))))))))))))))))) (fun H locs hP hS => ?_)
    refine lv_ldc2 (v := (8 : Int64)) hx hb hown (hts (.constantLong RX0 46 (8)) (List.mem_of_getElem? (i := 2) rfl)) dX0_reaches_19 ?_
    refine lv_lmul hx hb dX0_reaches_22 ?_
    refine lv_iload_n hx hb dX0_reaches_23 rfl (lv_at hl 1 rfl) ?_
    refine lv_i2l (v := (3 : Int32).toInt64) hx hb dX0_reaches_24 rfl ?_
    refine lv_ladd hx hb dX0_reaches_25 ?_
    refine lv_topl (fun y4 ey4 => ?_)
    replace hM := nm_at hM ey4
    refine lv_lstore_n (lv' := [(2, .long y4), (0, .ref (zA 0)), (1, .int (3 : Int32))]) hx hb dX0_reaches_26 rfl hl (by decide) rfl (fun ls hl => ?_)
    refine lv_lload_n hx hb dX0_reaches_27 rfl (lv_at hl 0 rfl) ?_
    refine lv_ldc2 (v := (-7046029254386353131 : Int64)) hx hb hown (hts (.constantLong RX0 48 (-7046029254386353131)) (List.mem_of_getElem? (i := 3) rfl)) dX0_reaches_28 ?_
    refine lv_lmul hx hb dX0_reaches_31 ?_
    refine lv_bipush (v := (52 : Int32)) hx hb dX0_reaches_32 (by decide) ?_
    refine lv_lushr (v := ((y4 * (-7046029254386353131 : Int64)).toUInt64 >>> ((52 : Int32).toInt64.toUInt64 &&& Int64.toUInt64 63)).toInt64) hx hb dX0_reaches_34 rfl ?_
    refine lv_l2i (v := (((y4 * (-7046029254386353131 : Int64)).toUInt64 >>> ((52 : Int32).toInt64.toUInt64 &&& Int64.toUInt64 63)).toInt64).toInt32) hx hb dX0_reaches_35 rfl ?_
    refine lv_topi (fun x5 ex5 => ?_)
    replace hM := nm_at hM ex5
    refine lv_istore (lv' := [(4, .int x5), (2, .long y4), (0, .ref (zA 0)), (1, .int (3 : Int32))]) hx hb dX0_reaches_36 hl (by decide) rfl (fun ls hl => ?_)
    refine lv_aload_n hx hb dX0_reaches_38 rfl (lv_at hl 2 rfl) ?_
    refine va_get hx hb hts hi0 hown hK hP 0 rfl rfl 2 (by decide) (hts (.fieldLink RX0 16 "NightPlots$Search" "deadEnds" "[J") (List.mem_of_getElem? (i := 4) rfl)) (fun _ h9 => h9) rfl dX0_reaches_39 ?_
    refine lv_iload hx hb dX0_reaches_42 (lv_at hl 0 rfl) ?_
    obtain ⟨hi_6, hM⟩ := chkI_at hM
    refine va_lald hx hb hK hP 2 1 rfl rfl hi_6 dX0_reaches_44 ?_
    refine lv_lload_n hx hb dX0_reaches_45 rfl (lv_at hl 1 rfl) ?_
    refine W.lcmp hx hb dX0_reaches_46 ?_
    refine lv_if_ne (tgt := 52) hx hb dX0_reaches_47 (by decide) (fun c7 => ?_) (fun c7 => ?_)
    · replace hM := if_at_neg hM c7
      refine lv_iconst (v := (0 : Int32)) hx hb dX0_reaches_52 (by decide) ?_
      refine lv_istore (lv' := [(5, .int (0 : Int32)), (4, .int x5), (2, .long y4), (0, .ref (zA 0)), (1, .int (3 : Int32))]) hx hb dX0_reaches_53 hl (by decide) rfl (fun ls hl => ?_)
      refine jn3_at (fun (zZ_8 : GS) (lZ_9 : Nat → Int64) (gS_10 : GS) => ∀ (H : Heap) (locs : List Loc) (ls : Array Slot), va_P D vwCl (cSearch Y zA (aS 0) zZ_8 lZ_9 ++ cStand Y aS (hT 0) vS gS_10 ++ cTold Y hT tT) H → va_S A s.heap H locs → lv_has ls 6 [(0, .ref (zA 0)), (2, .long y4), (4, .int x5)] → W p l e (headSpec wsX0_reaches rmX0_reaches_3B).room s m ([.ref (zA 0), .int (3 : Int32)] : List Value).toArray below meth c H locs 0 0 QQ (F0 m 98 ls [])) hM (fun zZ_8 lZ_9 gS_10 hM H locs ls hP hS hl => ?_) (fun k11 hJ11 hM => ?_)
      · refine lv_aload_n hx hb dX0_reaches_98 rfl (lv_at hl 0 rfl) ?_
        refine va_get hx hb hts hi0 hown hK hP 0 rfl rfl 2 (by decide) (hts (.fieldLink RX0 16 "NightPlots$Search" "deadEnds" "[J") (List.mem_of_getElem? (i := 4) rfl)) (fun _ h9 => h9) rfl dX0_reaches_99 ?_
        refine lv_iload hx hb dX0_reaches_102 (lv_at hl 2 rfl) ?_
        refine lv_lload_n hx hb dX0_reaches_104 rfl (lv_at hl 1 rfl) ?_
        obtain ⟨hi_12, hM⟩ := chkI_at hM
        refine va_last hx hb hK hP (hD.same rfl) hS 2 1 rfl rfl hi_12 dX0_reaches_105 (fun H locs hP _ hS => ?_)
        obtain ⟨lZ_13, elZ_13⟩ : ∃ z : Nat → Int64, z = (vp_updL lZ_9 x5.toNatClampNeg y4) := ⟨_, rfl⟩
        have hP : va_P D vwCl (cSearch Y zA (aS 0) zZ_8 lZ_13 ++ cStand Y aS (hT 0) vS gS_10 ++ cTold Y hT tT) H := by rw [elZ_13]; exact hP
        replace hM := nm_at hM elZ_13
        refine lv_iconst (v := (0 : Int32)) hx hb dX0_reaches_106 (by decide) ?_
        cases hM
        rw [hQQ]
        exact W.zret (ty := .boolean) hx hb hr rfl (fun t ht hW => ⟨⟨_, (), rfl, rfl, by show va_P D vwCl _ t.heap; rw [ht]; exact hP⟩, hS.F ht⟩) hS.2.2 dX0_reaches_107
      · refine jn3_at (fun (zZ_14 : GS) (lZ_15 : Nat → Int64) (gS_16 : GS) => ∀ (H : Heap) (locs : List Loc) (ls : Array Slot), va_P D vwCl (cSearch Y zA (aS 0) zZ_14 lZ_15 ++ cStand Y aS (hT 0) vS gS_16 ++ cTold Y hT tT) H → va_S A s.heap H locs → lv_has ls 6 [] → W p l e (headSpec wsX0_reaches rmX0_reaches_3B).room s m ([.ref (zA 0), .int (3 : Int32)] : List Value).toArray below meth c H locs 0 0 QQ (F0 m 90 ls [])) hM (fun zZ_14 lZ_15 gS_16 hM H locs ls hP hS hl => ?_) (fun k17 hJ17 hM => ?_)
        · refine lv_iconst (v := (1 : Int32)) hx hb dX0_reaches_90 (by decide) ?_
          cases hM
          rw [hQQ]
          exact W.zret (ty := .boolean) hx hb hr rfl (fun t ht hW => ⟨⟨_, (), rfl, rfl, by show va_P D vwCl _ t.heap; rw [ht]; exact hP⟩, hS.F ht⟩) hS.2.2 dX0_reaches_91
        · refine lq4_at (fun (x18 : Int32) (zZ_19 : GS) (lZ_20 : Nat → Int64) (gS_21 : GS) => ∀ (H : Heap) (locs : List Loc) (ls : Array Slot), va_P D vwCl (cSearch Y zA (aS 0) zZ_19 lZ_20 ++ cStand Y aS (hT 0) vS gS_21 ++ cTold Y hT tT) H → va_S A s.heap H locs → lv_has ls 6 [(0, .ref (zA 0)), (1, .int (3 : Int32)), (2, .long y4), (4, .int x5), (5, .int x18)] → W p l e (headSpec wsX0_reaches rmX0_reaches_3B).room s m ([.ref (zA 0), .int (3 : Int32)] : List Value).toArray below meth c H locs 0 0 QQ (F0 m 55 ls [])) (fun rec22 x18 zZ_19 lZ_20 gS_21 ih22 hM H locs ls hP hS hl => ?_) FU (0 : Int32) zZ lZ gS hM H locs ls hP hS (lv_sub hl [3, 4, 2, 1, 0] rfl)
          unfold BX0_reaches_3B_55 at hM
          refine lv_iload hx hb dX0_reaches_55 (lv_at hl 4 rfl) ?_
          refine lv_aload_n hx hb dX0_reaches_57 rfl (lv_at hl 0 rfl) ?_
          refine va_get hx hb hts hi0 hown hK hP 0 rfl rfl 0 (by decide) (hts (.fieldLink RX0 20 "NightPlots$Search" "standing" "LNightPlots$Standing;") (List.mem_of_getElem? (i := 1) rfl)) (fun _ h9 => h9) rfl dX0_reaches_58 ?_
          refine va_getN hx hb hts hi1 hown hK hP 9 rfl rfl 0 (by decide) (hNF.use rfl) (fun _ h9 => h9) rfl dX0_reaches_61 ?_
          refine va_get hx hb hts hi3 hown hK hP 12 rfl rfl 1 (by decide) (hts (.fieldLink RX0 54 "NightPlots$Told" "houses" "I") (List.mem_of_getElem? (i := 5) rfl)) (fun _ h9 => h9) rfl dX0_reaches_64 ?_
          refine lv_icmp_ge (tgt := 98) hx hb dX0_reaches_67 (by decide) (fun c23 => ?_) (fun c23 => ?_)
          · replace hM := if_at_pos hM c23
            exact hJ11 zZ_19 lZ_20 gS_21 hM H locs ls hP hS (lv_sub hl [0, 2, 3] rfl)
          · replace hM := if_at_neg hM c23
            refine lv_aload_n hx hb dX0_reaches_70 rfl (lv_at hl 0 rfl) ?_
            refine lv_iload hx hb dX0_reaches_71 (lv_at hl 4 rfl) ?_
            refine lv_iload_n hx hb dX0_reaches_73 rfl (lv_at hl 1 rfl) ?_
            obtain ⟨r24, hc25, hM⟩ := bnd1_at hM
            refine cm_i (w2 := (cSearch Y zA (aS 0) zZ_19 lZ_20 ++ cStand Y aS (hT 0) vS gS_21 ++ cTold Y hT tT)) (va_runV (As := [.int x18, .int (3 : Int32)]) (rest := []) ⟨hx, hb, hml, hown, hts⟩ (ctX0_mayHelp l D Y zA (aS 0) H.size zZ_19 lZ_20 x18 (3 : Int32) r24 hc25) (cwV 2 hts gX0_reaches_X0_mayHelp rfl rfl rfl (by decide +kernel) ⟨Nat.le_of_ble_eq_true rfl, Nat.le_of_ble_eq_true rfl⟩) (pcW_V (ci := 0) (q0 := 0) hK hP (hD.same rfl) [0, 1, 2, 3, 4, 5, 6, 7, 8] rfl (pc_map (pc_cons rfl (pc_cons rfl (pc_cons rfl (pc_cons rfl (pc_cons rfl (pc_cons rfl (pc_cons rfl (pc_cons rfl (pc_cons rfl pc_nil)))))))))) rfl rfl) rfl rfl hl.1 rfl (lv_room (Nat.le_of_ble_eq_true rfl)) dX0_reaches_74 ⟨Nat.zero_le _, Nat.zero_le _⟩) hP (hD.same rfl) hS hA [0, 1, 2, 3, 4, 5, 6, 7, 8] (pc_map (pc_cons rfl (pc_cons rfl (pc_cons rfl (pc_cons rfl (pc_cons rfl (pc_cons rfl (pc_cons rfl (pc_cons rfl (pc_cons rfl pc_nil)))))))))) (up_new 0 rfl (up_new 1 rfl (up_new 2 rfl (up_new 3 rfl (up_new 4 rfl (up_new 5 rfl (up_new 6 rfl (up_new 7 rfl (up_new 8 rfl (up_old rfl rfl (up_old rfl rfl (up_old rfl rfl (up_old rfl rfl (up_old rfl rfl (up_old rfl rfl (up_old rfl rfl (up_old rfl rfl (up_old rfl rfl (up_old rfl rfl (up_old rfl rfl up_nil)))))))))))))))))))) (fun H locs hP hS => ?_)
            refine jn3_at (fun (zZ_26 : GS) (lZ_27 : Nat → Int64) (gS_28 : GS) => ∀ (H : Heap) (locs : List Loc) (ls : Array Slot), va_P D vwCl (cSearch Y zA (aS 0) zZ_26 lZ_27 ++ cStand Y aS (hT 0) vS gS_28 ++ cTold Y hT tT) H → va_S A s.heap H locs → lv_has ls 6 [(0, .ref (zA 0)), (1, .int (3 : Int32)), (2, .long y4), (4, .int x5), (5, .int x18)] → W p l e (headSpec wsX0_reaches rmX0_reaches_3B).room s m ([.ref (zA 0), .int (3 : Int32)] : List Value).toArray below meth c H locs 0 0 QQ (F0 m 92 ls [])) hM (fun zZ_26 lZ_27 gS_28 hM H locs ls hP hS hl => ?_) (fun k29 hJ29 hM => ?_)
            · obtain ⟨x30, ex30⟩ : ∃ z : Int32, z = (x18 + 1) := ⟨_, rfl⟩
              replace hM := nm_at hM ex30
              refine lv_iinc (v := x30) (lv' := [(5, .int x30), (0, .ref (zA 0)), (1, .int (3 : Int32)), (2, .long y4), (4, .int x5)]) hx hb dX0_reaches_92 hl (k := 4) rfl (by rw [ex30]; rfl) (by decide) rfl (fun ls hl => ?_)
              refine lv_goto (tgt := 55) hx hb dX0_reaches_95 (by decide) ?_
              exact ih22 x30 zZ_26 lZ_27 gS_28 hM H locs ls hP hS (lv_sub hl [1, 2, 3, 4, 0] rfl)
            · refine lv_if_eq (tgt := 92) hx hb dX0_reaches_77 (by decide) (fun c31 => ?_) (fun c31 => ?_)
              · replace hM := if_at_pos hM c31
                exact hJ29 zZ_19 lZ_20 gS_21 hM H locs ls hP hS (lv_sub hl [0, 1, 2, 3, 4] rfl)
              · replace hM := if_at_neg hM c31
                refine lv_aload_n hx hb dX0_reaches_80 rfl (lv_at hl 0 rfl) ?_
                refine lv_iload hx hb dX0_reaches_81 (lv_at hl 4 rfl) ?_
                refine lv_iload_n hx hb dX0_reaches_83 rfl (lv_at hl 1 rfl) ?_
                obtain ⟨r32, zZ_33, lZ_34, gS_35, hc36, hM⟩ := bnd4_at hM
                refine co_i (va_runS (As := [.ref (zA 0), .int x18, .int (3 : Int32)]) (rest := []) ⟨hx, hb, hml, hown, hts⟩ (ctX0_reachesBy_3 l D Y zA aS hT vS H.size zZ_19 lZ_20 gS_21 tT x18 r32 zZ_33 lZ_34 gS_35 hc36) ⟨callB_of 3 hts ggX0_reaches_X0_reachesBy rfl rfl rfl (hts (.initialized RX0) (List.mem_of_getElem? (i := 17) rfl)) (hts (.methodLink RX0 63 yX0_reachesBy) (List.mem_of_getElem? (i := 21) rfl)) (by decide +kernel) ⟨Nat.le_of_ble_eq_true rfl, Nat.le_of_ble_eq_true rfl⟩, (hts (.static yX0_reachesBy) (List.mem_of_getElem? (i := 22) rfl))⟩ (pcN_S hNF (pcW_S0 hK hP (hD.same rfl))) rfl rfl hl.1 rfl (lv_room (Nat.le_of_ble_eq_true rfl)) dX0_reaches_84 ⟨Nat.zero_le _, Nat.zero_le _⟩) (hD.same rfl) hS hA (fun H locs hP hS => ?_)
                refine lv_if_eq (tgt := 92) hx hb dX0_reaches_87 (by decide) (fun c37 => ?_) (fun c37 => ?_)
                · replace hM := if_at_pos hM c37
                  exact hJ29 zZ_33 lZ_34 gS_35 hM H locs ls hP hS (lv_sub hl [0, 1, 2, 3, 4] rfl)
                · replace hM := if_at_neg hM c37
                  exact hJ17 zZ_33 lZ_34 gS_35 hM H locs ls hP hS (lv_sub hl [] rfl)
    · replace hM := if_at_pos hM c7
      refine lv_iconst (v := (0 : Int32)) hx hb dX0_reaches_50 (by decide) ?_
      cases hM
      rw [hQQ]
      exact W.zret (ty := .boolean) hx hb hr rfl (fun t ht hW => ⟨⟨_, (), rfl, rfl, by show va_P D vwCl _ t.heap; rw [ht]; exact hP⟩, hS.F ht⟩) hS.2.2 dX0_reaches_51
noncomputable def BX0_reaches_4B_55 (tT : GS) (k11 : GS → (Nat → Int64) → GS → Option (Int32 × GS × (Nat → Int64) × GS)) (k17 : GS → (Nat → Int64) → GS → Option (Int32 × GS × (Nat → Int64) × GS)) (rec22 : Int32 → GS → (Nat → Int64) → GS → Option (Int32 × GS × (Nat → Int64) × GS)) (x18 : Int32) (zZ_19 : GS) (lZ_20 : Nat → Int64) (gS_21 : GS) : Option (Int32 × GS × (Nat → Int64) × GS) := if (tT 0 1) ≤ x18 then (k11 zZ_19 lZ_20 gS_21) else (bnd1 (MX0_mayHelp zZ_19 x18 (4 : Int32)) fun (r24 : Int32) => jn3 (fun (zZ_26 : GS) (lZ_27 : Nat → Int64) (gS_28 : GS) => nm (x18 + 1) fun (x30 : Int32) => rec22 x30 zZ_26 lZ_27 gS_28) (fun k29 => if r24 = 0 then (k29 zZ_19 lZ_20 gS_21) else (bnd4 (MX0_reachesBy_4 zZ_19 lZ_20 gS_21 tT x18) fun (r32 : Int32) (zZ_33 : GS) (lZ_34 : Nat → Int64) (gS_35 : GS) => if r32 = 0 then (k29 zZ_33 lZ_34 gS_35) else (k17 zZ_33 lZ_34 gS_35))))
noncomputable def MX0_reaches_4B (zZ : GS) (lZ : Nat → Int64) (gS : GS) (tT : GS) : Option (Int32 × GS × (Nat → Int64) × GS) := jn0 (some ((0 : Int32), zZ, lZ, gS)) (fun k1 => bnd1 (MX1_placesKey gS tT) fun (r2 : Int64) => nm ((r2 * (8 : Int64)) + ((4 : Int32).toInt64)) fun (y4 : Int64) => nm ((((y4 * (-7046029254386353131 : Int64)).toUInt64 >>> ((52 : Int32).toInt64.toUInt64 &&& Int64.toUInt64 63)).toInt64).toInt32) fun (x5 : Int32) => chkI x5 4096 (if (lg_cmp (lZ x5.toNatClampNeg) y4) = 0 then (some ((0 : Int32), zZ, lZ, gS)) else (jn3 (fun (zZ_8 : GS) (lZ_9 : Nat → Int64) (gS_10 : GS) => chkI x5 4096 (nm (vp_updL lZ_9 x5.toNatClampNeg y4) fun (lZ_13 : Nat → Int64) => some ((0 : Int32), zZ_8, lZ_13, gS_10))) (fun k11 => jn3 (fun (zZ_14 : GS) (lZ_15 : Nat → Int64) (gS_16 : GS) => some ((1 : Int32), zZ_14, lZ_15, gS_16)) (fun k17 => lq4 (BX0_reaches_4B_55 tT k11 k17) FU (0 : Int32) zZ lZ gS)))))
abbrev rmX0_reaches_4B : Room := { frames := 14, cells := 0, slots := 0, locals := 560 }
set_option maxHeartbeats 4000000 in
set_option maxRecDepth 100000 in
theorem ctX0_reaches_4B (l : Launch) (D : va_G) (Y : Nat → ClassId) (zA : Nat → Nat) (aS : Nat → Nat) (hT : Nat → Nat) (vS : Nat) (sz : Nat) (zZ : GS) (lZ : Nat → Int64) (gS : GS) (tT : GS) (rr : Int32) (zZz : GS) (lZz : Nat → Int64) (gSz : GS) (hM : MX0_reaches_4B zZ lZ gS tT = some (rr, zZz, lZz, gSz)) : Met l yX0_reaches wsX0_reaches rmX0_reaches_4B (pcN [.ref (zA 0), .int (4 : Int32)] sz D Y (cSearch Y zA (aS 0) zZ lZ ++ cStand Y aS (hT 0) vS gS ++ cTold Y hT tT)) (qiW rr D (cSearch Y zA (aS 0) zZz lZz ++ cStand Y aS (hT 0) vS gSz ++ cTold Y hT tT) (va_A (cSearch Y zA (aS 0) zZ lZ ++ cStand Y aS (hT 0) vS gS ++ cTold Y hT tT) sz)) 0 0 (va_A (cSearch Y zA (aS 0) zZ lZ ++ cStand Y aS (hT 0) vS gS ++ cTold Y hT tT) sz) := by
  refine Met.ofW (cc := cX0_reaches) (maxL := 6) (ret := (some .boolean)) (by decide) rfl ?_
  intro p e s m args below meth c s₁ B hml hv
  obtain ⟨⟨rfl, hsz, hP, hK, hD0⟩, hNF⟩ := hv
  have hx := B.exec
  have hb := B.bytes
  have hr := B.returns
  have hts := atoms_spec (ws := wsX0_reaches) B.pre
  have hown : s.vm.findClass RX0 = some m.cls := findClass_of_methodNamed B.named
  have hlocks := B.notSynchronized
  subst hsz
  have hD := hD0.self (sz := s.heap.size)
  generalize hAe : va_A (cSearch Y zA (aS 0) zZ lZ ++ cStand Y aS (hT 0) vS gS ++ cTold Y hT tT) s.heap.size = A at hD ⊢
  have hA : ∀ q : Nat, s.heap.size ≤ q → A q := fun q h => by rw [← hAe]; exact Or.inr h
  have hS : va_S A s.heap s.heap [] := va_S.rf
  have hi0 : ∀ w ∈ wsX00, w ∈ wsX0_reaches := fun w h => List.mem_cons_of_mem _ (List.mem_append_left _ (List.mem_append_left _ (List.mem_append_right _ h)))
  have hi1 : ∀ w ∈ wsX10, w ∈ wsX0_reaches := fun w h => List.mem_cons_of_mem _ (List.mem_append_left _ (List.mem_append_right _ h))
  have hi3 : ∀ w ∈ wsX30, w ∈ wsX0_reaches := fun w h => List.mem_cons_of_mem _ (List.mem_append_right _ h)
  have hl := lv_entry ([.ref (zA 0), .int (4 : Int32)]) (n := 6) (Nat.le_of_ble_eq_true rfl)
  rw [lg_entry_eq]
  generalize (lg_sl ([.ref (zA 0), .int (4 : Int32)]) ++ List.replicate (6 - (lg_sl ([.ref (zA 0), .int (4 : Int32)])).length) Slot.unset).toArray = ls at hl ⊢
  have hl : lv_has ls 6 [(0, .ref (zA 0)), (1, .int (4 : Int32))] := hl
  obtain ⟨QQ, hQQ⟩ : ∃ Q : State → Prop, Q = MQ below (qiW rr D (cSearch Y zA (aS 0) zZz lZz ++ cStand Y aS (hT 0) vS gSz ++ cTold Y hT tT) A) ([.ref (zA 0), .int (4 : Int32)] : List Value).toArray s 0 0 A := ⟨_, rfl⟩
  rw [← hQQ]
  unfold MX0_reaches_4B at hM
  suffices hI : ∀ (H : Heap) (locs : List Loc), va_P D vwCl (cSearch Y zA (aS 0) zZ lZ ++ cStand Y aS (hT 0) vS gS ++ cTold Y hT tT) H → va_S A s.heap H locs → W p l e (headSpec wsX0_reaches rmX0_reaches_4B).room s m ([.ref (zA 0), .int (4 : Int32)] : List Value).toArray below meth c H locs 0 0 QQ (F0 m 0 ls []) from hI _ _ hP hS
  clear hP hS
  intro H locs hP hS
  refine lv_iload_n hx hb dX0_reaches_0 rfl (lv_at hl 1 rfl) ?_
  refine lv_iconst (v := (1 : Int32)) hx hb dX0_reaches_1 (by decide) ?_
  refine jn0_at (∀ (H : Heap) (locs : List Loc) (ls : Array Slot), va_P D vwCl (cSearch Y zA (aS 0) zZ lZ ++ cStand Y aS (hT 0) vS gS ++ cTold Y hT tT) H → va_S A s.heap H locs → lv_has ls 6 [] → W p l e (headSpec wsX0_reaches rmX0_reaches_4B).room s m ([.ref (zA 0), .int (4 : Int32)] : List Value).toArray below meth c H locs 0 0 QQ (F0 m 10 ls [])) hM (fun  hM H locs ls hP hS hl => ?_) (fun k1 hJ1 hM => ?_)
  · refine lv_iconst (v := (0 : Int32)) hx hb dX0_reaches_10 (by decide) ?_
    cases hM
    rw [hQQ]
    exact W.zret (ty := .boolean) hx hb hr rfl (fun t ht hW => ⟨⟨_, (), rfl, rfl, by show va_P D vwCl _ t.heap; rw [ht]; exact hP⟩, hS.F ht⟩) hS.2.2 dX0_reaches_11
  · refine lv_icmp_lt (tgt := 10) hx hb dX0_reaches_2 (by decide) (fun c => absurd c (by decide)) (fun _ => ?_)
    refine lv_iload_n hx hb dX0_reaches_5 rfl (lv_at hl 1 rfl) ?_
    refine lv_iconst (v := (5 : Int32)) hx hb dX0_reaches_6 (by decide) ?_
    refine lv_icmp_le (tgt := 12) hx hb dX0_reaches_7 (by decide) (fun _ => ?_) (fun c => absurd c (by decide))
    refine lv_aload_n hx hb dX0_reaches_12 rfl (lv_at hl 0 rfl) ?_
    refine va_get hx hb hts hi0 hown hK hP 0 rfl rfl 0 (by decide) (hts (.fieldLink RX0 20 "NightPlots$Search" "standing" "LNightPlots$Standing;") (List.mem_of_getElem? (i := 1) rfl)) (fun _ h9 => h9) rfl dX0_reaches_13 ?_
    obtain ⟨r2, hc3, hM⟩ := bnd1_at hM
    refine cm_l (w2 := (cSearch Y zA (aS 0) zZ lZ ++ cStand Y aS (hT 0) vS gS ++ cTold Y hT tT)) (va_runV (As := []) (rest := []) ⟨hx, hb, hml, hown, hts⟩ (ctX1_placesKey l D Y aS hT vS H.size gS tT r2 hc3) (cwV 0 hts gX0_reaches_X1_placesKey rfl rfl rfl (by decide +kernel) ⟨Nat.le_of_ble_eq_true rfl, Nat.le_of_ble_eq_true rfl⟩) (pcW_V (ci := 1) (q0 := 9) hK hP (hD.same rfl) [9, 10, 11, 12, 13, 14, 15, 16, 17, 18, 19] rfl (pc_map (pc_cons rfl (pc_cons rfl (pc_cons rfl (pc_cons rfl (pc_cons rfl (pc_cons rfl (pc_cons rfl (pc_cons rfl (pc_cons rfl (pc_cons rfl (pc_cons rfl pc_nil)))))))))))) rfl rfl) rfl rfl hl.1 rfl (lv_room (Nat.le_of_ble_eq_true rfl)) dX0_reaches_16 ⟨Nat.zero_le _, Nat.zero_le _⟩) hP (hD.same rfl) hS hA [9, 10, 11, 12, 13, 14, 15, 16, 17, 18, 19] (pc_map (pc_cons rfl (pc_cons rfl (pc_cons rfl (pc_cons rfl (pc_cons rfl (pc_cons rfl (pc_cons rfl (pc_cons rfl (pc_cons rfl (pc_cons rfl (pc_cons rfl pc_nil)))))))))))) (up_old rfl rfl (up_old rfl rfl (up_old rfl rfl (up_old rfl rfl (up_old rfl rfl (up_old rfl rfl (up_old rfl rfl (up_old rfl rfl (up_old rfl rfl (up_new 0 rfl (up_new 1 rfl (up_new 2 rfl (up_new 3 rfl (up_new 4 rfl (up_new 5 rfl (up_new 6 rfl (up_new 7 rfl (up_new 8 rfl (up_new 9 rfl (up_new 10 rfl up_nil)))))))))))))))))))) (fun H locs hP hS => ?_)
    refine lv_ldc2 (v := (8 : Int64)) hx hb hown (hts (.constantLong RX0 46 (8)) (List.mem_of_getElem? (i := 2) rfl)) dX0_reaches_19 ?_
    refine lv_lmul hx hb dX0_reaches_22 ?_
    refine lv_iload_n hx hb dX0_reaches_23 rfl (lv_at hl 1 rfl) ?_
    refine lv_i2l (v := (4 : Int32).toInt64) hx hb dX0_reaches_24 rfl ?_
    refine lv_ladd hx hb dX0_reaches_25 ?_
    refine lv_topl (fun y4 ey4 => ?_)
    replace hM := nm_at hM ey4
    refine lv_lstore_n (lv' := [(2, .long y4), (0, .ref (zA 0)), (1, .int (4 : Int32))]) hx hb dX0_reaches_26 rfl hl (by decide) rfl (fun ls hl => ?_)
    refine lv_lload_n hx hb dX0_reaches_27 rfl (lv_at hl 0 rfl) ?_
    refine lv_ldc2 (v := (-7046029254386353131 : Int64)) hx hb hown (hts (.constantLong RX0 48 (-7046029254386353131)) (List.mem_of_getElem? (i := 3) rfl)) dX0_reaches_28 ?_
    refine lv_lmul hx hb dX0_reaches_31 ?_
    refine lv_bipush (v := (52 : Int32)) hx hb dX0_reaches_32 (by decide) ?_
    refine lv_lushr (v := ((y4 * (-7046029254386353131 : Int64)).toUInt64 >>> ((52 : Int32).toInt64.toUInt64 &&& Int64.toUInt64 63)).toInt64) hx hb dX0_reaches_34 rfl ?_
    refine lv_l2i (v := (((y4 * (-7046029254386353131 : Int64)).toUInt64 >>> ((52 : Int32).toInt64.toUInt64 &&& Int64.toUInt64 63)).toInt64).toInt32) hx hb dX0_reaches_35 rfl ?_
    refine lv_topi (fun x5 ex5 => ?_)
    replace hM := nm_at hM ex5
    refine lv_istore (lv' := [(4, .int x5), (2, .long y4), (0, .ref (zA 0)), (1, .int (4 : Int32))]) hx hb dX0_reaches_36 hl (by decide) rfl (fun ls hl => ?_)
    refine lv_aload_n hx hb dX0_reaches_38 rfl (lv_at hl 2 rfl) ?_
    refine va_get hx hb hts hi0 hown hK hP 0 rfl rfl 2 (by decide) (hts (.fieldLink RX0 16 "NightPlots$Search" "deadEnds" "[J") (List.mem_of_getElem? (i := 4) rfl)) (fun _ h9 => h9) rfl dX0_reaches_39 ?_
    refine lv_iload hx hb dX0_reaches_42 (lv_at hl 0 rfl) ?_
    obtain ⟨hi_6, hM⟩ := chkI_at hM
    refine va_lald hx hb hK hP 2 1 rfl rfl hi_6 dX0_reaches_44 ?_
    refine lv_lload_n hx hb dX0_reaches_45 rfl (lv_at hl 1 rfl) ?_
    refine W.lcmp hx hb dX0_reaches_46 ?_
    refine lv_if_ne (tgt := 52) hx hb dX0_reaches_47 (by decide) (fun c7 => ?_) (fun c7 => ?_)
    · replace hM := if_at_neg hM c7
      refine lv_iconst (v := (0 : Int32)) hx hb dX0_reaches_52 (by decide) ?_
      refine lv_istore (lv' := [(5, .int (0 : Int32)), (4, .int x5), (2, .long y4), (0, .ref (zA 0)), (1, .int (4 : Int32))]) hx hb dX0_reaches_53 hl (by decide) rfl (fun ls hl => ?_)
      refine jn3_at (fun (zZ_8 : GS) (lZ_9 : Nat → Int64) (gS_10 : GS) => ∀ (H : Heap) (locs : List Loc) (ls : Array Slot), va_P D vwCl (cSearch Y zA (aS 0) zZ_8 lZ_9 ++ cStand Y aS (hT 0) vS gS_10 ++ cTold Y hT tT) H → va_S A s.heap H locs → lv_has ls 6 [(0, .ref (zA 0)), (2, .long y4), (4, .int x5)] → W p l e (headSpec wsX0_reaches rmX0_reaches_4B).room s m ([.ref (zA 0), .int (4 : Int32)] : List Value).toArray below meth c H locs 0 0 QQ (F0 m 98 ls [])) hM (fun zZ_8 lZ_9 gS_10 hM H locs ls hP hS hl => ?_) (fun k11 hJ11 hM => ?_)
      · refine lv_aload_n hx hb dX0_reaches_98 rfl (lv_at hl 0 rfl) ?_
        refine va_get hx hb hts hi0 hown hK hP 0 rfl rfl 2 (by decide) (hts (.fieldLink RX0 16 "NightPlots$Search" "deadEnds" "[J") (List.mem_of_getElem? (i := 4) rfl)) (fun _ h9 => h9) rfl dX0_reaches_99 ?_
        refine lv_iload hx hb dX0_reaches_102 (lv_at hl 2 rfl) ?_
        refine lv_lload_n hx hb dX0_reaches_104 rfl (lv_at hl 1 rfl) ?_
        obtain ⟨hi_12, hM⟩ := chkI_at hM
        refine va_last hx hb hK hP (hD.same rfl) hS 2 1 rfl rfl hi_12 dX0_reaches_105 (fun H locs hP _ hS => ?_)
        obtain ⟨lZ_13, elZ_13⟩ : ∃ z : Nat → Int64, z = (vp_updL lZ_9 x5.toNatClampNeg y4) := ⟨_, rfl⟩
        have hP : va_P D vwCl (cSearch Y zA (aS 0) zZ_8 lZ_13 ++ cStand Y aS (hT 0) vS gS_10 ++ cTold Y hT tT) H := by rw [elZ_13]; exact hP
        replace hM := nm_at hM elZ_13
        refine lv_iconst (v := (0 : Int32)) hx hb dX0_reaches_106 (by decide) ?_
        cases hM
        rw [hQQ]
        exact W.zret (ty := .boolean) hx hb hr rfl (fun t ht hW => ⟨⟨_, (), rfl, rfl, by show va_P D vwCl _ t.heap; rw [ht]; exact hP⟩, hS.F ht⟩) hS.2.2 dX0_reaches_107
      · refine jn3_at (fun (zZ_14 : GS) (lZ_15 : Nat → Int64) (gS_16 : GS) => ∀ (H : Heap) (locs : List Loc) (ls : Array Slot), va_P D vwCl (cSearch Y zA (aS 0) zZ_14 lZ_15 ++ cStand Y aS (hT 0) vS gS_16 ++ cTold Y hT tT) H → va_S A s.heap H locs → lv_has ls 6 [] → W p l e (headSpec wsX0_reaches rmX0_reaches_4B).room s m ([.ref (zA 0), .int (4 : Int32)] : List Value).toArray below meth c H locs 0 0 QQ (F0 m 90 ls [])) hM (fun zZ_14 lZ_15 gS_16 hM H locs ls hP hS hl => ?_) (fun k17 hJ17 hM => ?_)
        · refine lv_iconst (v := (1 : Int32)) hx hb dX0_reaches_90 (by decide) ?_
          cases hM
          rw [hQQ]
          exact W.zret (ty := .boolean) hx hb hr rfl (fun t ht hW => ⟨⟨_, (), rfl, rfl, by show va_P D vwCl _ t.heap; rw [ht]; exact hP⟩, hS.F ht⟩) hS.2.2 dX0_reaches_91
        · refine lq4_at (fun (x18 : Int32) (zZ_19 : GS) (lZ_20 : Nat → Int64) (gS_21 : GS) => ∀ (H : Heap) (locs : List Loc) (ls : Array Slot), va_P D vwCl (cSearch Y zA (aS 0) zZ_19 lZ_20 ++ cStand Y aS (hT 0) vS gS_21 ++ cTold Y hT tT) H → va_S A s.heap H locs → lv_has ls 6 [(0, .ref (zA 0)), (1, .int (4 : Int32)), (2, .long y4), (4, .int x5), (5, .int x18)] → W p l e (headSpec wsX0_reaches rmX0_reaches_4B).room s m ([.ref (zA 0), .int (4 : Int32)] : List Value).toArray below meth c H locs 0 0 QQ (F0 m 55 ls [])) (fun rec22 x18 zZ_19 lZ_20 gS_21 ih22 hM H locs ls hP hS hl => ?_) FU (0 : Int32) zZ lZ gS hM H locs ls hP hS (lv_sub hl [3, 4, 2, 1, 0] rfl)
          unfold BX0_reaches_4B_55 at hM
          refine lv_iload hx hb dX0_reaches_55 (lv_at hl 4 rfl) ?_
          refine lv_aload_n hx hb dX0_reaches_57 rfl (lv_at hl 0 rfl) ?_
          refine va_get hx hb hts hi0 hown hK hP 0 rfl rfl 0 (by decide) (hts (.fieldLink RX0 20 "NightPlots$Search" "standing" "LNightPlots$Standing;") (List.mem_of_getElem? (i := 1) rfl)) (fun _ h9 => h9) rfl dX0_reaches_58 ?_
          refine va_getN hx hb hts hi1 hown hK hP 9 rfl rfl 0 (by decide) (hNF.use rfl) (fun _ h9 => h9) rfl dX0_reaches_61 ?_
          refine va_get hx hb hts hi3 hown hK hP 12 rfl rfl 1 (by decide) (hts (.fieldLink RX0 54 "NightPlots$Told" "houses" "I") (List.mem_of_getElem? (i := 5) rfl)) (fun _ h9 => h9) rfl dX0_reaches_64 ?_
          refine lv_icmp_ge (tgt := 98) hx hb dX0_reaches_67 (by decide) (fun c23 => ?_) (fun c23 => ?_)
          · replace hM := if_at_pos hM c23
            exact hJ11 zZ_19 lZ_20 gS_21 hM H locs ls hP hS (lv_sub hl [0, 2, 3] rfl)
          · replace hM := if_at_neg hM c23
            refine lv_aload_n hx hb dX0_reaches_70 rfl (lv_at hl 0 rfl) ?_
            refine lv_iload hx hb dX0_reaches_71 (lv_at hl 4 rfl) ?_
            refine lv_iload_n hx hb dX0_reaches_73 rfl (lv_at hl 1 rfl) ?_
            obtain ⟨r24, hc25, hM⟩ := bnd1_at hM
            refine cm_i (w2 := (cSearch Y zA (aS 0) zZ_19 lZ_20 ++ cStand Y aS (hT 0) vS gS_21 ++ cTold Y hT tT)) (va_runV (As := [.int x18, .int (4 : Int32)]) (rest := []) ⟨hx, hb, hml, hown, hts⟩ (ctX0_mayHelp l D Y zA (aS 0) H.size zZ_19 lZ_20 x18 (4 : Int32) r24 hc25) (cwV 2 hts gX0_reaches_X0_mayHelp rfl rfl rfl (by decide +kernel) ⟨Nat.le_of_ble_eq_true rfl, Nat.le_of_ble_eq_true rfl⟩) (pcW_V (ci := 0) (q0 := 0) hK hP (hD.same rfl) [0, 1, 2, 3, 4, 5, 6, 7, 8] rfl (pc_map (pc_cons rfl (pc_cons rfl (pc_cons rfl (pc_cons rfl (pc_cons rfl (pc_cons rfl (pc_cons rfl (pc_cons rfl (pc_cons rfl pc_nil)))))))))) rfl rfl) rfl rfl hl.1 rfl (lv_room (Nat.le_of_ble_eq_true rfl)) dX0_reaches_74 ⟨Nat.zero_le _, Nat.zero_le _⟩) hP (hD.same rfl) hS hA [0, 1, 2, 3, 4, 5, 6, 7, 8] (pc_map (pc_cons rfl (pc_cons rfl (pc_cons rfl (pc_cons rfl (pc_cons rfl (pc_cons rfl (pc_cons rfl (pc_cons rfl (pc_cons rfl pc_nil)))))))))) (up_new 0 rfl (up_new 1 rfl (up_new 2 rfl (up_new 3 rfl (up_new 4 rfl (up_new 5 rfl (up_new 6 rfl (up_new 7 rfl (up_new 8 rfl (up_old rfl rfl (up_old rfl rfl (up_old rfl rfl (up_old rfl rfl (up_old rfl rfl (up_old rfl rfl (up_old rfl rfl (up_old rfl rfl (up_old rfl rfl (up_old rfl rfl (up_old rfl rfl up_nil)))))))))))))))))))) (fun H locs hP hS => ?_)
            refine jn3_at (fun (zZ_26 : GS) (lZ_27 : Nat → Int64) (gS_28 : GS) => ∀ (H : Heap) (locs : List Loc) (ls : Array Slot), va_P D vwCl (cSearch Y zA (aS 0) zZ_26 lZ_27 ++ cStand Y aS (hT 0) vS gS_28 ++ cTold Y hT tT) H → va_S A s.heap H locs → lv_has ls 6 [(0, .ref (zA 0)), (1, .int (4 : Int32)), (2, .long y4), (4, .int x5), (5, .int x18)] → W p l e (headSpec wsX0_reaches rmX0_reaches_4B).room s m ([.ref (zA 0), .int (4 : Int32)] : List Value).toArray below meth c H locs 0 0 QQ (F0 m 92 ls [])) hM (fun zZ_26 lZ_27 gS_28 hM H locs ls hP hS hl => ?_) (fun k29 hJ29 hM => ?_)
            · obtain ⟨x30, ex30⟩ : ∃ z : Int32, z = (x18 + 1) := ⟨_, rfl⟩
              replace hM := nm_at hM ex30
              refine lv_iinc (v := x30) (lv' := [(5, .int x30), (0, .ref (zA 0)), (1, .int (4 : Int32)), (2, .long y4), (4, .int x5)]) hx hb dX0_reaches_92 hl (k := 4) rfl (by rw [ex30]; rfl) (by decide) rfl (fun ls hl => ?_)
              refine lv_goto (tgt := 55) hx hb dX0_reaches_95 (by decide) ?_
              exact ih22 x30 zZ_26 lZ_27 gS_28 hM H locs ls hP hS (lv_sub hl [1, 2, 3, 4, 0] rfl)
            · refine lv_if_eq (tgt := 92) hx hb dX0_reaches_77 (by decide) (fun c31 => ?_) (fun c31 => ?_)
              · replace hM := if_at_pos hM c31
                exact hJ29 zZ_19 lZ_20 gS_21 hM H locs ls hP hS (lv_sub hl [0, 1, 2, 3, 4] rfl)
              · replace hM := if_at_neg hM c31
                refine lv_aload_n hx hb dX0_reaches_80 rfl (lv_at hl 0 rfl) ?_
                refine lv_iload hx hb dX0_reaches_81 (lv_at hl 4 rfl) ?_
                refine lv_iload_n hx hb dX0_reaches_83 rfl (lv_at hl 1 rfl) ?_
                obtain ⟨r32, zZ_33, lZ_34, gS_35, hc36, hM⟩ := bnd4_at hM
                refine co_i (va_runS (As := [.ref (zA 0), .int x18, .int (4 : Int32)]) (rest := []) ⟨hx, hb, hml, hown, hts⟩ (ctX0_reachesBy_4 l D Y zA aS hT vS H.size zZ_19 lZ_20 gS_21 tT x18 r32 zZ_33 lZ_34 gS_35 hc36) ⟨callB_of 3 hts ggX0_reaches_X0_reachesBy rfl rfl rfl (hts (.initialized RX0) (List.mem_of_getElem? (i := 17) rfl)) (hts (.methodLink RX0 63 yX0_reachesBy) (List.mem_of_getElem? (i := 21) rfl)) (by decide +kernel) ⟨Nat.le_of_ble_eq_true rfl, Nat.le_of_ble_eq_true rfl⟩, (hts (.static yX0_reachesBy) (List.mem_of_getElem? (i := 22) rfl))⟩ (pcN_S hNF (pcW_S0 hK hP (hD.same rfl))) rfl rfl hl.1 rfl (lv_room (Nat.le_of_ble_eq_true rfl)) dX0_reaches_84 ⟨Nat.zero_le _, Nat.zero_le _⟩) (hD.same rfl) hS hA (fun H locs hP hS => ?_)
                refine lv_if_eq (tgt := 92) hx hb dX0_reaches_87 (by decide) (fun c37 => ?_) (fun c37 => ?_)
                · replace hM := if_at_pos hM c37
                  exact hJ29 zZ_33 lZ_34 gS_35 hM H locs ls hP hS (lv_sub hl [0, 1, 2, 3, 4] rfl)
                · replace hM := if_at_neg hM c37
                  exact hJ17 zZ_33 lZ_34 gS_35 hM H locs ls hP hS (lv_sub hl [] rfl)
    · replace hM := if_at_pos hM c7
      refine lv_iconst (v := (0 : Int32)) hx hb dX0_reaches_50 (by decide) ?_
      cases hM
      rw [hQQ]
      exact W.zret (ty := .boolean) hx hb hr rfl (fun t ht hW => ⟨⟨_, (), rfl, rfl, by show va_P D vwCl _ t.heap; rw [ht]; exact hP⟩, hS.F ht⟩) hS.2.2 dX0_reaches_51
noncomputable def BX0_reaches_5B_55 (tT : GS) (k11 : GS → (Nat → Int64) → GS → Option (Int32 × GS × (Nat → Int64) × GS)) (k17 : GS → (Nat → Int64) → GS → Option (Int32 × GS × (Nat → Int64) × GS)) (rec22 : Int32 → GS → (Nat → Int64) → GS → Option (Int32 × GS × (Nat → Int64) × GS)) (x18 : Int32) (zZ_19 : GS) (lZ_20 : Nat → Int64) (gS_21 : GS) : Option (Int32 × GS × (Nat → Int64) × GS) := if (tT 0 1) ≤ x18 then (k11 zZ_19 lZ_20 gS_21) else (bnd1 (MX0_mayHelp zZ_19 x18 (5 : Int32)) fun (r24 : Int32) => jn3 (fun (zZ_26 : GS) (lZ_27 : Nat → Int64) (gS_28 : GS) => nm (x18 + 1) fun (x30 : Int32) => rec22 x30 zZ_26 lZ_27 gS_28) (fun k29 => if r24 = 0 then (k29 zZ_19 lZ_20 gS_21) else (bnd4 (MX0_reachesBy_5 zZ_19 lZ_20 gS_21 tT x18) fun (r32 : Int32) (zZ_33 : GS) (lZ_34 : Nat → Int64) (gS_35 : GS) => if r32 = 0 then (k29 zZ_33 lZ_34 gS_35) else (k17 zZ_33 lZ_34 gS_35))))
noncomputable def MX0_reaches_5B (zZ : GS) (lZ : Nat → Int64) (gS : GS) (tT : GS) : Option (Int32 × GS × (Nat → Int64) × GS) := jn0 (some ((0 : Int32), zZ, lZ, gS)) (fun k1 => bnd1 (MX1_placesKey gS tT) fun (r2 : Int64) => nm ((r2 * (8 : Int64)) + ((5 : Int32).toInt64)) fun (y4 : Int64) => nm ((((y4 * (-7046029254386353131 : Int64)).toUInt64 >>> ((52 : Int32).toInt64.toUInt64 &&& Int64.toUInt64 63)).toInt64).toInt32) fun (x5 : Int32) => chkI x5 4096 (if (lg_cmp (lZ x5.toNatClampNeg) y4) = 0 then (some ((0 : Int32), zZ, lZ, gS)) else (jn3 (fun (zZ_8 : GS) (lZ_9 : Nat → Int64) (gS_10 : GS) => chkI x5 4096 (nm (vp_updL lZ_9 x5.toNatClampNeg y4) fun (lZ_13 : Nat → Int64) => some ((0 : Int32), zZ_8, lZ_13, gS_10))) (fun k11 => jn3 (fun (zZ_14 : GS) (lZ_15 : Nat → Int64) (gS_16 : GS) => some ((1 : Int32), zZ_14, lZ_15, gS_16)) (fun k17 => lq4 (BX0_reaches_5B_55 tT k11 k17) FU (0 : Int32) zZ lZ gS)))))
abbrev rmX0_reaches_5B : Room := { frames := 14, cells := 0, slots := 0, locals := 560 }
set_option maxHeartbeats 4000000 in
set_option maxRecDepth 100000 in
theorem ctX0_reaches_5B (l : Launch) (D : va_G) (Y : Nat → ClassId) (zA : Nat → Nat) (aS : Nat → Nat) (hT : Nat → Nat) (vS : Nat) (sz : Nat) (zZ : GS) (lZ : Nat → Int64) (gS : GS) (tT : GS) (rr : Int32) (zZz : GS) (lZz : Nat → Int64) (gSz : GS) (hM : MX0_reaches_5B zZ lZ gS tT = some (rr, zZz, lZz, gSz)) : Met l yX0_reaches wsX0_reaches rmX0_reaches_5B (pcN [.ref (zA 0), .int (5 : Int32)] sz D Y (cSearch Y zA (aS 0) zZ lZ ++ cStand Y aS (hT 0) vS gS ++ cTold Y hT tT)) (qiW rr D (cSearch Y zA (aS 0) zZz lZz ++ cStand Y aS (hT 0) vS gSz ++ cTold Y hT tT) (va_A (cSearch Y zA (aS 0) zZ lZ ++ cStand Y aS (hT 0) vS gS ++ cTold Y hT tT) sz)) 0 0 (va_A (cSearch Y zA (aS 0) zZ lZ ++ cStand Y aS (hT 0) vS gS ++ cTold Y hT tT) sz) := by
  refine Met.ofW (cc := cX0_reaches) (maxL := 6) (ret := (some .boolean)) (by decide) rfl ?_
  intro p e s m args below meth c s₁ B hml hv
  obtain ⟨⟨rfl, hsz, hP, hK, hD0⟩, hNF⟩ := hv
  have hx := B.exec
  have hb := B.bytes
  have hr := B.returns
  have hts := atoms_spec (ws := wsX0_reaches) B.pre
  have hown : s.vm.findClass RX0 = some m.cls := findClass_of_methodNamed B.named
  have hlocks := B.notSynchronized
  subst hsz
  have hD := hD0.self (sz := s.heap.size)
  generalize hAe : va_A (cSearch Y zA (aS 0) zZ lZ ++ cStand Y aS (hT 0) vS gS ++ cTold Y hT tT) s.heap.size = A at hD ⊢
  have hA : ∀ q : Nat, s.heap.size ≤ q → A q := fun q h => by rw [← hAe]; exact Or.inr h
  have hS : va_S A s.heap s.heap [] := va_S.rf
  have hi0 : ∀ w ∈ wsX00, w ∈ wsX0_reaches := fun w h => List.mem_cons_of_mem _ (List.mem_append_left _ (List.mem_append_left _ (List.mem_append_right _ h)))
  have hi1 : ∀ w ∈ wsX10, w ∈ wsX0_reaches := fun w h => List.mem_cons_of_mem _ (List.mem_append_left _ (List.mem_append_right _ h))
  have hi3 : ∀ w ∈ wsX30, w ∈ wsX0_reaches := fun w h => List.mem_cons_of_mem _ (List.mem_append_right _ h)
  have hl := lv_entry ([.ref (zA 0), .int (5 : Int32)]) (n := 6) (Nat.le_of_ble_eq_true rfl)
  rw [lg_entry_eq]
  generalize (lg_sl ([.ref (zA 0), .int (5 : Int32)]) ++ List.replicate (6 - (lg_sl ([.ref (zA 0), .int (5 : Int32)])).length) Slot.unset).toArray = ls at hl ⊢
  have hl : lv_has ls 6 [(0, .ref (zA 0)), (1, .int (5 : Int32))] := hl
  obtain ⟨QQ, hQQ⟩ : ∃ Q : State → Prop, Q = MQ below (qiW rr D (cSearch Y zA (aS 0) zZz lZz ++ cStand Y aS (hT 0) vS gSz ++ cTold Y hT tT) A) ([.ref (zA 0), .int (5 : Int32)] : List Value).toArray s 0 0 A := ⟨_, rfl⟩
  rw [← hQQ]
  unfold MX0_reaches_5B at hM
  suffices hI : ∀ (H : Heap) (locs : List Loc), va_P D vwCl (cSearch Y zA (aS 0) zZ lZ ++ cStand Y aS (hT 0) vS gS ++ cTold Y hT tT) H → va_S A s.heap H locs → W p l e (headSpec wsX0_reaches rmX0_reaches_5B).room s m ([.ref (zA 0), .int (5 : Int32)] : List Value).toArray below meth c H locs 0 0 QQ (F0 m 0 ls []) from hI _ _ hP hS
  clear hP hS
  intro H locs hP hS
  refine lv_iload_n hx hb dX0_reaches_0 rfl (lv_at hl 1 rfl) ?_
  refine lv_iconst (v := (1 : Int32)) hx hb dX0_reaches_1 (by decide) ?_
  refine jn0_at (∀ (H : Heap) (locs : List Loc) (ls : Array Slot), va_P D vwCl (cSearch Y zA (aS 0) zZ lZ ++ cStand Y aS (hT 0) vS gS ++ cTold Y hT tT) H → va_S A s.heap H locs → lv_has ls 6 [] → W p l e (headSpec wsX0_reaches rmX0_reaches_5B).room s m ([.ref (zA 0), .int (5 : Int32)] : List Value).toArray below meth c H locs 0 0 QQ (F0 m 10 ls [])) hM (fun  hM H locs ls hP hS hl => ?_) (fun k1 hJ1 hM => ?_)
  · refine lv_iconst (v := (0 : Int32)) hx hb dX0_reaches_10 (by decide) ?_
    cases hM
    rw [hQQ]
    exact W.zret (ty := .boolean) hx hb hr rfl (fun t ht hW => ⟨⟨_, (), rfl, rfl, by show va_P D vwCl _ t.heap; rw [ht]; exact hP⟩, hS.F ht⟩) hS.2.2 dX0_reaches_11
  · refine lv_icmp_lt (tgt := 10) hx hb dX0_reaches_2 (by decide) (fun c => absurd c (by decide)) (fun _ => ?_)
    refine lv_iload_n hx hb dX0_reaches_5 rfl (lv_at hl 1 rfl) ?_
    refine lv_iconst (v := (5 : Int32)) hx hb dX0_reaches_6 (by decide) ?_
    refine lv_icmp_le (tgt := 12) hx hb dX0_reaches_7 (by decide) (fun _ => ?_) (fun c => absurd c (by decide))
    refine lv_aload_n hx hb dX0_reaches_12 rfl (lv_at hl 0 rfl) ?_
    refine va_get hx hb hts hi0 hown hK hP 0 rfl rfl 0 (by decide) (hts (.fieldLink RX0 20 "NightPlots$Search" "standing" "LNightPlots$Standing;") (List.mem_of_getElem? (i := 1) rfl)) (fun _ h9 => h9) rfl dX0_reaches_13 ?_
    obtain ⟨r2, hc3, hM⟩ := bnd1_at hM
    refine cm_l (w2 := (cSearch Y zA (aS 0) zZ lZ ++ cStand Y aS (hT 0) vS gS ++ cTold Y hT tT)) (va_runV (As := []) (rest := []) ⟨hx, hb, hml, hown, hts⟩ (ctX1_placesKey l D Y aS hT vS H.size gS tT r2 hc3) (cwV 0 hts gX0_reaches_X1_placesKey rfl rfl rfl (by decide +kernel) ⟨Nat.le_of_ble_eq_true rfl, Nat.le_of_ble_eq_true rfl⟩) (pcW_V (ci := 1) (q0 := 9) hK hP (hD.same rfl) [9, 10, 11, 12, 13, 14, 15, 16, 17, 18, 19] rfl (pc_map (pc_cons rfl (pc_cons rfl (pc_cons rfl (pc_cons rfl (pc_cons rfl (pc_cons rfl (pc_cons rfl (pc_cons rfl (pc_cons rfl (pc_cons rfl (pc_cons rfl pc_nil)))))))))))) rfl rfl) rfl rfl hl.1 rfl (lv_room (Nat.le_of_ble_eq_true rfl)) dX0_reaches_16 ⟨Nat.zero_le _, Nat.zero_le _⟩) hP (hD.same rfl) hS hA [9, 10, 11, 12, 13, 14, 15, 16, 17, 18, 19] (pc_map (pc_cons rfl (pc_cons rfl (pc_cons rfl (pc_cons rfl (pc_cons rfl (pc_cons rfl (pc_cons rfl (pc_cons rfl (pc_cons rfl (pc_cons rfl (pc_cons rfl pc_nil)))))))))))) (up_old rfl rfl (up_old rfl rfl (up_old rfl rfl (up_old rfl rfl (up_old rfl rfl (up_old rfl rfl (up_old rfl rfl (up_old rfl rfl (up_old rfl rfl (up_new 0 rfl (up_new 1 rfl (up_new 2 rfl (up_new 3 rfl (up_new 4 rfl (up_new 5 rfl (up_new 6 rfl (up_new 7 rfl (up_new 8 rfl (up_new 9 rfl (up_new 10 rfl up_nil)))))))))))))))))))) (fun H locs hP hS => ?_)
    refine lv_ldc2 (v := (8 : Int64)) hx hb hown (hts (.constantLong RX0 46 (8)) (List.mem_of_getElem? (i := 2) rfl)) dX0_reaches_19 ?_
    refine lv_lmul hx hb dX0_reaches_22 ?_
    refine lv_iload_n hx hb dX0_reaches_23 rfl (lv_at hl 1 rfl) ?_
    refine lv_i2l (v := (5 : Int32).toInt64) hx hb dX0_reaches_24 rfl ?_
    refine lv_ladd hx hb dX0_reaches_25 ?_
    refine lv_topl (fun y4 ey4 => ?_)
    replace hM := nm_at hM ey4
    refine lv_lstore_n (lv' := [(2, .long y4), (0, .ref (zA 0)), (1, .int (5 : Int32))]) hx hb dX0_reaches_26 rfl hl (by decide) rfl (fun ls hl => ?_)
    refine lv_lload_n hx hb dX0_reaches_27 rfl (lv_at hl 0 rfl) ?_
    refine lv_ldc2 (v := (-7046029254386353131 : Int64)) hx hb hown (hts (.constantLong RX0 48 (-7046029254386353131)) (List.mem_of_getElem? (i := 3) rfl)) dX0_reaches_28 ?_
    refine lv_lmul hx hb dX0_reaches_31 ?_
    refine lv_bipush (v := (52 : Int32)) hx hb dX0_reaches_32 (by decide) ?_
    refine lv_lushr (v := ((y4 * (-7046029254386353131 : Int64)).toUInt64 >>> ((52 : Int32).toInt64.toUInt64 &&& Int64.toUInt64 63)).toInt64) hx hb dX0_reaches_34 rfl ?_
    refine lv_l2i (v := (((y4 * (-7046029254386353131 : Int64)).toUInt64 >>> ((52 : Int32).toInt64.toUInt64 &&& Int64.toUInt64 63)).toInt64).toInt32) hx hb dX0_reaches_35 rfl ?_
    refine lv_topi (fun x5 ex5 => ?_)
    replace hM := nm_at hM ex5
    refine lv_istore (lv' := [(4, .int x5), (2, .long y4), (0, .ref (zA 0)), (1, .int (5 : Int32))]) hx hb dX0_reaches_36 hl (by decide) rfl (fun ls hl => ?_)
    refine lv_aload_n hx hb dX0_reaches_38 rfl (lv_at hl 2 rfl) ?_
    refine va_get hx hb hts hi0 hown hK hP 0 rfl rfl 2 (by decide) (hts (.fieldLink RX0 16 "NightPlots$Search" "deadEnds" "[J") (List.mem_of_getElem? (i := 4) rfl)) (fun _ h9 => h9) rfl dX0_reaches_39 ?_
    refine lv_iload hx hb dX0_reaches_42 (lv_at hl 0 rfl) ?_
    obtain ⟨hi_6, hM⟩ := chkI_at hM
    refine va_lald hx hb hK hP 2 1 rfl rfl hi_6 dX0_reaches_44 ?_
    refine lv_lload_n hx hb dX0_reaches_45 rfl (lv_at hl 1 rfl) ?_
    refine W.lcmp hx hb dX0_reaches_46 ?_
    refine lv_if_ne (tgt := 52) hx hb dX0_reaches_47 (by decide) (fun c7 => ?_) (fun c7 => ?_)
    · replace hM := if_at_neg hM c7
      refine lv_iconst (v := (0 : Int32)) hx hb dX0_reaches_52 (by decide) ?_
      refine lv_istore (lv' := [(5, .int (0 : Int32)), (4, .int x5), (2, .long y4), (0, .ref (zA 0)), (1, .int (5 : Int32))]) hx hb dX0_reaches_53 hl (by decide) rfl (fun ls hl => ?_)
      refine jn3_at (fun (zZ_8 : GS) (lZ_9 : Nat → Int64) (gS_10 : GS) => ∀ (H : Heap) (locs : List Loc) (ls : Array Slot), va_P D vwCl (cSearch Y zA (aS 0) zZ_8 lZ_9 ++ cStand Y aS (hT 0) vS gS_10 ++ cTold Y hT tT) H → va_S A s.heap H locs → lv_has ls 6 [(0, .ref (zA 0)), (2, .long y4), (4, .int x5)] → W p l e (headSpec wsX0_reaches rmX0_reaches_5B).room s m ([.ref (zA 0), .int (5 : Int32)] : List Value).toArray below meth c H locs 0 0 QQ (F0 m 98 ls [])) hM (fun zZ_8 lZ_9 gS_10 hM H locs ls hP hS hl => ?_) (fun k11 hJ11 hM => ?_)
      · refine lv_aload_n hx hb dX0_reaches_98 rfl (lv_at hl 0 rfl) ?_
        refine va_get hx hb hts hi0 hown hK hP 0 rfl rfl 2 (by decide) (hts (.fieldLink RX0 16 "NightPlots$Search" "deadEnds" "[J") (List.mem_of_getElem? (i := 4) rfl)) (fun _ h9 => h9) rfl dX0_reaches_99 ?_
        refine lv_iload hx hb dX0_reaches_102 (lv_at hl 2 rfl) ?_
        refine lv_lload_n hx hb dX0_reaches_104 rfl (lv_at hl 1 rfl) ?_
        obtain ⟨hi_12, hM⟩ := chkI_at hM
        refine va_last hx hb hK hP (hD.same rfl) hS 2 1 rfl rfl hi_12 dX0_reaches_105 (fun H locs hP _ hS => ?_)
        obtain ⟨lZ_13, elZ_13⟩ : ∃ z : Nat → Int64, z = (vp_updL lZ_9 x5.toNatClampNeg y4) := ⟨_, rfl⟩
        have hP : va_P D vwCl (cSearch Y zA (aS 0) zZ_8 lZ_13 ++ cStand Y aS (hT 0) vS gS_10 ++ cTold Y hT tT) H := by rw [elZ_13]; exact hP
        replace hM := nm_at hM elZ_13
        refine lv_iconst (v := (0 : Int32)) hx hb dX0_reaches_106 (by decide) ?_
        cases hM
        rw [hQQ]
        exact W.zret (ty := .boolean) hx hb hr rfl (fun t ht hW => ⟨⟨_, (), rfl, rfl, by show va_P D vwCl _ t.heap; rw [ht]; exact hP⟩, hS.F ht⟩) hS.2.2 dX0_reaches_107
      · refine jn3_at (fun (zZ_14 : GS) (lZ_15 : Nat → Int64) (gS_16 : GS) => ∀ (H : Heap) (locs : List Loc) (ls : Array Slot), va_P D vwCl (cSearch Y zA (aS 0) zZ_14 lZ_15 ++ cStand Y aS (hT 0) vS gS_16 ++ cTold Y hT tT) H → va_S A s.heap H locs → lv_has ls 6 [] → W p l e (headSpec wsX0_reaches rmX0_reaches_5B).room s m ([.ref (zA 0), .int (5 : Int32)] : List Value).toArray below meth c H locs 0 0 QQ (F0 m 90 ls [])) hM (fun zZ_14 lZ_15 gS_16 hM H locs ls hP hS hl => ?_) (fun k17 hJ17 hM => ?_)
        · refine lv_iconst (v := (1 : Int32)) hx hb dX0_reaches_90 (by decide) ?_
          cases hM
          rw [hQQ]
          exact W.zret (ty := .boolean) hx hb hr rfl (fun t ht hW => ⟨⟨_, (), rfl, rfl, by show va_P D vwCl _ t.heap; rw [ht]; exact hP⟩, hS.F ht⟩) hS.2.2 dX0_reaches_91
        · refine lq4_at (fun (x18 : Int32) (zZ_19 : GS) (lZ_20 : Nat → Int64) (gS_21 : GS) => ∀ (H : Heap) (locs : List Loc) (ls : Array Slot), va_P D vwCl (cSearch Y zA (aS 0) zZ_19 lZ_20 ++ cStand Y aS (hT 0) vS gS_21 ++ cTold Y hT tT) H → va_S A s.heap H locs → lv_has ls 6 [(0, .ref (zA 0)), (1, .int (5 : Int32)), (2, .long y4), (4, .int x5), (5, .int x18)] → W p l e (headSpec wsX0_reaches rmX0_reaches_5B).room s m ([.ref (zA 0), .int (5 : Int32)] : List Value).toArray below meth c H locs 0 0 QQ (F0 m 55 ls [])) (fun rec22 x18 zZ_19 lZ_20 gS_21 ih22 hM H locs ls hP hS hl => ?_) FU (0 : Int32) zZ lZ gS hM H locs ls hP hS (lv_sub hl [3, 4, 2, 1, 0] rfl)
          unfold BX0_reaches_5B_55 at hM
          refine lv_iload hx hb dX0_reaches_55 (lv_at hl 4 rfl) ?_
          refine lv_aload_n hx hb dX0_reaches_57 rfl (lv_at hl 0 rfl) ?_
          refine va_get hx hb hts hi0 hown hK hP 0 rfl rfl 0 (by decide) (hts (.fieldLink RX0 20 "NightPlots$Search" "standing" "LNightPlots$Standing;") (List.mem_of_getElem? (i := 1) rfl)) (fun _ h9 => h9) rfl dX0_reaches_58 ?_
          refine va_getN hx hb hts hi1 hown hK hP 9 rfl rfl 0 (by decide) (hNF.use rfl) (fun _ h9 => h9) rfl dX0_reaches_61 ?_
          refine va_get hx hb hts hi3 hown hK hP 12 rfl rfl 1 (by decide) (hts (.fieldLink RX0 54 "NightPlots$Told" "houses" "I") (List.mem_of_getElem? (i := 5) rfl)) (fun _ h9 => h9) rfl dX0_reaches_64 ?_
          refine lv_icmp_ge (tgt := 98) hx hb dX0_reaches_67 (by decide) (fun c23 => ?_) (fun c23 => ?_)
          · replace hM := if_at_pos hM c23
            exact hJ11 zZ_19 lZ_20 gS_21 hM H locs ls hP hS (lv_sub hl [0, 2, 3] rfl)
          · replace hM := if_at_neg hM c23
            refine lv_aload_n hx hb dX0_reaches_70 rfl (lv_at hl 0 rfl) ?_
            refine lv_iload hx hb dX0_reaches_71 (lv_at hl 4 rfl) ?_
            refine lv_iload_n hx hb dX0_reaches_73 rfl (lv_at hl 1 rfl) ?_
            obtain ⟨r24, hc25, hM⟩ := bnd1_at hM
            refine cm_i (w2 := (cSearch Y zA (aS 0) zZ_19 lZ_20 ++ cStand Y aS (hT 0) vS gS_21 ++ cTold Y hT tT)) (va_runV (As := [.int x18, .int (5 : Int32)]) (rest := []) ⟨hx, hb, hml, hown, hts⟩ (ctX0_mayHelp l D Y zA (aS 0) H.size zZ_19 lZ_20 x18 (5 : Int32) r24 hc25) (cwV 2 hts gX0_reaches_X0_mayHelp rfl rfl rfl (by decide +kernel) ⟨Nat.le_of_ble_eq_true rfl, Nat.le_of_ble_eq_true rfl⟩) (pcW_V (ci := 0) (q0 := 0) hK hP (hD.same rfl) [0, 1, 2, 3, 4, 5, 6, 7, 8] rfl (pc_map (pc_cons rfl (pc_cons rfl (pc_cons rfl (pc_cons rfl (pc_cons rfl (pc_cons rfl (pc_cons rfl (pc_cons rfl (pc_cons rfl pc_nil)))))))))) rfl rfl) rfl rfl hl.1 rfl (lv_room (Nat.le_of_ble_eq_true rfl)) dX0_reaches_74 ⟨Nat.zero_le _, Nat.zero_le _⟩) hP (hD.same rfl) hS hA [0, 1, 2, 3, 4, 5, 6, 7, 8] (pc_map (pc_cons rfl (pc_cons rfl (pc_cons rfl (pc_cons rfl (pc_cons rfl (pc_cons rfl (pc_cons rfl (pc_cons rfl (pc_cons rfl pc_nil)))))))))) (up_new 0 rfl (up_new 1 rfl (up_new 2 rfl (up_new 3 rfl (up_new 4 rfl (up_new 5 rfl (up_new 6 rfl (up_new 7 rfl (up_new 8 rfl (up_old rfl rfl (up_old rfl rfl (up_old rfl rfl (up_old rfl rfl (up_old rfl rfl (up_old rfl rfl (up_old rfl rfl (up_old rfl rfl (up_old rfl rfl (up_old rfl rfl (up_old rfl rfl up_nil)))))))))))))))))))) (fun H locs hP hS => ?_)
            refine jn3_at (fun (zZ_26 : GS) (lZ_27 : Nat → Int64) (gS_28 : GS) => ∀ (H : Heap) (locs : List Loc) (ls : Array Slot), va_P D vwCl (cSearch Y zA (aS 0) zZ_26 lZ_27 ++ cStand Y aS (hT 0) vS gS_28 ++ cTold Y hT tT) H → va_S A s.heap H locs → lv_has ls 6 [(0, .ref (zA 0)), (1, .int (5 : Int32)), (2, .long y4), (4, .int x5), (5, .int x18)] → W p l e (headSpec wsX0_reaches rmX0_reaches_5B).room s m ([.ref (zA 0), .int (5 : Int32)] : List Value).toArray below meth c H locs 0 0 QQ (F0 m 92 ls [])) hM (fun zZ_26 lZ_27 gS_28 hM H locs ls hP hS hl => ?_) (fun k29 hJ29 hM => ?_)
            · obtain ⟨x30, ex30⟩ : ∃ z : Int32, z = (x18 + 1) := ⟨_, rfl⟩
              replace hM := nm_at hM ex30
              refine lv_iinc (v := x30) (lv' := [(5, .int x30), (0, .ref (zA 0)), (1, .int (5 : Int32)), (2, .long y4), (4, .int x5)]) hx hb dX0_reaches_92 hl (k := 4) rfl (by rw [ex30]; rfl) (by decide) rfl (fun ls hl => ?_)
              refine lv_goto (tgt := 55) hx hb dX0_reaches_95 (by decide) ?_
              exact ih22 x30 zZ_26 lZ_27 gS_28 hM H locs ls hP hS (lv_sub hl [1, 2, 3, 4, 0] rfl)
            · refine lv_if_eq (tgt := 92) hx hb dX0_reaches_77 (by decide) (fun c31 => ?_) (fun c31 => ?_)
              · replace hM := if_at_pos hM c31
                exact hJ29 zZ_19 lZ_20 gS_21 hM H locs ls hP hS (lv_sub hl [0, 1, 2, 3, 4] rfl)
              · replace hM := if_at_neg hM c31
                refine lv_aload_n hx hb dX0_reaches_80 rfl (lv_at hl 0 rfl) ?_
                refine lv_iload hx hb dX0_reaches_81 (lv_at hl 4 rfl) ?_
                refine lv_iload_n hx hb dX0_reaches_83 rfl (lv_at hl 1 rfl) ?_
                obtain ⟨r32, zZ_33, lZ_34, gS_35, hc36, hM⟩ := bnd4_at hM
                refine co_i (va_runS (As := [.ref (zA 0), .int x18, .int (5 : Int32)]) (rest := []) ⟨hx, hb, hml, hown, hts⟩ (ctX0_reachesBy_5 l D Y zA aS hT vS H.size zZ_19 lZ_20 gS_21 tT x18 r32 zZ_33 lZ_34 gS_35 hc36) ⟨callB_of 3 hts ggX0_reaches_X0_reachesBy rfl rfl rfl (hts (.initialized RX0) (List.mem_of_getElem? (i := 17) rfl)) (hts (.methodLink RX0 63 yX0_reachesBy) (List.mem_of_getElem? (i := 21) rfl)) (by decide +kernel) ⟨Nat.le_of_ble_eq_true rfl, Nat.le_of_ble_eq_true rfl⟩, (hts (.static yX0_reachesBy) (List.mem_of_getElem? (i := 22) rfl))⟩ (pcN_S hNF (pcW_S0 hK hP (hD.same rfl))) rfl rfl hl.1 rfl (lv_room (Nat.le_of_ble_eq_true rfl)) dX0_reaches_84 ⟨Nat.zero_le _, Nat.zero_le _⟩) (hD.same rfl) hS hA (fun H locs hP hS => ?_)
                refine lv_if_eq (tgt := 92) hx hb dX0_reaches_87 (by decide) (fun c37 => ?_) (fun c37 => ?_)
                · replace hM := if_at_pos hM c37
                  exact hJ29 zZ_33 lZ_34 gS_35 hM H locs ls hP hS (lv_sub hl [0, 1, 2, 3, 4] rfl)
                · replace hM := if_at_neg hM c37
                  exact hJ17 zZ_33 lZ_34 gS_35 hM H locs ls hP hS (lv_sub hl [] rfl)
    · replace hM := if_at_pos hM c7
      refine lv_iconst (v := (0 : Int32)) hx hb dX0_reaches_50 (by decide) ?_
      cases hM
      rw [hQQ]
      exact W.zret (ty := .boolean) hx hb hr rfl (fun t ht hW => ⟨⟨_, (), rfl, rfl, by show va_P D vwCl _ t.heap; rw [ht]; exact hP⟩, hS.F ht⟩) hS.2.2 dX0_reaches_51
noncomputable def MX0_reaches (zZ : GS) (lZ : Nat → Int64) (gS : GS) (tT : GS) (i2 : Int32) : Option (Int32 × GS × (Nat → Int64) × GS) := if i2 = (1 : Int32) then MX0_reaches_1B zZ lZ gS tT else if i2 = (2 : Int32) then MX0_reaches_2B zZ lZ gS tT else if i2 = (3 : Int32) then MX0_reaches_3B zZ lZ gS tT else if i2 = (4 : Int32) then MX0_reaches_4B zZ lZ gS tT else if i2 = (5 : Int32) then MX0_reaches_5B zZ lZ gS tT else none
set_option maxHeartbeats 4000000 in
set_option maxRecDepth 100000 in
theorem ctX0_reaches (l : Launch) (D : va_G) (Y : Nat → ClassId) (zA : Nat → Nat) (aS : Nat → Nat) (hT : Nat → Nat) (vS : Nat) (sz : Nat) (zZ : GS) (lZ : Nat → Int64) (gS : GS) (tT : GS) (i2 : Int32) (rr : Int32) (zZz : GS) (lZz : Nat → Int64) (gSz : GS) (hM : MX0_reaches zZ lZ gS tT i2 = some (rr, zZz, lZz, gSz)) : Met l yX0_reaches wsX0_reaches rmX0_reaches_5 (pcN [.ref (zA 0), .int i2] sz D Y (cSearch Y zA (aS 0) zZ lZ ++ cStand Y aS (hT 0) vS gS ++ cTold Y hT tT)) (qiW rr D (cSearch Y zA (aS 0) zZz lZz ++ cStand Y aS (hT 0) vS gSz ++ cTold Y hT tT) (va_A (cSearch Y zA (aS 0) zZ lZ ++ cStand Y aS (hT 0) vS gS ++ cTold Y hT tT) sz)) 0 0 (va_A (cSearch Y zA (aS 0) zZ lZ ++ cStand Y aS (hT 0) vS gS ++ cTold Y hT tT) sz) := by
  unfold MX0_reaches at hM
  by_cases c1 : i2 = (1 : Int32)
  · replace hM := if_at_pos hM c1
    subst c1
    exact ctX0_reaches_1B l D Y zA aS hT vS sz zZ lZ gS tT rr zZz lZz gSz hM
  replace hM := if_at_neg hM c1
  by_cases c2 : i2 = (2 : Int32)
  · replace hM := if_at_pos hM c2
    subst c2
    exact ctX0_reaches_2B l D Y zA aS hT vS sz zZ lZ gS tT rr zZz lZz gSz hM
  replace hM := if_at_neg hM c2
  by_cases c3 : i2 = (3 : Int32)
  · replace hM := if_at_pos hM c3
    subst c3
    exact ctX0_reaches_3B l D Y zA aS hT vS sz zZ lZ gS tT rr zZz lZz gSz hM
  replace hM := if_at_neg hM c3
  by_cases c4 : i2 = (4 : Int32)
  · replace hM := if_at_pos hM c4
    subst c4
    exact ctX0_reaches_4B l D Y zA aS hT vS sz zZ lZ gS tT rr zZz lZz gSz hM
  replace hM := if_at_neg hM c4
  by_cases c5 : i2 = (5 : Int32)
  · replace hM := if_at_pos hM c5
    subst c5
    exact ctX0_reaches_5B l D Y zA aS hT vS sz zZ lZ gS tT rr zZz lZz gSz hM
  replace hM := if_at_neg hM c5
  cases hM
