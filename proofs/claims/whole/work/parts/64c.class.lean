noncomputable def MX4_back (nS : GS) (gN : GS) (gK : GS) (gL : GS) (i1 : Int32) : Option (Int32 × GS) := jn0 (some ((-2 : Int32), gN)) (fun k1 => if i1 < 0 then (k1) else (if i1 < (2 : Int32) then (chkI i1 2 (if (nS 2 i1.toNatClampNeg) = 0 then (some ((-4 : Int32), gN)) else (chkI i1 2 (if i1 = 0 then (bnd1 (MX1_copyFrom gN gK) fun (gS_8 : GS) => some ((gS_8 0 5), gS_8)) else (bnd1 (MX1_copyFrom gN gL) fun (gS_10 : GS) => some ((gS_10 0 5), gS_10)))))) else (k1)))
abbrev rmX4_back : Room := { frames := 3, cells := 0, slots := 0, locals := 120 }
set_option maxHeartbeats 4000000 in
set_option maxRecDepth 100000 in
theorem ctX4_back (l : Launch) (D : va_G) (Y : Nat → ClassId) (nN : Nat → Nat) (aN : Nat → Nat) (aK : Nat → Nat) (aL : Nat → Nat) (uT : Nat) (uD : Nat) (uX : Nat) (uA : Nat) (uZ : Nat) (uW : Nat) (uP : Nat) (vN : Nat) (vK : Nat) (vL : Nat) (sz : Nat) (nS : GS) (gN : GS) (gK : GS) (gL : GS) (i1 : Int32) (rr : Int32) (gNz : GS) (hM : MX4_back nS gN gK gL i1 = some (rr, gNz)) : Met l yX4_back wsX4_back rmX4_back (pcW [.ref (nN 0), .int i1] sz D Y (cMain Y nN uT uD uX (aN 0) uA uZ uW uP (aK 0) (aL 0) nS ++ cStand Y aN uT vN gN ++ cStand Y aK uT vK gK ++ cStand Y aL uT vL gL)) (qiW rr D (cMain Y nN uT uD uX (aN 0) uA uZ uW uP (aK 0) (aL 0) nS ++ cStand Y aN uT vN gNz ++ cStand Y aK uT vK gK ++ cStand Y aL uT vL gL) (va_A (cMain Y nN uT uD uX (aN 0) uA uZ uW uP (aK 0) (aL 0) nS ++ cStand Y aN uT vN gN ++ cStand Y aK uT vK gK ++ cStand Y aL uT vL gL) sz)) 0 0 (va_A (cMain Y nN uT uD uX (aN 0) uA uZ uW uP (aK 0) (aL 0) nS ++ cStand Y aN uT vN gN ++ cStand Y aK uT vK gK ++ cStand Y aL uT vL gL) sz) := by
  refine Met.ofW (cc := cX4_back) (maxL := 2) (ret := (some .int)) (by decide) rfl ?_
  intro p e s m args below meth c s₁ B hml hv
  obtain ⟨rfl, hsz, hP, hK, hD0⟩ := hv
  have hx := B.exec
  have hb := B.bytes
  have hr := B.returns
  have hts := atoms_spec (ws := wsX4_back) B.pre
  have hown : s.vm.findClass RX4 = some m.cls := findClass_of_methodNamed B.named
  have hlocks := B.notSynchronized
  subst hsz
  have hD := hD0.self (sz := s.heap.size)
  generalize hAe : va_A (cMain Y nN uT uD uX (aN 0) uA uZ uW uP (aK 0) (aL 0) nS ++ cStand Y aN uT vN gN ++ cStand Y aK uT vK gK ++ cStand Y aL uT vL gL) s.heap.size = A at hD ⊢
  have hA : ∀ q : Nat, s.heap.size ≤ q → A q := fun q h => by rw [← hAe]; exact Or.inr h
  have hS : va_S A s.heap s.heap [] := va_S.rf
  have hi1 : ∀ w ∈ wsX10, w ∈ wsX4_back := fun w h => List.mem_cons_of_mem _ (List.mem_append_right _ h)
  have hi4 : ∀ w ∈ wsX40, w ∈ wsX4_back := fun w h => List.mem_cons_of_mem _ (List.mem_append_left _ (List.mem_append_right _ h))
  have hl := lv_entry ([.ref (nN 0), .int i1]) (n := 2) (Nat.le_of_ble_eq_true rfl)
  rw [lg_entry_eq]
  generalize (lg_sl ([.ref (nN 0), .int i1]) ++ List.replicate (2 - (lg_sl ([.ref (nN 0), .int i1])).length) Slot.unset).toArray = ls at hl ⊢
  have hl : lv_has ls 2 [(0, .ref (nN 0)), (1, .int i1)] := hl
  obtain ⟨QQ, hQQ⟩ : ∃ Q : State → Prop, Q = MQ below (qiW rr D (cMain Y nN uT uD uX (aN 0) uA uZ uW uP (aK 0) (aL 0) nS ++ cStand Y aN uT vN gNz ++ cStand Y aK uT vK gK ++ cStand Y aL uT vL gL) A) ([.ref (nN 0), .int i1] : List Value).toArray s 0 0 A := ⟨_, rfl⟩
  rw [← hQQ]
  unfold MX4_back at hM
  suffices hI : ∀ (H : Heap) (locs : List Loc), va_P D vwCl (cMain Y nN uT uD uX (aN 0) uA uZ uW uP (aK 0) (aL 0) nS ++ cStand Y aN uT vN gN ++ cStand Y aK uT vK gK ++ cStand Y aL uT vL gL) H → va_S A s.heap H locs → W p l e (headSpec wsX4_back rmX4_back).room s m ([.ref (nN 0), .int i1] : List Value).toArray below meth c H locs 0 0 QQ (F0 m 0 ls []) from hI _ _ hP hS
  clear hP hS
  intro H locs hP hS
  refine lv_iload_n hx hb dX4_back_0 rfl (lv_at hl 1 rfl) ?_
  refine jn0_at (∀ (H : Heap) (locs : List Loc) (ls : Array Slot), va_P D vwCl (cMain Y nN uT uD uX (aN 0) uA uZ uW uP (aK 0) (aL 0) nS ++ cStand Y aN uT vN gN ++ cStand Y aK uT vK gK ++ cStand Y aL uT vL gL) H → va_S A s.heap H locs → lv_has ls 2 [] → W p l e (headSpec wsX4_back rmX4_back).room s m ([.ref (nN 0), .int i1] : List Value).toArray below meth c H locs 0 0 QQ (F0 m 9 ls [])) hM (fun  hM H locs ls hP hS hl => ?_) (fun k1 hJ1 hM => ?_)
  · refine lv_bipush (v := (-2 : Int32)) hx hb dX4_back_9 (by decide) ?_
    cases hM
    rw [hQQ]
    exact W.iret hx hb hr (fun t ht hW => ⟨⟨_, (), rfl, rfl, by show va_P D vwCl _ t.heap; rw [ht]; exact hP⟩, hS.F ht⟩) hS.2.2 dX4_back_11
  · refine lv_if_lt (tgt := 9) hx hb dX4_back_1 (by decide) (fun c2 => ?_) (fun c2 => ?_)
    · replace hM := if_at_pos hM c2
      exact hJ1 hM H locs ls hP hS (lv_sub hl [] rfl)
    · replace hM := if_at_neg hM c2
      refine lv_iload_n hx hb dX4_back_4 rfl (lv_at hl 1 rfl) ?_
      refine lv_iconst (v := (2 : Int32)) hx hb dX4_back_5 (by decide) ?_
      refine lv_icmp_lt (tgt := 12) hx hb dX4_back_6 (by decide) (fun c3 => ?_) (fun c3 => ?_)
      · replace hM := if_at_pos hM c3
        refine lv_aload_n hx hb dX4_back_12 rfl (lv_at hl 0 rfl) ?_
        refine va_get hx hb hts hi4 hown hK hP 0 rfl rfl 6 (by decide) (hts (.fieldLink RX4 42 "NightPlots" "isKept" "[Z") (List.mem_of_getElem? (i := 1) rfl)) (fun _ h9 => h9) rfl dX4_back_13 ?_
        refine lv_iload_n hx hb dX4_back_16 rfl (lv_at hl 1 rfl) ?_
        obtain ⟨hi_4, hM⟩ := chkI_at hM
        refine va_zald hx hb hK hP 2 2 rfl rfl hi_4 dX4_back_17 ?_
        refine lv_if_ne (tgt := 24) hx hb dX4_back_18 (by decide) (fun c5 => ?_) (fun c5 => ?_)
        · replace hM := if_at_neg hM c5
          refine lv_aload_n hx hb dX4_back_24 rfl (lv_at hl 0 rfl) ?_
          refine va_get hx hb hts hi4 hown hK hP 0 rfl rfl 3 (by decide) (hts (.fieldLink RX4 31 "NightPlots" "now" "LNightPlots$Standing;") (List.mem_of_getElem? (i := 2) rfl)) (fun _ h9 => h9) rfl dX4_back_25 ?_
          refine lv_aload_n hx hb dX4_back_28 rfl (lv_at hl 0 rfl) ?_
          refine va_get hx hb hts hi4 hown hK hP 0 rfl rfl 5 (by decide) (hts (.fieldLink RX4 38 "NightPlots" "kept" "[LNightPlots$Standing;") (List.mem_of_getElem? (i := 3) rfl)) (fun _ h9 => h9) rfl dX4_back_29 ?_
          refine lv_iload_n hx hb dX4_back_32 rfl (lv_at hl 1 rfl) ?_
          obtain ⟨hi_6, hM⟩ := chkI_at hM
          by_cases c7 : i1 = 0
          · replace hM := if_at_pos hM c7
            refine va_ald1 (v := .ref (aK 0)) hx hb hK hP 1 3 rfl rfl hi_6 (by rw [c7]; rfl) dX4_back_33 ?_
            obtain ⟨gS_8, hc9, hM⟩ := bnd1_at hM
            refine cm_v (w2 := (cMain Y nN uT uD uX (aN 0) uA uZ uW uP (aK 0) (aL 0) nS ++ cStand Y aN uT vN gS_8 ++ cStand Y aK uT vK gK ++ cStand Y aL uT vL gL)) (va_runV (As := [.ref (aK 0)]) (rest := []) ⟨hx, hb, hml, hown, hts⟩ (ctX1_copyFrom l D Y aN aK uT vN uT vK H.size gN gK gS_8 hc9) (cwV 1 hts gX4_back_X1_copyFrom rfl rfl rfl (by decide +kernel) ⟨Nat.le_of_ble_eq_true rfl, Nat.le_of_ble_eq_true rfl⟩) (pcW_V (ci := 1) (q0 := 6) hK hP (hD.same rfl) [6, 7, 8, 9, 10, 11] rfl (pc_map (pc_cons rfl (pc_cons rfl (pc_cons rfl (pc_cons rfl (pc_cons rfl (pc_cons rfl pc_nil))))))) rfl rfl) rfl rfl hl.1 rfl (lv_room (Nat.le_of_ble_eq_true rfl)) dX4_back_34 ⟨Nat.zero_le _, Nat.zero_le _⟩) hP (hD.same rfl) hS hA [6, 7, 8, 9, 10, 11] (pc_map (pc_cons rfl (pc_cons rfl (pc_cons rfl (pc_cons rfl (pc_cons rfl (pc_cons rfl pc_nil))))))) (up_old rfl rfl (up_old rfl rfl (up_old rfl rfl (up_old rfl rfl (up_old rfl rfl (up_old rfl rfl (up_new 0 rfl (up_new 1 rfl (up_new 2 rfl (up_new 3 rfl (up_new 4 rfl (up_new 5 rfl (up_old rfl rfl (up_old rfl rfl (up_old rfl rfl up_nil))))))))))))))) (fun H locs hP hS => ?_)
            refine lv_aload_n hx hb dX4_back_37 rfl (lv_at hl 0 rfl) ?_
            refine va_get hx hb hts hi4 hown hK hP 0 rfl rfl 3 (by decide) (hts (.fieldLink RX4 31 "NightPlots" "now" "LNightPlots$Standing;") (List.mem_of_getElem? (i := 2) rfl)) (fun _ h9 => h9) rfl dX4_back_38 ?_
            refine va_get hx hb hts hi1 hown hK hP 6 rfl rfl 5 (by decide) (hts (.fieldLink RX4 119 "NightPlots$Standing" "nights" "I") (List.mem_of_getElem? (i := 4) rfl)) (fun _ h9 => h9) rfl dX4_back_41 ?_
            cases hM
            rw [hQQ]
            exact W.iret hx hb hr (fun t ht hW => ⟨⟨_, (), rfl, rfl, by show va_P D vwCl _ t.heap; rw [ht]; exact hP⟩, hS.F ht⟩) hS.2.2 dX4_back_44
          · replace hM := if_at_neg hM c7
            refine va_ald1 (v := .ref (aL 0)) hx hb hK hP 1 3 rfl rfl hi_6 (by rw [in2 hi_6 c7]; rfl) dX4_back_33 ?_
            obtain ⟨gS_10, hc11, hM⟩ := bnd1_at hM
            refine cm_v (w2 := (cMain Y nN uT uD uX (aN 0) uA uZ uW uP (aK 0) (aL 0) nS ++ cStand Y aN uT vN gS_10 ++ cStand Y aK uT vK gK ++ cStand Y aL uT vL gL)) (va_runV (As := [.ref (aL 0)]) (rest := []) ⟨hx, hb, hml, hown, hts⟩ (ctX1_copyFrom l D Y aN aL uT vN uT vL H.size gN gL gS_10 hc11) (cwV 1 hts gX4_back_X1_copyFrom rfl rfl rfl (by decide +kernel) ⟨Nat.le_of_ble_eq_true rfl, Nat.le_of_ble_eq_true rfl⟩) (pcW_V (ci := 1) (q0 := 6) hK hP (hD.same rfl) [6, 7, 8, 12, 13, 14] rfl (pc_map (pc_cons rfl (pc_cons rfl (pc_cons rfl (pc_cons rfl (pc_cons rfl (pc_cons rfl pc_nil))))))) rfl rfl) rfl rfl hl.1 rfl (lv_room (Nat.le_of_ble_eq_true rfl)) dX4_back_34 ⟨Nat.zero_le _, Nat.zero_le _⟩) hP (hD.same rfl) hS hA [6, 7, 8, 12, 13, 14] (pc_map (pc_cons rfl (pc_cons rfl (pc_cons rfl (pc_cons rfl (pc_cons rfl (pc_cons rfl pc_nil))))))) (up_old rfl rfl (up_old rfl rfl (up_old rfl rfl (up_old rfl rfl (up_old rfl rfl (up_old rfl rfl (up_new 0 rfl (up_new 1 rfl (up_new 2 rfl (up_old rfl rfl (up_old rfl rfl (up_old rfl rfl (up_new 3 rfl (up_new 4 rfl (up_new 5 rfl up_nil))))))))))))))) (fun H locs hP hS => ?_)
            refine lv_aload_n hx hb dX4_back_37 rfl (lv_at hl 0 rfl) ?_
            refine va_get hx hb hts hi4 hown hK hP 0 rfl rfl 3 (by decide) (hts (.fieldLink RX4 31 "NightPlots" "now" "LNightPlots$Standing;") (List.mem_of_getElem? (i := 2) rfl)) (fun _ h9 => h9) rfl dX4_back_38 ?_
            refine va_get hx hb hts hi1 hown hK hP 6 rfl rfl 5 (by decide) (hts (.fieldLink RX4 119 "NightPlots$Standing" "nights" "I") (List.mem_of_getElem? (i := 4) rfl)) (fun _ h9 => h9) rfl dX4_back_41 ?_
            cases hM
            rw [hQQ]
            exact W.iret hx hb hr (fun t ht hW => ⟨⟨_, (), rfl, rfl, by show va_P D vwCl _ t.heap; rw [ht]; exact hP⟩, hS.F ht⟩) hS.2.2 dX4_back_44
        · replace hM := if_at_pos hM c5
          refine lv_bipush (v := (-4 : Int32)) hx hb dX4_back_21 (by decide) ?_
          cases hM
          rw [hQQ]
          exact W.iret hx hb hr (fun t ht hW => ⟨⟨_, (), rfl, rfl, by show va_P D vwCl _ t.heap; rw [ht]; exact hP⟩, hS.F ht⟩) hS.2.2 dX4_back_23
      · replace hM := if_at_neg hM c3
        exact hJ1 hM H locs ls hP hS (lv_sub hl [] rfl)
noncomputable def BX4_later_37 (i2 : Int32) (k11 : GS → (Nat → Int32) → Option (Int32 × GS × (Nat → Int32))) (tT : GS) (rec16 : Int32 → GS → (Nat → Int32) → Option (Int32 × GS × (Nat → Int32))) (x13 : Int32) (gA_14 : GS) (fA_15 : Nat → Int32) : Option (Int32 × GS × (Nat → Int32)) := if i2 ≤ x13 then (k11 gA_14 fA_15) else (bnd2 (MX1_passNight gA_14 fA_15 tT (tT 0 4)) fun (gS_18 : GS) (fW_19 : Nat → Int32) => nm (x13 + 1) fun (x21 : Int32) => rec16 x21 gS_18 fW_19)
noncomputable def MX4_later (tT : GS) (gN : GS) (gA : GS) (fA : Nat → Int32) (i1 : Int32) (i2 : Int32) : Option (Int32 × GS × (Nat → Int32)) := bnd1 (MX4_isHouse tT i1) fun (r1 : Int32) => if r1 = 0 then (some ((-2 : Int32), gA, fA)) else (jn0 (some ((-3 : Int32), gA, fA)) (fun k4 => if i2 < 0 then (k4) else (if i2 ≤ (99 : Int32) then (bnd1 (MX1_copyFrom gA gN) fun (gS_7 : GS) => jn2 (fun (gA_9 : GS) (fA_10 : Nat → Int32) => chkI i1 8 (some ((gA_9 1 i1.toNatClampNeg), gA_9, fA_10))) (fun k11 => lq3 (BX4_later_37 i2 k11 tT) FU (0 : Int32) gS_7 fA)) else (k4))))
abbrev rmX4_later : Room := { frames := 6, cells := 0, slots := 0, locals := 240 }
set_option maxHeartbeats 4000000 in
set_option maxRecDepth 100000 in
theorem ctX4_later (l : Launch) (D : va_G) (Y : Nat → ClassId) (nN : Nat → Nat) (hT : Nat → Nat) (aN : Nat → Nat) (aA : Nat → Nat) (vA : Nat) (uD : Nat) (uX : Nat) (uZ : Nat) (uW : Nat) (uP : Nat) (uK : Nat) (uL : Nat) (vN : Nat) (sz : Nat) (nS : GS) (tT : GS) (gN : GS) (gA : GS) (fA : Nat → Int32) (i1 : Int32) (i2 : Int32) (rr : Int32) (gAz : GS) (fAz : Nat → Int32) (hM : MX4_later tT gN gA fA i1 i2 = some (rr, gAz, fAz)) : Met l yX4_later wsX4_later rmX4_later (pcW [.ref (nN 0), .int i1, .int i2] sz D Y (cMain Y nN (hT 0) uD uX (aN 0) (aA 0) uZ uW uP uK uL nS ++ cTold Y hT tT ++ cStand Y aN (hT 0) vN gN ++ cStand Y aA (hT 0) vA gA ++ cRow Y vA 8 fA)) (qiW rr D (cMain Y nN (hT 0) uD uX (aN 0) (aA 0) uZ uW uP uK uL nS ++ cTold Y hT tT ++ cStand Y aN (hT 0) vN gN ++ cStand Y aA (hT 0) vA gAz ++ cRow Y vA 8 fAz) (va_A (cMain Y nN (hT 0) uD uX (aN 0) (aA 0) uZ uW uP uK uL nS ++ cTold Y hT tT ++ cStand Y aN (hT 0) vN gN ++ cStand Y aA (hT 0) vA gA ++ cRow Y vA 8 fA) sz)) 0 0 (va_A (cMain Y nN (hT 0) uD uX (aN 0) (aA 0) uZ uW uP uK uL nS ++ cTold Y hT tT ++ cStand Y aN (hT 0) vN gN ++ cStand Y aA (hT 0) vA gA ++ cRow Y vA 8 fA) sz) := by
  refine Met.ofW (cc := cX4_later) (maxL := 4) (ret := (some .int)) (by decide) rfl ?_
  intro p e s m args below meth c s₁ B hml hv
  obtain ⟨rfl, hsz, hP, hK, hD0⟩ := hv
  have hx := B.exec
  have hb := B.bytes
  have hr := B.returns
  have hts := atoms_spec (ws := wsX4_later) B.pre
  have hown : s.vm.findClass RX4 = some m.cls := findClass_of_methodNamed B.named
  have hlocks := B.notSynchronized
  subst hsz
  have hD := hD0.self (sz := s.heap.size)
  generalize hAe : va_A (cMain Y nN (hT 0) uD uX (aN 0) (aA 0) uZ uW uP uK uL nS ++ cTold Y hT tT ++ cStand Y aN (hT 0) vN gN ++ cStand Y aA (hT 0) vA gA ++ cRow Y vA 8 fA) s.heap.size = A at hD ⊢
  have hA : ∀ q : Nat, s.heap.size ≤ q → A q := fun q h => by rw [← hAe]; exact Or.inr h
  have hS : va_S A s.heap s.heap [] := va_S.rf
  have hi1 : ∀ w ∈ wsX10, w ∈ wsX4_later := fun w h => List.mem_cons_of_mem _ (List.mem_append_right _ h)
  have hi3 : ∀ w ∈ wsX30, w ∈ wsX4_later := fun w h => List.mem_cons_of_mem _ (List.mem_append_left _ (List.mem_append_right _ h))
  have hi4 : ∀ w ∈ wsX40, w ∈ wsX4_later := fun w h => List.mem_cons_of_mem _ (List.mem_append_left _ (List.mem_append_left _ (List.mem_append_right _ h)))
  have hl := lv_entry ([.ref (nN 0), .int i1, .int i2]) (n := 4) (Nat.le_of_ble_eq_true rfl)
  rw [lg_entry_eq]
  generalize (lg_sl ([.ref (nN 0), .int i1, .int i2]) ++ List.replicate (4 - (lg_sl ([.ref (nN 0), .int i1, .int i2])).length) Slot.unset).toArray = ls at hl ⊢
  have hl : lv_has ls 4 [(0, .ref (nN 0)), (1, .int i1), (2, .int i2)] := hl
  obtain ⟨QQ, hQQ⟩ : ∃ Q : State → Prop, Q = MQ below (qiW rr D (cMain Y nN (hT 0) uD uX (aN 0) (aA 0) uZ uW uP uK uL nS ++ cTold Y hT tT ++ cStand Y aN (hT 0) vN gN ++ cStand Y aA (hT 0) vA gAz ++ cRow Y vA 8 fAz) A) ([.ref (nN 0), .int i1, .int i2] : List Value).toArray s 0 0 A := ⟨_, rfl⟩
  rw [← hQQ]
  unfold MX4_later at hM
  suffices hI : ∀ (H : Heap) (locs : List Loc), va_P D vwCl (cMain Y nN (hT 0) uD uX (aN 0) (aA 0) uZ uW uP uK uL nS ++ cTold Y hT tT ++ cStand Y aN (hT 0) vN gN ++ cStand Y aA (hT 0) vA gA ++ cRow Y vA 8 fA) H → va_S A s.heap H locs → W p l e (headSpec wsX4_later rmX4_later).room s m ([.ref (nN 0), .int i1, .int i2] : List Value).toArray below meth c H locs 0 0 QQ (F0 m 0 ls []) from hI _ _ hP hS
  clear hP hS
  intro H locs hP hS
  refine lv_aload_n hx hb dX4_later_0 rfl (lv_at hl 0 rfl) ?_
  refine lv_iload_n hx hb dX4_later_1 rfl (lv_at hl 1 rfl) ?_
  obtain ⟨r1, hc2, hM⟩ := bnd1_at hM
  refine cm_i (w2 := (cMain Y nN (hT 0) uD uX (aN 0) (aA 0) uZ uW uP uK uL nS ++ cTold Y hT tT ++ cStand Y aN (hT 0) vN gN ++ cStand Y aA (hT 0) vA gA ++ cRow Y vA 8 fA)) (va_runV (As := [.int i1]) (rest := []) ⟨hx, hb, hml, hown, hts⟩ (ctX4_isHouse l D Y nN hT uD uX (aN 0) (aA 0) uZ uW uP uK uL H.size nS tT i1 r1 hc2) (cwV 1 hts gX4_later_X4_isHouse rfl rfl rfl (by decide +kernel) ⟨Nat.le_of_ble_eq_true rfl, Nat.le_of_ble_eq_true rfl⟩) (pcW_V (ci := 4) (q0 := 0) hK hP (hD.same rfl) [0, 1, 2, 3, 4, 5, 6, 7, 8, 9, 10, 11, 12, 13] rfl (pc_map (pc_cons rfl (pc_cons rfl (pc_cons rfl (pc_cons rfl (pc_cons rfl (pc_cons rfl (pc_cons rfl (pc_cons rfl (pc_cons rfl (pc_cons rfl (pc_cons rfl (pc_cons rfl (pc_cons rfl (pc_cons rfl pc_nil))))))))))))))) rfl rfl) rfl rfl hl.1 rfl (lv_room (Nat.le_of_ble_eq_true rfl)) dX4_later_2 ⟨Nat.zero_le _, Nat.zero_le _⟩) hP (hD.same rfl) hS hA [0, 1, 2, 3, 4, 5, 6, 7, 8, 9, 10, 11, 12, 13] (pc_map (pc_cons rfl (pc_cons rfl (pc_cons rfl (pc_cons rfl (pc_cons rfl (pc_cons rfl (pc_cons rfl (pc_cons rfl (pc_cons rfl (pc_cons rfl (pc_cons rfl (pc_cons rfl (pc_cons rfl (pc_cons rfl pc_nil))))))))))))))) (up_new 0 rfl (up_new 1 rfl (up_new 2 rfl (up_new 3 rfl (up_new 4 rfl (up_new 5 rfl (up_new 6 rfl (up_new 7 rfl (up_new 8 rfl (up_new 9 rfl (up_new 10 rfl (up_new 11 rfl (up_new 12 rfl (up_new 13 rfl (up_old rfl rfl (up_old rfl rfl (up_old rfl rfl (up_old rfl rfl (up_old rfl rfl (up_old rfl rfl (up_old rfl rfl up_nil))))))))))))))))))))) (fun H locs hP hS => ?_)
  refine lv_if_ne (tgt := 11) hx hb dX4_later_5 (by decide) (fun c3 => ?_) (fun c3 => ?_)
  · replace hM := if_at_neg hM c3
    refine lv_iload_n hx hb dX4_later_11 rfl (lv_at hl 2 rfl) ?_
    refine jn0_at (∀ (H : Heap) (locs : List Loc) (ls : Array Slot), va_P D vwCl (cMain Y nN (hT 0) uD uX (aN 0) (aA 0) uZ uW uP uK uL nS ++ cTold Y hT tT ++ cStand Y aN (hT 0) vN gN ++ cStand Y aA (hT 0) vA gA ++ cRow Y vA 8 fA) H → va_S A s.heap H locs → lv_has ls 4 [] → W p l e (headSpec wsX4_later rmX4_later).room s m ([.ref (nN 0), .int i1, .int i2] : List Value).toArray below meth c H locs 0 0 QQ (F0 m 21 ls [])) hM (fun  hM H locs ls hP hS hl => ?_) (fun k4 hJ4 hM => ?_)
    · refine lv_bipush (v := (-3 : Int32)) hx hb dX4_later_21 (by decide) ?_
      cases hM
      rw [hQQ]
      exact W.iret hx hb hr (fun t ht hW => ⟨⟨_, (), rfl, rfl, by show va_P D vwCl _ t.heap; rw [ht]; exact hP⟩, hS.F ht⟩) hS.2.2 dX4_later_23
    · refine lv_if_lt (tgt := 21) hx hb dX4_later_12 (by decide) (fun c5 => ?_) (fun c5 => ?_)
      · replace hM := if_at_pos hM c5
        exact hJ4 hM H locs ls hP hS (lv_sub hl [] rfl)
      · replace hM := if_at_neg hM c5
        refine lv_iload_n hx hb dX4_later_15 rfl (lv_at hl 2 rfl) ?_
        refine lv_bipush (v := (99 : Int32)) hx hb dX4_later_16 (by decide) ?_
        refine lv_icmp_le (tgt := 24) hx hb dX4_later_18 (by decide) (fun c6 => ?_) (fun c6 => ?_)
        · replace hM := if_at_pos hM c6
          refine lv_aload_n hx hb dX4_later_24 rfl (lv_at hl 0 rfl) ?_
          refine va_get hx hb hts hi4 hown hK hP 0 rfl rfl 4 (by decide) (hts (.fieldLink RX4 35 "NightPlots" "ahead" "LNightPlots$Standing;") (List.mem_of_getElem? (i := 1) rfl)) (fun _ h9 => h9) rfl dX4_later_25 ?_
          refine lv_aload_n hx hb dX4_later_28 rfl (lv_at hl 0 rfl) ?_
          refine va_get hx hb hts hi4 hown hK hP 0 rfl rfl 3 (by decide) (hts (.fieldLink RX4 31 "NightPlots" "now" "LNightPlots$Standing;") (List.mem_of_getElem? (i := 2) rfl)) (fun _ h9 => h9) rfl dX4_later_29 ?_
          obtain ⟨gS_7, hc8, hM⟩ := bnd1_at hM
          refine cm_v (w2 := (cMain Y nN (hT 0) uD uX (aN 0) (aA 0) uZ uW uP uK uL nS ++ cTold Y hT tT ++ cStand Y aN (hT 0) vN gN ++ cStand Y aA (hT 0) vA gS_7 ++ cRow Y vA 8 fA)) (va_runV (As := [.ref (aN 0)]) (rest := []) ⟨hx, hb, hml, hown, hts⟩ (ctX1_copyFrom l D Y aA aN (hT 0) vA (hT 0) vN H.size gA gN gS_7 hc8) (cwV 1 hts gX4_later_X1_copyFrom rfl rfl rfl (by decide +kernel) ⟨Nat.le_of_ble_eq_true rfl, Nat.le_of_ble_eq_true rfl⟩) (pcW_V (ci := 1) (q0 := 17) hK hP (hD.same rfl) [17, 18, 19, 14, 15, 16] rfl (pc_map (pc_cons rfl (pc_cons rfl (pc_cons rfl (pc_cons rfl (pc_cons rfl (pc_cons rfl pc_nil))))))) rfl rfl) rfl rfl hl.1 rfl (lv_room (Nat.le_of_ble_eq_true rfl)) dX4_later_32 ⟨Nat.zero_le _, Nat.zero_le _⟩) hP (hD.same rfl) hS hA [17, 18, 19, 14, 15, 16] (pc_map (pc_cons rfl (pc_cons rfl (pc_cons rfl (pc_cons rfl (pc_cons rfl (pc_cons rfl pc_nil))))))) (up_old rfl rfl (up_old rfl rfl (up_old rfl rfl (up_old rfl rfl (up_old rfl rfl (up_old rfl rfl (up_old rfl rfl (up_old rfl rfl (up_old rfl rfl (up_old rfl rfl (up_old rfl rfl (up_old rfl rfl (up_old rfl rfl (up_old rfl rfl (up_new 3 rfl (up_new 4 rfl (up_new 5 rfl (up_new 0 rfl (up_new 1 rfl (up_new 2 rfl (up_old rfl rfl up_nil))))))))))))))))))))) (fun H locs hP hS => ?_)
          refine lv_iconst (v := (0 : Int32)) hx hb dX4_later_35 (by decide) ?_
          refine lv_istore_n (lv' := [(3, .int (0 : Int32)), (0, .ref (nN 0)), (1, .int i1), (2, .int i2)]) hx hb dX4_later_36 rfl hl (by decide) rfl (fun ls hl => ?_)
          refine jn2_at (fun (gA_9 : GS) (fA_10 : Nat → Int32) => ∀ (H : Heap) (locs : List Loc) (ls : Array Slot), va_P D vwCl (cMain Y nN (hT 0) uD uX (aN 0) (aA 0) uZ uW uP uK uL nS ++ cTold Y hT tT ++ cStand Y aN (hT 0) vN gN ++ cStand Y aA (hT 0) vA gA_9 ++ cRow Y vA 8 fA_10) H → va_S A s.heap H locs → lv_has ls 4 [(0, .ref (nN 0)), (1, .int i1)] → W p l e (headSpec wsX4_later rmX4_later).room s m ([.ref (nN 0), .int i1, .int i2] : List Value).toArray below meth c H locs 0 0 QQ (F0 m 62 ls [])) hM (fun gA_9 fA_10 hM H locs ls hP hS hl => ?_) (fun k11 hJ11 hM => ?_)
          · refine lv_aload_n hx hb dX4_later_62 rfl (lv_at hl 0 rfl) ?_
            refine va_get hx hb hts hi4 hown hK hP 0 rfl rfl 4 (by decide) (hts (.fieldLink RX4 35 "NightPlots" "ahead" "LNightPlots$Standing;") (List.mem_of_getElem? (i := 1) rfl)) (fun _ h9 => h9) rfl dX4_later_63 ?_
            refine va_get hx hb hts hi1 hown hK hP 17 rfl rfl 1 (by decide) (hts (.fieldLink RX4 113 "NightPlots$Standing" "place" "[I") (List.mem_of_getElem? (i := 5) rfl)) (fun _ h9 => h9) rfl dX4_later_66 ?_
            refine lv_iload_n hx hb dX4_later_69 rfl (lv_at hl 1 rfl) ?_
            obtain ⟨hi_12, hM⟩ := chkI_at hM
            refine va_iald hx hb hK hP 18 0 rfl rfl hi_12 dX4_later_70 ?_
            cases hM
            rw [hQQ]
            exact W.iret hx hb hr (fun t ht hW => ⟨⟨_, (), rfl, rfl, by show va_P D vwCl _ t.heap; rw [ht]; exact hP⟩, hS.F ht⟩) hS.2.2 dX4_later_71
          · refine lq3_at (fun (x13 : Int32) (gA_14 : GS) (fA_15 : Nat → Int32) => ∀ (H : Heap) (locs : List Loc) (ls : Array Slot), va_P D vwCl (cMain Y nN (hT 0) uD uX (aN 0) (aA 0) uZ uW uP uK uL nS ++ cTold Y hT tT ++ cStand Y aN (hT 0) vN gN ++ cStand Y aA (hT 0) vA gA_14 ++ cRow Y vA 8 fA_15) H → va_S A s.heap H locs → lv_has ls 4 [(0, .ref (nN 0)), (1, .int i1), (2, .int i2), (3, .int x13)] → W p l e (headSpec wsX4_later rmX4_later).room s m ([.ref (nN 0), .int i1, .int i2] : List Value).toArray below meth c H locs 0 0 QQ (F0 m 37 ls [])) (fun rec16 x13 gA_14 fA_15 ih16 hM H locs ls hP hS hl => ?_) FU (0 : Int32) gS_7 fA hM H locs ls hP hS (lv_sub hl [1, 2, 3, 0] rfl)
            unfold BX4_later_37 at hM
            refine lv_iload_n hx hb dX4_later_37 rfl (lv_at hl 3 rfl) ?_
            refine lv_iload_n hx hb dX4_later_38 rfl (lv_at hl 2 rfl) ?_
            refine lv_icmp_ge (tgt := 62) hx hb dX4_later_39 (by decide) (fun c17 => ?_) (fun c17 => ?_)
            · replace hM := if_at_pos hM c17
              exact hJ11 gA_14 fA_15 hM H locs ls hP hS (lv_sub hl [0, 1] rfl)
            · replace hM := if_at_neg hM c17
              refine lv_aload_n hx hb dX4_later_42 rfl (lv_at hl 0 rfl) ?_
              refine va_get hx hb hts hi4 hown hK hP 0 rfl rfl 4 (by decide) (hts (.fieldLink RX4 35 "NightPlots" "ahead" "LNightPlots$Standing;") (List.mem_of_getElem? (i := 1) rfl)) (fun _ h9 => h9) rfl dX4_later_43 ?_
              refine lv_aload_n hx hb dX4_later_46 rfl (lv_at hl 0 rfl) ?_
              refine va_get hx hb hts hi4 hown hK hP 0 rfl rfl 0 (by decide) (hts (.fieldLink RX4 12 "NightPlots" "told" "LNightPlots$Told;") (List.mem_of_getElem? (i := 3) rfl)) (fun _ h9 => h9) rfl dX4_later_47 ?_
              refine va_get hx hb hts hi3 hown hK hP 6 rfl rfl 4 (by decide) (hts (.fieldLink RX4 130 "NightPlots$Told" "law" "I") (List.mem_of_getElem? (i := 4) rfl)) (fun _ h9 => h9) rfl dX4_later_50 ?_
              obtain ⟨gS_18, fW_19, hc20, hM⟩ := bnd2_at hM
              refine cm_v (w2 := (cMain Y nN (hT 0) uD uX (aN 0) (aA 0) uZ uW uP uK uL nS ++ cTold Y hT tT ++ cStand Y aN (hT 0) vN gN ++ cStand Y aA (hT 0) vA gS_18 ++ cRow Y vA 8 fW_19)) (va_runV (As := [.int (tT 0 4)]) (rest := []) ⟨hx, hb, hml, hown, hts⟩ (ctX1_passNight l D Y aA vA hT H.size gA_14 fA_15 tT (tT 0 4) gS_18 fW_19 hc20) (cwV 1 hts gX4_later_X1_passNight rfl rfl rfl (by decide +kernel) ⟨Nat.le_of_ble_eq_true rfl, Nat.le_of_ble_eq_true rfl⟩) (pcW_V (ci := 1) (q0 := 17) hK hP (hD.same rfl) [17, 18, 19, 20, 6, 7, 8, 9, 10, 11, 12, 13] rfl (pc_map (pc_cons rfl (pc_cons rfl (pc_cons rfl (pc_cons rfl (pc_cons rfl (pc_cons rfl (pc_cons rfl (pc_cons rfl (pc_cons rfl (pc_cons rfl (pc_cons rfl (pc_cons rfl pc_nil))))))))))))) rfl rfl) rfl rfl hl.1 rfl (lv_room (Nat.le_of_ble_eq_true rfl)) dX4_later_53 ⟨Nat.zero_le _, Nat.zero_le _⟩) hP (hD.same rfl) hS hA [17, 18, 19, 20, 6, 7, 8, 9, 10, 11, 12, 13] (pc_map (pc_cons rfl (pc_cons rfl (pc_cons rfl (pc_cons rfl (pc_cons rfl (pc_cons rfl (pc_cons rfl (pc_cons rfl (pc_cons rfl (pc_cons rfl (pc_cons rfl (pc_cons rfl pc_nil))))))))))))) (up_old rfl rfl (up_old rfl rfl (up_old rfl rfl (up_old rfl rfl (up_old rfl rfl (up_old rfl rfl (up_new 4 rfl (up_new 5 rfl (up_new 6 rfl (up_new 7 rfl (up_new 8 rfl (up_new 9 rfl (up_new 10 rfl (up_new 11 rfl (up_old rfl rfl (up_old rfl rfl (up_old rfl rfl (up_new 0 rfl (up_new 1 rfl (up_new 2 rfl (up_new 3 rfl up_nil))))))))))))))))))))) (fun H locs hP hS => ?_)
              obtain ⟨x21, ex21⟩ : ∃ z : Int32, z = (x13 + 1) := ⟨_, rfl⟩
              replace hM := nm_at hM ex21
              refine lv_iinc (v := x21) (lv' := [(3, .int x21), (0, .ref (nN 0)), (1, .int i1), (2, .int i2)]) hx hb dX4_later_56 hl (k := 3) rfl (by rw [ex21]; rfl) (by decide) rfl (fun ls hl => ?_)
              refine lv_goto (tgt := 37) hx hb dX4_later_59 (by decide) ?_
              exact ih16 x21 gS_18 fW_19 hM H locs ls hP hS (lv_sub hl [1, 2, 3, 0] rfl)
        · replace hM := if_at_neg hM c6
          exact hJ4 hM H locs ls hP hS (lv_sub hl [] rfl)
  · replace hM := if_at_pos hM c3
    refine lv_bipush (v := (-2 : Int32)) hx hb dX4_later_8 (by decide) ?_
    cases hM
    rw [hQQ]
    exact W.iret hx hb hr (fun t ht hW => ⟨⟨_, (), rfl, rfl, by show va_P D vwCl _ t.heap; rw [ht]; exact hP⟩, hS.F ht⟩) hS.2.2 dX4_later_10
noncomputable def BX4_firstNightWith_3 (i2 : Int32) (k1 : Option (Int32)) (lP : Nat → Int64) (i1 : Int64) (k3 : Int32 → Option (Int32)) (rec5 : Int32 → Option (Int32)) (x4 : Int32) : Option (Int32) := if i2 ≤ x4 then (k1) else (if (501 : Int32) ≤ x4 then (k1) else (chkI x4 501 (if (lg_cmp (lP x4.toNatClampNeg) i1) = 0 then (k3 x4) else (nm (x4 + 1) fun (x10 : Int32) => rec5 x10))))
noncomputable def MX4_firstNightWith (lP : Nat → Int64) (i1 : Int64) (i2 : Int32) : Option (Int32) := jn0 (some ((-1 : Int32))) (fun k1 => jn1 (fun (x2 : Int32) => some (x2)) (fun k3 => lq1 (BX4_firstNightWith_3 i2 k1 lP i1 k3) FU (0 : Int32)))
abbrev rmX4_firstNightWith : Room := { frames := 1, cells := 0, slots := 0, locals := 40 }
set_option maxHeartbeats 4000000 in
set_option maxRecDepth 100000 in
theorem ctX4_firstNightWith (l : Launch) (D : va_G) (Y : Nat → ClassId) (nN : Nat → Nat) (uP : Nat) (uT : Nat) (uD : Nat) (uX : Nat) (uN : Nat) (uA : Nat) (uZ : Nat) (uW : Nat) (uK : Nat) (uL : Nat) (sz : Nat) (nS : GS) (lP : Nat → Int64) (i1 : Int64) (i2 : Int32) (rr : Int32) (hM : MX4_firstNightWith lP i1 i2 = some (rr)) : Met l yX4_firstNightWith wsX4_firstNightWith rmX4_firstNightWith (pcW [.ref (nN 0), .long i1, .int i2] sz D Y (cMain Y nN uT uD uX uN uA uZ uW uP uK uL nS ++ cLong Y uP 501 lP)) (qiW rr D (cMain Y nN uT uD uX uN uA uZ uW uP uK uL nS ++ cLong Y uP 501 lP) (va_A (cMain Y nN uT uD uX uN uA uZ uW uP uK uL nS ++ cLong Y uP 501 lP) sz)) 0 0 (va_A (cMain Y nN uT uD uX uN uA uZ uW uP uK uL nS ++ cLong Y uP 501 lP) sz) := by
  refine Met.ofW (cc := cX4_firstNightWith) (maxL := 5) (ret := (some .int)) (by decide) rfl ?_
  intro p e s m args below meth c s₁ B hml hv
  obtain ⟨rfl, hsz, hP, hK, hD0⟩ := hv
  have hx := B.exec
  have hb := B.bytes
  have hr := B.returns
  have hts := atoms_spec (ws := wsX4_firstNightWith) B.pre
  have hown : s.vm.findClass RX4 = some m.cls := findClass_of_methodNamed B.named
  have hlocks := B.notSynchronized
  subst hsz
  have hD := hD0.self (sz := s.heap.size)
  generalize hAe : va_A (cMain Y nN uT uD uX uN uA uZ uW uP uK uL nS ++ cLong Y uP 501 lP) s.heap.size = A at hD ⊢
  have hA : ∀ q : Nat, s.heap.size ≤ q → A q := fun q h => by rw [← hAe]; exact Or.inr h
  have hS : va_S A s.heap s.heap [] := va_S.rf
  have hi4 : ∀ w ∈ wsX40, w ∈ wsX4_firstNightWith := fun w h => List.mem_cons_of_mem _ (List.mem_append_right _ h)
  have hl := lv_entry ([.ref (nN 0), .long i1, .int i2]) (n := 5) (Nat.le_of_ble_eq_true rfl)
  rw [lg_entry_eq]
  generalize (lg_sl ([.ref (nN 0), .long i1, .int i2]) ++ List.replicate (5 - (lg_sl ([.ref (nN 0), .long i1, .int i2])).length) Slot.unset).toArray = ls at hl ⊢
  have hl : lv_has ls 5 [(0, .ref (nN 0)), (1, .long i1), (3, .int i2)] := hl
  obtain ⟨QQ, hQQ⟩ : ∃ Q : State → Prop, Q = MQ below (qiW rr D (cMain Y nN uT uD uX uN uA uZ uW uP uK uL nS ++ cLong Y uP 501 lP) A) ([.ref (nN 0), .long i1, .int i2] : List Value).toArray s 0 0 A := ⟨_, rfl⟩
  rw [← hQQ]
  unfold MX4_firstNightWith at hM
  suffices hI : ∀ (H : Heap) (locs : List Loc), va_P D vwCl (cMain Y nN uT uD uX uN uA uZ uW uP uK uL nS ++ cLong Y uP 501 lP) H → va_S A s.heap H locs → W p l e (headSpec wsX4_firstNightWith rmX4_firstNightWith).room s m ([.ref (nN 0), .long i1, .int i2] : List Value).toArray below meth c H locs 0 0 QQ (F0 m 0 ls []) from hI _ _ hP hS
  clear hP hS
  intro H locs hP hS
  refine lv_iconst (v := (0 : Int32)) hx hb dX4_firstNightWith_0 (by decide) ?_
  refine lv_istore (lv' := [(4, .int (0 : Int32)), (0, .ref (nN 0)), (1, .long i1), (3, .int i2)]) hx hb dX4_firstNightWith_1 hl (by decide) rfl (fun ls hl => ?_)
  refine jn0_at (∀ (H : Heap) (locs : List Loc) (ls : Array Slot), va_P D vwCl (cMain Y nN uT uD uX uN uA uZ uW uP uK uL nS ++ cLong Y uP 501 lP) H → va_S A s.heap H locs → lv_has ls 5 [] → W p l e (headSpec wsX4_firstNightWith rmX4_firstNightWith).room s m ([.ref (nN 0), .long i1, .int i2] : List Value).toArray below meth c H locs 0 0 QQ (F0 m 40 ls [])) hM (fun  hM H locs ls hP hS hl => ?_) (fun k1 hJ1 hM => ?_)
  · refine lv_iconst (v := (-1 : Int32)) hx hb dX4_firstNightWith_40 (by decide) ?_
    cases hM
    rw [hQQ]
    exact W.iret hx hb hr (fun t ht hW => ⟨⟨_, (), rfl, rfl, by show va_P D vwCl _ t.heap; rw [ht]; exact hP⟩, hS.F ht⟩) hS.2.2 dX4_firstNightWith_41
  · refine jn1_at (fun (x2 : Int32) => ∀ (H : Heap) (locs : List Loc) (ls : Array Slot), va_P D vwCl (cMain Y nN uT uD uX uN uA uZ uW uP uK uL nS ++ cLong Y uP 501 lP) H → va_S A s.heap H locs → lv_has ls 5 [(4, .int x2)] → W p l e (headSpec wsX4_firstNightWith rmX4_firstNightWith).room s m ([.ref (nN 0), .long i1, .int i2] : List Value).toArray below meth c H locs 0 0 QQ (F0 m 31 ls [])) hM (fun x2 hM H locs ls hP hS hl => ?_) (fun k3 hJ3 hM => ?_)
    · refine lv_iload hx hb dX4_firstNightWith_31 (lv_at hl 0 rfl) ?_
      cases hM
      rw [hQQ]
      exact W.iret hx hb hr (fun t ht hW => ⟨⟨_, (), rfl, rfl, by show va_P D vwCl _ t.heap; rw [ht]; exact hP⟩, hS.F ht⟩) hS.2.2 dX4_firstNightWith_33
    · refine lq1_at (fun (x4 : Int32) => ∀ (H : Heap) (locs : List Loc) (ls : Array Slot), va_P D vwCl (cMain Y nN uT uD uX uN uA uZ uW uP uK uL nS ++ cLong Y uP 501 lP) H → va_S A s.heap H locs → lv_has ls 5 [(0, .ref (nN 0)), (1, .long i1), (3, .int i2), (4, .int x4)] → W p l e (headSpec wsX4_firstNightWith rmX4_firstNightWith).room s m ([.ref (nN 0), .long i1, .int i2] : List Value).toArray below meth c H locs 0 0 QQ (F0 m 3 ls [])) (fun rec5 x4 ih5 hM H locs ls hP hS hl => ?_) FU (0 : Int32) hM H locs ls hP hS (lv_sub hl [1, 2, 3, 0] rfl)
      unfold BX4_firstNightWith_3 at hM
      refine lv_iload hx hb dX4_firstNightWith_3 (lv_at hl 3 rfl) ?_
      refine lv_iload_n hx hb dX4_firstNightWith_5 rfl (lv_at hl 2 rfl) ?_
      refine lv_icmp_ge (tgt := 40) hx hb dX4_firstNightWith_6 (by decide) (fun c6 => ?_) (fun c6 => ?_)
      · replace hM := if_at_pos hM c6
        exact hJ1 hM H locs ls hP hS (lv_sub hl [] rfl)
      · replace hM := if_at_neg hM c6
        refine lv_iload hx hb dX4_firstNightWith_9 (lv_at hl 3 rfl) ?_
        refine lv_aload_n hx hb dX4_firstNightWith_11 rfl (lv_at hl 0 rfl) ?_
        refine va_get hx hb hts hi4 hown hK hP 0 rfl rfl 9 (by decide) (hts (.fieldLink RX4 59 "NightPlots" "passed" "[J") (List.mem_of_getElem? (i := 1) rfl)) (fun _ h9 => h9) rfl dX4_firstNightWith_12 ?_
        refine va_alen (v := (501 : Int32)) hx hb hK hP 6 1 rfl rfl rfl dX4_firstNightWith_15 ?_
        refine lv_icmp_ge (tgt := 40) hx hb dX4_firstNightWith_16 (by decide) (fun c7 => ?_) (fun c7 => ?_)
        · replace hM := if_at_pos hM c7
          exact hJ1 hM H locs ls hP hS (lv_sub hl [] rfl)
        · replace hM := if_at_neg hM c7
          refine lv_aload_n hx hb dX4_firstNightWith_19 rfl (lv_at hl 0 rfl) ?_
          refine va_get hx hb hts hi4 hown hK hP 0 rfl rfl 9 (by decide) (hts (.fieldLink RX4 59 "NightPlots" "passed" "[J") (List.mem_of_getElem? (i := 1) rfl)) (fun _ h9 => h9) rfl dX4_firstNightWith_20 ?_
          refine lv_iload hx hb dX4_firstNightWith_23 (lv_at hl 3 rfl) ?_
          obtain ⟨hi_8, hM⟩ := chkI_at hM
          refine va_lald hx hb hK hP 6 1 rfl rfl hi_8 dX4_firstNightWith_25 ?_
          refine lv_lload_n hx hb dX4_firstNightWith_26 rfl (lv_at hl 1 rfl) ?_
          refine W.lcmp hx hb dX4_firstNightWith_27 ?_
          refine lv_if_ne (tgt := 34) hx hb dX4_firstNightWith_28 (by decide) (fun c9 => ?_) (fun c9 => ?_)
          · replace hM := if_at_neg hM c9
            obtain ⟨x10, ex10⟩ : ∃ z : Int32, z = (x4 + 1) := ⟨_, rfl⟩
            replace hM := nm_at hM ex10
            refine lv_iinc (v := x10) (lv' := [(4, .int x10), (0, .ref (nN 0)), (1, .long i1), (3, .int i2)]) hx hb dX4_firstNightWith_34 hl (k := 3) rfl (by rw [ex10]; rfl) (by decide) rfl (fun ls hl => ?_)
            refine lv_goto (tgt := 3) hx hb dX4_firstNightWith_37 (by decide) ?_
            exact ih5 x10 hM H locs ls hP hS (lv_sub hl [1, 2, 3, 0] rfl)
          · replace hM := if_at_pos hM c9
            exact hJ3 x4 hM H locs ls hP hS (lv_sub hl [3] rfl)
noncomputable def BX4_round_25 (k9 : GS → (Nat → Int32) → (Nat → Int64) → Option (Int32 × GS × (Nat → Int32) × (Nat → Int64))) (tT : GS) (k15 : Int32 → Int32 → GS → (Nat → Int32) → (Nat → Int64) → Option (Int32 × GS × (Nat → Int32) × (Nat → Int64))) (rec23 : Int32 → GS → (Nat → Int32) → (Nat → Int64) → Option (Int32 × GS × (Nat → Int32) × (Nat → Int64))) (x19 : Int32) (gA_20 : GS) (fA_21 : Nat → Int32) (lP_22 : Nat → Int64) : Option (Int32 × GS × (Nat → Int32) × (Nat → Int64)) := if (500 : Int32) < x19 then (k9 gA_20 fA_21 lP_22) else (bnd1 (MX1_stateKey gA_20 tT (tT 0 4)) fun (r25 : Int64) => bnd1 (MX4_firstNightWith lP_22 r25 x19) fun (r27 : Int32) => if r27 = (-1 : Int32) then (chkI x19 501 (nm (vp_updL lP_22 x19.toNatClampNeg r25) fun (lP_31 : Nat → Int64) => bnd2 (MX1_passNight gA_20 fA_21 tT (tT 0 4)) fun (gS_32 : GS) (fW_33 : Nat → Int32) => nm (x19 + 1) fun (x35 : Int32) => rec23 x35 gS_32 fW_33 lP_31)) else (k15 x19 r27 gA_20 fA_21 lP_22))
noncomputable def MX4_round (tT : GS) (gN : GS) (gA : GS) (fA : Nat → Int32) (lP : Nat → Int64) (i1 : Int32) : Option (Int32 × GS × (Nat → Int32) × (Nat → Int64)) := jn0 (some ((-3 : Int32), gA, fA, lP)) (fun k1 => if i1 < 0 then (k1) else (if i1 ≤ (1 : Int32) then (bnd1 (MX1_copyFrom gA gN) fun (gS_4 : GS) => jn3 (fun (gA_6 : GS) (fA_7 : Nat → Int32) (lP_8 : Nat → Int64) => some ((-1 : Int32), gA_6, fA_7, lP_8)) (fun k9 => jn5 (fun (x10 : Int32) (x11 : Int32) (gA_12 : GS) (fA_13 : Nat → Int32) (lP_14 : Nat → Int64) => jn1 (fun (x16 : Int32) => some (x16, gA_12, fA_13, lP_14)) (fun k17 => if i1 = 0 then (k17 x11) else (k17 (x10 - x11)))) (fun k15 => lq4 (BX4_round_25 k9 tT k15) FU (0 : Int32) gS_4 fA lP))) else (k1)))
abbrev rmX4_round : Room := { frames := 6, cells := 0, slots := 0, locals := 240 }
set_option maxHeartbeats 4000000 in
set_option maxRecDepth 100000 in
theorem ctX4_round (l : Launch) (D : va_G) (Y : Nat → ClassId) (nN : Nat → Nat) (hT : Nat → Nat) (aN : Nat → Nat) (aA : Nat → Nat) (vA : Nat) (uP : Nat) (uD : Nat) (uX : Nat) (uZ : Nat) (uW : Nat) (uK : Nat) (uL : Nat) (vN : Nat) (sz : Nat) (nS : GS) (tT : GS) (gN : GS) (gA : GS) (fA : Nat → Int32) (lP : Nat → Int64) (i1 : Int32) (rr : Int32) (gAz : GS) (fAz : Nat → Int32) (lPz : Nat → Int64) (hM : MX4_round tT gN gA fA lP i1 = some (rr, gAz, fAz, lPz)) : Met l yX4_round wsX4_round rmX4_round (pcW [.ref (nN 0), .int i1] sz D Y (cMain Y nN (hT 0) uD uX (aN 0) (aA 0) uZ uW uP uK uL nS ++ cTold Y hT tT ++ cStand Y aN (hT 0) vN gN ++ cStand Y aA (hT 0) vA gA ++ cRow Y vA 8 fA ++ cLong Y uP 501 lP)) (qiW rr D (cMain Y nN (hT 0) uD uX (aN 0) (aA 0) uZ uW uP uK uL nS ++ cTold Y hT tT ++ cStand Y aN (hT 0) vN gN ++ cStand Y aA (hT 0) vA gAz ++ cRow Y vA 8 fAz ++ cLong Y uP 501 lPz) (va_A (cMain Y nN (hT 0) uD uX (aN 0) (aA 0) uZ uW uP uK uL nS ++ cTold Y hT tT ++ cStand Y aN (hT 0) vN gN ++ cStand Y aA (hT 0) vA gA ++ cRow Y vA 8 fA ++ cLong Y uP 501 lP) sz)) 0 0 (va_A (cMain Y nN (hT 0) uD uX (aN 0) (aA 0) uZ uW uP uK uL nS ++ cTold Y hT tT ++ cStand Y aN (hT 0) vN gN ++ cStand Y aA (hT 0) vA gA ++ cRow Y vA 8 fA ++ cLong Y uP 501 lP) sz) := by
  refine Met.ofW (cc := cX4_round) (maxL := 6) (ret := (some .int)) (by decide) rfl ?_
  intro p e s m args below meth c s₁ B hml hv
  obtain ⟨rfl, hsz, hP, hK, hD0⟩ := hv
  have hx := B.exec
  have hb := B.bytes
  have hr := B.returns
  have hts := atoms_spec (ws := wsX4_round) B.pre
  have hown : s.vm.findClass RX4 = some m.cls := findClass_of_methodNamed B.named
  have hlocks := B.notSynchronized
  subst hsz
  have hD := hD0.self (sz := s.heap.size)
  generalize hAe : va_A (cMain Y nN (hT 0) uD uX (aN 0) (aA 0) uZ uW uP uK uL nS ++ cTold Y hT tT ++ cStand Y aN (hT 0) vN gN ++ cStand Y aA (hT 0) vA gA ++ cRow Y vA 8 fA ++ cLong Y uP 501 lP) s.heap.size = A at hD ⊢
  have hA : ∀ q : Nat, s.heap.size ≤ q → A q := fun q h => by rw [← hAe]; exact Or.inr h
  have hS : va_S A s.heap s.heap [] := va_S.rf
  have hi3 : ∀ w ∈ wsX30, w ∈ wsX4_round := fun w h => List.mem_cons_of_mem _ (List.mem_append_left _ (List.mem_append_right _ h))
  have hi4 : ∀ w ∈ wsX40, w ∈ wsX4_round := fun w h => List.mem_cons_of_mem _ (List.mem_append_left _ (List.mem_append_left _ (List.mem_append_right _ h)))
  have hl := lv_entry ([.ref (nN 0), .int i1]) (n := 6) (Nat.le_of_ble_eq_true rfl)
  rw [lg_entry_eq]
  generalize (lg_sl ([.ref (nN 0), .int i1]) ++ List.replicate (6 - (lg_sl ([.ref (nN 0), .int i1])).length) Slot.unset).toArray = ls at hl ⊢
  have hl : lv_has ls 6 [(0, .ref (nN 0)), (1, .int i1)] := hl
  obtain ⟨QQ, hQQ⟩ : ∃ Q : State → Prop, Q = MQ below (qiW rr D (cMain Y nN (hT 0) uD uX (aN 0) (aA 0) uZ uW uP uK uL nS ++ cTold Y hT tT ++ cStand Y aN (hT 0) vN gN ++ cStand Y aA (hT 0) vA gAz ++ cRow Y vA 8 fAz ++ cLong Y uP 501 lPz) A) ([.ref (nN 0), .int i1] : List Value).toArray s 0 0 A := ⟨_, rfl⟩
  rw [← hQQ]
  unfold MX4_round at hM
  suffices hI : ∀ (H : Heap) (locs : List Loc), va_P D vwCl (cMain Y nN (hT 0) uD uX (aN 0) (aA 0) uZ uW uP uK uL nS ++ cTold Y hT tT ++ cStand Y aN (hT 0) vN gN ++ cStand Y aA (hT 0) vA gA ++ cRow Y vA 8 fA ++ cLong Y uP 501 lP) H → va_S A s.heap H locs → W p l e (headSpec wsX4_round rmX4_round).room s m ([.ref (nN 0), .int i1] : List Value).toArray below meth c H locs 0 0 QQ (F0 m 0 ls []) from hI _ _ hP hS
  clear hP hS
  intro H locs hP hS
  refine lv_iload_n hx hb dX4_round_0 rfl (lv_at hl 1 rfl) ?_
  refine jn0_at (∀ (H : Heap) (locs : List Loc) (ls : Array Slot), va_P D vwCl (cMain Y nN (hT 0) uD uX (aN 0) (aA 0) uZ uW uP uK uL nS ++ cTold Y hT tT ++ cStand Y aN (hT 0) vN gN ++ cStand Y aA (hT 0) vA gA ++ cRow Y vA 8 fA ++ cLong Y uP 501 lP) H → va_S A s.heap H locs → lv_has ls 6 [] → W p l e (headSpec wsX4_round rmX4_round).room s m ([.ref (nN 0), .int i1] : List Value).toArray below meth c H locs 0 0 QQ (F0 m 9 ls [])) hM (fun  hM H locs ls hP hS hl => ?_) (fun k1 hJ1 hM => ?_)
  · refine lv_bipush (v := (-3 : Int32)) hx hb dX4_round_9 (by decide) ?_
    cases hM
    rw [hQQ]
    exact W.iret hx hb hr (fun t ht hW => ⟨⟨_, (), rfl, rfl, by show va_P D vwCl _ t.heap; rw [ht]; exact hP⟩, hS.F ht⟩) hS.2.2 dX4_round_11
  · refine lv_if_lt (tgt := 9) hx hb dX4_round_1 (by decide) (fun c2 => ?_) (fun c2 => ?_)
    · replace hM := if_at_pos hM c2
      exact hJ1 hM H locs ls hP hS (lv_sub hl [] rfl)
    · replace hM := if_at_neg hM c2
      refine lv_iload_n hx hb dX4_round_4 rfl (lv_at hl 1 rfl) ?_
      refine lv_iconst (v := (1 : Int32)) hx hb dX4_round_5 (by decide) ?_
      refine lv_icmp_le (tgt := 12) hx hb dX4_round_6 (by decide) (fun c3 => ?_) (fun c3 => ?_)
      · replace hM := if_at_pos hM c3
        refine lv_aload_n hx hb dX4_round_12 rfl (lv_at hl 0 rfl) ?_
        refine va_get hx hb hts hi4 hown hK hP 0 rfl rfl 4 (by decide) (hts (.fieldLink RX4 35 "NightPlots" "ahead" "LNightPlots$Standing;") (List.mem_of_getElem? (i := 1) rfl)) (fun _ h9 => h9) rfl dX4_round_13 ?_
        refine lv_aload_n hx hb dX4_round_16 rfl (lv_at hl 0 rfl) ?_
        refine va_get hx hb hts hi4 hown hK hP 0 rfl rfl 3 (by decide) (hts (.fieldLink RX4 31 "NightPlots" "now" "LNightPlots$Standing;") (List.mem_of_getElem? (i := 2) rfl)) (fun _ h9 => h9) rfl dX4_round_17 ?_
        obtain ⟨gS_4, hc5, hM⟩ := bnd1_at hM
        refine cm_v (w2 := (cMain Y nN (hT 0) uD uX (aN 0) (aA 0) uZ uW uP uK uL nS ++ cTold Y hT tT ++ cStand Y aN (hT 0) vN gN ++ cStand Y aA (hT 0) vA gS_4 ++ cRow Y vA 8 fA ++ cLong Y uP 501 lP)) (va_runV (As := [.ref (aN 0)]) (rest := []) ⟨hx, hb, hml, hown, hts⟩ (ctX1_copyFrom l D Y aA aN (hT 0) vA (hT 0) vN H.size gA gN gS_4 hc5) (cwV 1 hts gX4_round_X1_copyFrom rfl rfl rfl (by decide +kernel) ⟨Nat.le_of_ble_eq_true rfl, Nat.le_of_ble_eq_true rfl⟩) (pcW_V (ci := 1) (q0 := 17) hK hP (hD.same rfl) [17, 18, 19, 14, 15, 16] rfl (pc_map (pc_cons rfl (pc_cons rfl (pc_cons rfl (pc_cons rfl (pc_cons rfl (pc_cons rfl pc_nil))))))) rfl rfl) rfl rfl hl.1 rfl (lv_room (Nat.le_of_ble_eq_true rfl)) dX4_round_20 ⟨Nat.zero_le _, Nat.zero_le _⟩) hP (hD.same rfl) hS hA [17, 18, 19, 14, 15, 16] (pc_map (pc_cons rfl (pc_cons rfl (pc_cons rfl (pc_cons rfl (pc_cons rfl (pc_cons rfl pc_nil))))))) (up_old rfl rfl (up_old rfl rfl (up_old rfl rfl (up_old rfl rfl (up_old rfl rfl (up_old rfl rfl (up_old rfl rfl (up_old rfl rfl (up_old rfl rfl (up_old rfl rfl (up_old rfl rfl (up_old rfl rfl (up_old rfl rfl (up_old rfl rfl (up_new 3 rfl (up_new 4 rfl (up_new 5 rfl (up_new 0 rfl (up_new 1 rfl (up_new 2 rfl (up_old rfl rfl (up_old rfl rfl up_nil)))))))))))))))))))))) (fun H locs hP hS => ?_)
        refine lv_iconst (v := (0 : Int32)) hx hb dX4_round_23 (by decide) ?_
        refine lv_istore_n (lv' := [(2, .int (0 : Int32)), (0, .ref (nN 0)), (1, .int i1)]) hx hb dX4_round_24 rfl hl (by decide) rfl (fun ls hl => ?_)
        refine jn3_at (fun (gA_6 : GS) (fA_7 : Nat → Int32) (lP_8 : Nat → Int64) => ∀ (H : Heap) (locs : List Loc) (ls : Array Slot), va_P D vwCl (cMain Y nN (hT 0) uD uX (aN 0) (aA 0) uZ uW uP uK uL nS ++ cTold Y hT tT ++ cStand Y aN (hT 0) vN gN ++ cStand Y aA (hT 0) vA gA_6 ++ cRow Y vA 8 fA_7 ++ cLong Y uP 501 lP_8) H → va_S A s.heap H locs → lv_has ls 6 [] → W p l e (headSpec wsX4_round rmX4_round).room s m ([.ref (nN 0), .int i1] : List Value).toArray below meth c H locs 0 0 QQ (F0 m 102 ls [])) hM (fun gA_6 fA_7 lP_8 hM H locs ls hP hS hl => ?_) (fun k9 hJ9 hM => ?_)
        · refine lv_iconst (v := (-1 : Int32)) hx hb dX4_round_102 (by decide) ?_
          cases hM
          rw [hQQ]
          exact W.iret hx hb hr (fun t ht hW => ⟨⟨_, (), rfl, rfl, by show va_P D vwCl _ t.heap; rw [ht]; exact hP⟩, hS.F ht⟩) hS.2.2 dX4_round_103
        · refine jn5_at (fun (x10 : Int32) (x11 : Int32) (gA_12 : GS) (fA_13 : Nat → Int32) (lP_14 : Nat → Int64) => ∀ (H : Heap) (locs : List Loc) (ls : Array Slot), va_P D vwCl (cMain Y nN (hT 0) uD uX (aN 0) (aA 0) uZ uW uP uK uL nS ++ cTold Y hT tT ++ cStand Y aN (hT 0) vN gN ++ cStand Y aA (hT 0) vA gA_12 ++ cRow Y vA 8 fA_13 ++ cLong Y uP 501 lP_14) H → va_S A s.heap H locs → lv_has ls 6 [(1, .int i1), (2, .int x10), (5, .int x11)] → W p l e (headSpec wsX4_round rmX4_round).room s m ([.ref (nN 0), .int i1] : List Value).toArray below meth c H locs 0 0 QQ (F0 m 61 ls [])) hM (fun x10 x11 gA_12 fA_13 lP_14 hM H locs ls hP hS hl => ?_) (fun k15 hJ15 hM => ?_)
          · refine lv_iload_n hx hb dX4_round_61 rfl (lv_at hl 0 rfl) ?_
            refine jn1_at (fun (x16 : Int32) => ∀ (H : Heap) (locs : List Loc) (ls : Array Slot), va_P D vwCl (cMain Y nN (hT 0) uD uX (aN 0) (aA 0) uZ uW uP uK uL nS ++ cTold Y hT tT ++ cStand Y aN (hT 0) vN gN ++ cStand Y aA (hT 0) vA gA_12 ++ cRow Y vA 8 fA_13 ++ cLong Y uP 501 lP_14) H → va_S A s.heap H locs → lv_has ls 6 [] → W p l e (headSpec wsX4_round rmX4_round).room s m ([.ref (nN 0), .int i1] : List Value).toArray below meth c H locs 0 0 QQ (F0 m 74 ls [.int x16])) hM (fun x16 hM H locs ls hP hS hl => ?_) (fun k17 hJ17 hM => ?_)
            · cases hM
              rw [hQQ]
              exact W.iret hx hb hr (fun t ht hW => ⟨⟨_, (), rfl, rfl, by show va_P D vwCl _ t.heap; rw [ht]; exact hP⟩, hS.F ht⟩) hS.2.2 dX4_round_74
            · refine lv_if_ne (tgt := 70) hx hb dX4_round_62 (by decide) (fun c18 => ?_) (fun c18 => ?_)
              · replace hM := if_at_neg hM c18
                refine lv_iload_n hx hb dX4_round_70 rfl (lv_at hl 1 rfl) ?_
                refine lv_iload hx hb dX4_round_71 (lv_at hl 2 rfl) ?_
                refine lv_isub hx hb dX4_round_73 ?_
                exact hJ17 (x10 - x11) hM H locs ls hP hS (lv_sub hl [] rfl)
              · replace hM := if_at_pos hM c18
                refine lv_iload hx hb dX4_round_65 (lv_at hl 2 rfl) ?_
                refine lv_goto (tgt := 74) hx hb dX4_round_67 (by decide) ?_
                exact hJ17 x11 hM H locs ls hP hS (lv_sub hl [] rfl)
          · refine lq4_at (fun (x19 : Int32) (gA_20 : GS) (fA_21 : Nat → Int32) (lP_22 : Nat → Int64) => ∀ (H : Heap) (locs : List Loc) (ls : Array Slot), va_P D vwCl (cMain Y nN (hT 0) uD uX (aN 0) (aA 0) uZ uW uP uK uL nS ++ cTold Y hT tT ++ cStand Y aN (hT 0) vN gN ++ cStand Y aA (hT 0) vA gA_20 ++ cRow Y vA 8 fA_21 ++ cLong Y uP 501 lP_22) H → va_S A s.heap H locs → lv_has ls 6 [(0, .ref (nN 0)), (1, .int i1), (2, .int x19)] → W p l e (headSpec wsX4_round rmX4_round).room s m ([.ref (nN 0), .int i1] : List Value).toArray below meth c H locs 0 0 QQ (F0 m 25 ls [])) (fun rec23 x19 gA_20 fA_21 lP_22 ih23 hM H locs ls hP hS hl => ?_) FU (0 : Int32) gS_4 fA lP hM H locs ls hP hS (lv_sub hl [1, 2, 0] rfl)
            unfold BX4_round_25 at hM
            refine lv_iload_n hx hb dX4_round_25 rfl (lv_at hl 2 rfl) ?_
            refine lv_sipush (v := (500 : Int32)) hx hb dX4_round_26 (by decide) ?_
            refine lv_icmp_gt (tgt := 102) hx hb dX4_round_29 (by decide) (fun c24 => ?_) (fun c24 => ?_)
            · replace hM := if_at_pos hM c24
              exact hJ9 gA_20 fA_21 lP_22 hM H locs ls hP hS (lv_sub hl [] rfl)
            · replace hM := if_at_neg hM c24
              refine lv_aload_n hx hb dX4_round_32 rfl (lv_at hl 0 rfl) ?_
              refine va_get hx hb hts hi4 hown hK hP 0 rfl rfl 4 (by decide) (hts (.fieldLink RX4 35 "NightPlots" "ahead" "LNightPlots$Standing;") (List.mem_of_getElem? (i := 1) rfl)) (fun _ h9 => h9) rfl dX4_round_33 ?_
              refine lv_aload_n hx hb dX4_round_36 rfl (lv_at hl 0 rfl) ?_
              refine va_get hx hb hts hi4 hown hK hP 0 rfl rfl 0 (by decide) (hts (.fieldLink RX4 12 "NightPlots" "told" "LNightPlots$Told;") (List.mem_of_getElem? (i := 3) rfl)) (fun _ h9 => h9) rfl dX4_round_37 ?_
              refine va_get hx hb hts hi3 hown hK hP 6 rfl rfl 4 (by decide) (hts (.fieldLink RX4 130 "NightPlots$Told" "law" "I") (List.mem_of_getElem? (i := 4) rfl)) (fun _ h9 => h9) rfl dX4_round_40 ?_
              obtain ⟨r25, hc26, hM⟩ := bnd1_at hM
              refine cm_l (w2 := (cMain Y nN (hT 0) uD uX (aN 0) (aA 0) uZ uW uP uK uL nS ++ cTold Y hT tT ++ cStand Y aN (hT 0) vN gN ++ cStand Y aA (hT 0) vA gA_20 ++ cRow Y vA 8 fA_21 ++ cLong Y uP 501 lP_22)) (va_runV (As := [.int (tT 0 4)]) (rest := []) ⟨hx, hb, hml, hown, hts⟩ (ctX1_stateKey l D Y aA hT vA H.size gA_20 tT (tT 0 4) r25 hc26) (cwV 1 hts gX4_round_X1_stateKey rfl rfl rfl (by decide +kernel) ⟨Nat.le_of_ble_eq_true rfl, Nat.le_of_ble_eq_true rfl⟩) (pcW_V (ci := 1) (q0 := 17) hK hP (hD.same rfl) [17, 18, 19, 6, 7, 8, 9, 10, 11, 12, 13] rfl (pc_map (pc_cons rfl (pc_cons rfl (pc_cons rfl (pc_cons rfl (pc_cons rfl (pc_cons rfl (pc_cons rfl (pc_cons rfl (pc_cons rfl (pc_cons rfl (pc_cons rfl pc_nil)))))))))))) rfl rfl) rfl rfl hl.1 rfl (lv_room (Nat.le_of_ble_eq_true rfl)) dX4_round_43 ⟨Nat.zero_le _, Nat.zero_le _⟩) hP (hD.same rfl) hS hA [17, 18, 19, 6, 7, 8, 9, 10, 11, 12, 13] (pc_map (pc_cons rfl (pc_cons rfl (pc_cons rfl (pc_cons rfl (pc_cons rfl (pc_cons rfl (pc_cons rfl (pc_cons rfl (pc_cons rfl (pc_cons rfl (pc_cons rfl pc_nil)))))))))))) (up_old rfl rfl (up_old rfl rfl (up_old rfl rfl (up_old rfl rfl (up_old rfl rfl (up_old rfl rfl (up_new 3 rfl (up_new 4 rfl (up_new 5 rfl (up_new 6 rfl (up_new 7 rfl (up_new 8 rfl (up_new 9 rfl (up_new 10 rfl (up_old rfl rfl (up_old rfl rfl (up_old rfl rfl (up_new 0 rfl (up_new 1 rfl (up_new 2 rfl (up_old rfl rfl (up_old rfl rfl up_nil)))))))))))))))))))))) (fun H locs hP hS => ?_)
              refine lv_lstore_n (lv' := [(3, .long r25), (0, .ref (nN 0)), (1, .int i1), (2, .int x19)]) hx hb dX4_round_46 rfl hl (by decide) rfl (fun ls hl => ?_)
              refine lv_aload_n hx hb dX4_round_47 rfl (lv_at hl 1 rfl) ?_
              refine lv_lload_n hx hb dX4_round_48 rfl (lv_at hl 0 rfl) ?_
              refine lv_iload_n hx hb dX4_round_49 rfl (lv_at hl 3 rfl) ?_
              obtain ⟨r27, hc28, hM⟩ := bnd1_at hM
              refine cm_i (w2 := (cMain Y nN (hT 0) uD uX (aN 0) (aA 0) uZ uW uP uK uL nS ++ cTold Y hT tT ++ cStand Y aN (hT 0) vN gN ++ cStand Y aA (hT 0) vA gA_20 ++ cRow Y vA 8 fA_21 ++ cLong Y uP 501 lP_22)) (va_runV (As := [.long r25, .int x19]) (rest := []) ⟨hx, hb, hml, hown, hts⟩ (ctX4_firstNightWith l D Y nN uP (hT 0) uD uX (aN 0) (aA 0) uZ uW uK uL H.size nS lP_22 r25 x19 r27 hc28) (cwV 2 hts gX4_round_X4_firstNightWith rfl rfl rfl (by decide +kernel) ⟨Nat.le_of_ble_eq_true rfl, Nat.le_of_ble_eq_true rfl⟩) (pcW_V (ci := 4) (q0 := 0) hK hP (hD.same rfl) [0, 1, 2, 3, 4, 5, 21] rfl (pc_map (pc_cons rfl (pc_cons rfl (pc_cons rfl (pc_cons rfl (pc_cons rfl (pc_cons rfl (pc_cons rfl pc_nil)))))))) rfl rfl) rfl rfl hl.1 rfl (lv_room (Nat.le_of_ble_eq_true rfl)) dX4_round_50 ⟨Nat.zero_le _, Nat.zero_le _⟩) hP (hD.same rfl) hS hA [0, 1, 2, 3, 4, 5, 21] (pc_map (pc_cons rfl (pc_cons rfl (pc_cons rfl (pc_cons rfl (pc_cons rfl (pc_cons rfl (pc_cons rfl pc_nil)))))))) (up_new 0 rfl (up_new 1 rfl (up_new 2 rfl (up_new 3 rfl (up_new 4 rfl (up_new 5 rfl (up_old rfl rfl (up_old rfl rfl (up_old rfl rfl (up_old rfl rfl (up_old rfl rfl (up_old rfl rfl (up_old rfl rfl (up_old rfl rfl (up_old rfl rfl (up_old rfl rfl (up_old rfl rfl (up_old rfl rfl (up_old rfl rfl (up_old rfl rfl (up_old rfl rfl (up_new 6 rfl up_nil)))))))))))))))))))))) (fun H locs hP hS => ?_)
              refine lv_istore (lv' := [(5, .int r27), (3, .long r25), (0, .ref (nN 0)), (1, .int i1), (2, .int x19)]) hx hb dX4_round_53 hl (by decide) rfl (fun ls hl => ?_)
              refine lv_iload hx hb dX4_round_55 (lv_at hl 0 rfl) ?_
              refine lv_iconst (v := (-1 : Int32)) hx hb dX4_round_57 (by decide) ?_
              refine lv_icmp_eq (tgt := 75) hx hb dX4_round_58 (by decide) (fun c29 => ?_) (fun c29 => ?_)
              · replace hM := if_at_pos hM c29
                refine lv_aload_n hx hb dX4_round_75 rfl (lv_at hl 2 rfl) ?_
                refine va_get hx hb hts hi4 hown hK hP 0 rfl rfl 9 (by decide) (hts (.fieldLink RX4 59 "NightPlots" "passed" "[J") (List.mem_of_getElem? (i := 5) rfl)) (fun _ h9 => h9) rfl dX4_round_76 ?_
                refine lv_iload_n hx hb dX4_round_79 rfl (lv_at hl 4 rfl) ?_
                refine lv_lload_n hx hb dX4_round_80 rfl (lv_at hl 1 rfl) ?_
                obtain ⟨hi_30, hM⟩ := chkI_at hM
                refine va_last hx hb hK hP (hD.same rfl) hS 21 1 rfl rfl hi_30 dX4_round_81 (fun H locs hP _ hS => ?_)
                obtain ⟨lP_31, elP_31⟩ : ∃ z : Nat → Int64, z = (vp_updL lP_22 x19.toNatClampNeg r25) := ⟨_, rfl⟩
                have hP : va_P D vwCl (cMain Y nN (hT 0) uD uX (aN 0) (aA 0) uZ uW uP uK uL nS ++ cTold Y hT tT ++ cStand Y aN (hT 0) vN gN ++ cStand Y aA (hT 0) vA gA_20 ++ cRow Y vA 8 fA_21 ++ cLong Y uP 501 lP_31) H := by rw [elP_31]; exact hP
                replace hM := nm_at hM elP_31
                refine lv_aload_n hx hb dX4_round_82 rfl (lv_at hl 2 rfl) ?_
                refine va_get hx hb hts hi4 hown hK hP 0 rfl rfl 4 (by decide) (hts (.fieldLink RX4 35 "NightPlots" "ahead" "LNightPlots$Standing;") (List.mem_of_getElem? (i := 1) rfl)) (fun _ h9 => h9) rfl dX4_round_83 ?_
                refine lv_aload_n hx hb dX4_round_86 rfl (lv_at hl 2 rfl) ?_
                refine va_get hx hb hts hi4 hown hK hP 0 rfl rfl 0 (by decide) (hts (.fieldLink RX4 12 "NightPlots" "told" "LNightPlots$Told;") (List.mem_of_getElem? (i := 3) rfl)) (fun _ h9 => h9) rfl dX4_round_87 ?_
                refine va_get hx hb hts hi3 hown hK hP 6 rfl rfl 4 (by decide) (hts (.fieldLink RX4 130 "NightPlots$Told" "law" "I") (List.mem_of_getElem? (i := 4) rfl)) (fun _ h9 => h9) rfl dX4_round_90 ?_
                obtain ⟨gS_32, fW_33, hc34, hM⟩ := bnd2_at hM
                refine cm_v (w2 := (cMain Y nN (hT 0) uD uX (aN 0) (aA 0) uZ uW uP uK uL nS ++ cTold Y hT tT ++ cStand Y aN (hT 0) vN gN ++ cStand Y aA (hT 0) vA gS_32 ++ cRow Y vA 8 fW_33 ++ cLong Y uP 501 lP_31)) (va_runV (As := [.int (tT 0 4)]) (rest := []) ⟨hx, hb, hml, hown, hts⟩ (ctX1_passNight l D Y aA vA hT H.size gA_20 fA_21 tT (tT 0 4) gS_32 fW_33 hc34) (cwV 1 hts gX4_round_X1_passNight rfl rfl rfl (by decide +kernel) ⟨Nat.le_of_ble_eq_true rfl, Nat.le_of_ble_eq_true rfl⟩) (pcW_V (ci := 1) (q0 := 17) hK hP (hD.same rfl) [17, 18, 19, 20, 6, 7, 8, 9, 10, 11, 12, 13] rfl (pc_map (pc_cons rfl (pc_cons rfl (pc_cons rfl (pc_cons rfl (pc_cons rfl (pc_cons rfl (pc_cons rfl (pc_cons rfl (pc_cons rfl (pc_cons rfl (pc_cons rfl (pc_cons rfl pc_nil))))))))))))) rfl rfl) rfl rfl hl.1 rfl (lv_room (Nat.le_of_ble_eq_true rfl)) dX4_round_93 ⟨Nat.zero_le _, Nat.zero_le _⟩) hP (hD.same rfl) hS hA [17, 18, 19, 20, 6, 7, 8, 9, 10, 11, 12, 13] (pc_map (pc_cons rfl (pc_cons rfl (pc_cons rfl (pc_cons rfl (pc_cons rfl (pc_cons rfl (pc_cons rfl (pc_cons rfl (pc_cons rfl (pc_cons rfl (pc_cons rfl (pc_cons rfl pc_nil))))))))))))) (up_old rfl rfl (up_old rfl rfl (up_old rfl rfl (up_old rfl rfl (up_old rfl rfl (up_old rfl rfl (up_new 4 rfl (up_new 5 rfl (up_new 6 rfl (up_new 7 rfl (up_new 8 rfl (up_new 9 rfl (up_new 10 rfl (up_new 11 rfl (up_old rfl rfl (up_old rfl rfl (up_old rfl rfl (up_new 0 rfl (up_new 1 rfl (up_new 2 rfl (up_new 3 rfl (up_old rfl rfl up_nil)))))))))))))))))))))) (fun H locs hP hS => ?_)
                obtain ⟨x35, ex35⟩ : ∃ z : Int32, z = (x19 + 1) := ⟨_, rfl⟩
                replace hM := nm_at hM ex35
                refine lv_iinc (v := x35) (lv' := [(2, .int x35), (5, .int r27), (3, .long r25), (0, .ref (nN 0)), (1, .int i1)]) hx hb dX4_round_96 hl (k := 4) rfl (by rw [ex35]; rfl) (by decide) rfl (fun ls hl => ?_)
                refine lv_goto (tgt := 25) hx hb dX4_round_99 (by decide) ?_
                exact ih23 x35 gS_32 fW_33 lP_31 hM H locs ls hP hS (lv_sub hl [3, 4, 0] rfl)
              · replace hM := if_at_neg hM c29
                exact hJ15 x19 r27 gA_20 fA_21 lP_22 hM H locs ls hP hS (lv_sub hl [3, 4, 0] rfl)
      · replace hM := if_at_neg hM c3
        exact hJ1 hM H locs ls hP hS (lv_sub hl [] rfl)
noncomputable def MX4_touch (tT : GS) (gN : GS) (i1 : Int32) (i2 : Int32) (i3 : Int32) : Option (Int32) := bnd1 (MX4_refusePair tT i1 i2 i3) fun (r1 : Int32) => if r1 = 0 then (bnd1 (MX1_meets gN tT i1 i2 i3) fun (r4 : Int32) => jn1 (fun (x6 : Int32) => some (x6)) (fun k7 => if r4 = 0 then (k7 (0 : Int32)) else (k7 (1 : Int32)))) else (some (r1))
abbrev rmX4_touch : Room := { frames := 6, cells := 0, slots := 0, locals := 240 }
set_option maxHeartbeats 4000000 in
set_option maxRecDepth 100000 in
theorem ctX4_touch (l : Launch) (D : va_G) (Y : Nat → ClassId) (nN : Nat → Nat) (hT : Nat → Nat) (aN : Nat → Nat) (uD : Nat) (uX : Nat) (uA : Nat) (uZ : Nat) (uW : Nat) (uP : Nat) (uK : Nat) (uL : Nat) (vN : Nat) (sz : Nat) (nS : GS) (tT : GS) (gN : GS) (i1 : Int32) (i2 : Int32) (i3 : Int32) (rr : Int32) (hM : MX4_touch tT gN i1 i2 i3 = some (rr)) : Met l yX4_touch wsX4_touch rmX4_touch (pcW [.ref (nN 0), .int i1, .int i2, .int i3] sz D Y (cMain Y nN (hT 0) uD uX (aN 0) uA uZ uW uP uK uL nS ++ cTold Y hT tT ++ cStand Y aN (hT 0) vN gN)) (qiW rr D (cMain Y nN (hT 0) uD uX (aN 0) uA uZ uW uP uK uL nS ++ cTold Y hT tT ++ cStand Y aN (hT 0) vN gN) (va_A (cMain Y nN (hT 0) uD uX (aN 0) uA uZ uW uP uK uL nS ++ cTold Y hT tT ++ cStand Y aN (hT 0) vN gN) sz)) 0 0 (va_A (cMain Y nN (hT 0) uD uX (aN 0) uA uZ uW uP uK uL nS ++ cTold Y hT tT ++ cStand Y aN (hT 0) vN gN) sz) := by
  refine Met.ofW (cc := cX4_touch) (maxL := 5) (ret := (some .int)) (by decide) rfl ?_
  intro p e s m args below meth c s₁ B hml hv
  obtain ⟨rfl, hsz, hP, hK, hD0⟩ := hv
  have hx := B.exec
  have hb := B.bytes
  have hr := B.returns
  have hts := atoms_spec (ws := wsX4_touch) B.pre
  have hown : s.vm.findClass RX4 = some m.cls := findClass_of_methodNamed B.named
  have hlocks := B.notSynchronized
  subst hsz
  have hD := hD0.self (sz := s.heap.size)
  generalize hAe : va_A (cMain Y nN (hT 0) uD uX (aN 0) uA uZ uW uP uK uL nS ++ cTold Y hT tT ++ cStand Y aN (hT 0) vN gN) s.heap.size = A at hD ⊢
  have hA : ∀ q : Nat, s.heap.size ≤ q → A q := fun q h => by rw [← hAe]; exact Or.inr h
  have hS : va_S A s.heap s.heap [] := va_S.rf
  have hi4 : ∀ w ∈ wsX40, w ∈ wsX4_touch := fun w h => List.mem_cons_of_mem _ (List.mem_append_left _ (List.mem_append_left _ (List.mem_append_right _ h)))
  have hl := lv_entry ([.ref (nN 0), .int i1, .int i2, .int i3]) (n := 5) (Nat.le_of_ble_eq_true rfl)
  rw [lg_entry_eq]
  generalize (lg_sl ([.ref (nN 0), .int i1, .int i2, .int i3]) ++ List.replicate (5 - (lg_sl ([.ref (nN 0), .int i1, .int i2, .int i3])).length) Slot.unset).toArray = ls at hl ⊢
  have hl : lv_has ls 5 [(0, .ref (nN 0)), (1, .int i1), (2, .int i2), (3, .int i3)] := hl
  obtain ⟨QQ, hQQ⟩ : ∃ Q : State → Prop, Q = MQ below (qiW rr D (cMain Y nN (hT 0) uD uX (aN 0) uA uZ uW uP uK uL nS ++ cTold Y hT tT ++ cStand Y aN (hT 0) vN gN) A) ([.ref (nN 0), .int i1, .int i2, .int i3] : List Value).toArray s 0 0 A := ⟨_, rfl⟩
  rw [← hQQ]
  unfold MX4_touch at hM
  suffices hI : ∀ (H : Heap) (locs : List Loc), va_P D vwCl (cMain Y nN (hT 0) uD uX (aN 0) uA uZ uW uP uK uL nS ++ cTold Y hT tT ++ cStand Y aN (hT 0) vN gN) H → va_S A s.heap H locs → W p l e (headSpec wsX4_touch rmX4_touch).room s m ([.ref (nN 0), .int i1, .int i2, .int i3] : List Value).toArray below meth c H locs 0 0 QQ (F0 m 0 ls []) from hI _ _ hP hS
  clear hP hS
  intro H locs hP hS
  refine lv_aload_n hx hb dX4_touch_0 rfl (lv_at hl 0 rfl) ?_
  refine lv_iload_n hx hb dX4_touch_1 rfl (lv_at hl 1 rfl) ?_
  refine lv_iload_n hx hb dX4_touch_2 rfl (lv_at hl 2 rfl) ?_
  refine lv_iload_n hx hb dX4_touch_3 rfl (lv_at hl 3 rfl) ?_
  obtain ⟨r1, hc2, hM⟩ := bnd1_at hM
  refine cm_i (w2 := (cMain Y nN (hT 0) uD uX (aN 0) uA uZ uW uP uK uL nS ++ cTold Y hT tT ++ cStand Y aN (hT 0) vN gN)) (va_runV (As := [.int i1, .int i2, .int i3]) (rest := []) ⟨hx, hb, hml, hown, hts⟩ (ctX4_refusePair l D Y nN hT uD uX (aN 0) uA uZ uW uP uK uL H.size nS tT i1 i2 i3 r1 hc2) (cwV 3 hts gX4_touch_X4_refusePair rfl rfl rfl (by decide +kernel) ⟨Nat.le_of_ble_eq_true rfl, Nat.le_of_ble_eq_true rfl⟩) (pcW_V (ci := 4) (q0 := 0) hK hP (hD.same rfl) [0, 1, 2, 3, 4, 5, 6, 7, 8, 9, 10, 11, 12, 13] rfl (pc_map (pc_cons rfl (pc_cons rfl (pc_cons rfl (pc_cons rfl (pc_cons rfl (pc_cons rfl (pc_cons rfl (pc_cons rfl (pc_cons rfl (pc_cons rfl (pc_cons rfl (pc_cons rfl (pc_cons rfl (pc_cons rfl pc_nil))))))))))))))) rfl rfl) rfl rfl hl.1 rfl (lv_room (Nat.le_of_ble_eq_true rfl)) dX4_touch_4 ⟨Nat.zero_le _, Nat.zero_le _⟩) hP (hD.same rfl) hS hA [0, 1, 2, 3, 4, 5, 6, 7, 8, 9, 10, 11, 12, 13] (pc_map (pc_cons rfl (pc_cons rfl (pc_cons rfl (pc_cons rfl (pc_cons rfl (pc_cons rfl (pc_cons rfl (pc_cons rfl (pc_cons rfl (pc_cons rfl (pc_cons rfl (pc_cons rfl (pc_cons rfl (pc_cons rfl pc_nil))))))))))))))) (up_new 0 rfl (up_new 1 rfl (up_new 2 rfl (up_new 3 rfl (up_new 4 rfl (up_new 5 rfl (up_new 6 rfl (up_new 7 rfl (up_new 8 rfl (up_new 9 rfl (up_new 10 rfl (up_new 11 rfl (up_new 12 rfl (up_new 13 rfl (up_old rfl rfl (up_old rfl rfl (up_old rfl rfl up_nil))))))))))))))))) (fun H locs hP hS => ?_)
  refine lv_istore (lv' := [(4, .int r1), (0, .ref (nN 0)), (1, .int i1), (2, .int i2), (3, .int i3)]) hx hb dX4_touch_7 hl (by decide) rfl (fun ls hl => ?_)
  refine lv_iload hx hb dX4_touch_9 (lv_at hl 0 rfl) ?_
  refine lv_if_eq (tgt := 17) hx hb dX4_touch_11 (by decide) (fun c3 => ?_) (fun c3 => ?_)
  · replace hM := if_at_pos hM c3
    refine lv_aload_n hx hb dX4_touch_17 rfl (lv_at hl 1 rfl) ?_
    refine va_get hx hb hts hi4 hown hK hP 0 rfl rfl 3 (by decide) (hts (.fieldLink RX4 31 "NightPlots" "now" "LNightPlots$Standing;") (List.mem_of_getElem? (i := 1) rfl)) (fun _ h9 => h9) rfl dX4_touch_18 ?_
    refine lv_iload_n hx hb dX4_touch_21 rfl (lv_at hl 2 rfl) ?_
    refine lv_iload_n hx hb dX4_touch_22 rfl (lv_at hl 3 rfl) ?_
    refine lv_iload_n hx hb dX4_touch_23 rfl (lv_at hl 4 rfl) ?_
    obtain ⟨r4, hc5, hM⟩ := bnd1_at hM
    refine cm_i (w2 := (cMain Y nN (hT 0) uD uX (aN 0) uA uZ uW uP uK uL nS ++ cTold Y hT tT ++ cStand Y aN (hT 0) vN gN)) (va_runV (As := [.int i1, .int i2, .int i3]) (rest := []) ⟨hx, hb, hml, hown, hts⟩ (ctX1_meets l D Y aN hT vN H.size gN tT i1 i2 i3 r4 hc5) (cwV 3 hts gX4_touch_X1_meets rfl rfl rfl (by decide +kernel) ⟨Nat.le_of_ble_eq_true rfl, Nat.le_of_ble_eq_true rfl⟩) (pcW_V (ci := 1) (q0 := 14) hK hP (hD.same rfl) [14, 15, 16, 6, 7, 8, 9, 10, 11, 12, 13] rfl (pc_map (pc_cons rfl (pc_cons rfl (pc_cons rfl (pc_cons rfl (pc_cons rfl (pc_cons rfl (pc_cons rfl (pc_cons rfl (pc_cons rfl (pc_cons rfl (pc_cons rfl pc_nil)))))))))))) rfl rfl) rfl rfl hl.1 rfl (lv_room (Nat.le_of_ble_eq_true rfl)) dX4_touch_24 ⟨Nat.zero_le _, Nat.zero_le _⟩) hP (hD.same rfl) hS hA [14, 15, 16, 6, 7, 8, 9, 10, 11, 12, 13] (pc_map (pc_cons rfl (pc_cons rfl (pc_cons rfl (pc_cons rfl (pc_cons rfl (pc_cons rfl (pc_cons rfl (pc_cons rfl (pc_cons rfl (pc_cons rfl (pc_cons rfl pc_nil)))))))))))) (up_old rfl rfl (up_old rfl rfl (up_old rfl rfl (up_old rfl rfl (up_old rfl rfl (up_old rfl rfl (up_new 3 rfl (up_new 4 rfl (up_new 5 rfl (up_new 6 rfl (up_new 7 rfl (up_new 8 rfl (up_new 9 rfl (up_new 10 rfl (up_new 0 rfl (up_new 1 rfl (up_new 2 rfl up_nil))))))))))))))))) (fun H locs hP hS => ?_)
    refine jn1_at (fun (x6 : Int32) => ∀ (H : Heap) (locs : List Loc) (ls : Array Slot), va_P D vwCl (cMain Y nN (hT 0) uD uX (aN 0) uA uZ uW uP uK uL nS ++ cTold Y hT tT ++ cStand Y aN (hT 0) vN gN) H → va_S A s.heap H locs → lv_has ls 5 [] → W p l e (headSpec wsX4_touch rmX4_touch).room s m ([.ref (nN 0), .int i1, .int i2, .int i3] : List Value).toArray below meth c H locs 0 0 QQ (F0 m 35 ls [.int x6])) hM (fun x6 hM H locs ls hP hS hl => ?_) (fun k7 hJ7 hM => ?_)
    · cases hM
      rw [hQQ]
      exact W.iret hx hb hr (fun t ht hW => ⟨⟨_, (), rfl, rfl, by show va_P D vwCl _ t.heap; rw [ht]; exact hP⟩, hS.F ht⟩) hS.2.2 dX4_touch_35
    · refine lv_if_eq (tgt := 34) hx hb dX4_touch_27 (by decide) (fun c8 => ?_) (fun c8 => ?_)
      · replace hM := if_at_pos hM c8
        refine lv_iconst (v := (0 : Int32)) hx hb dX4_touch_34 (by decide) ?_
        exact hJ7 (0 : Int32) hM H locs ls hP hS (lv_sub hl [] rfl)
      · replace hM := if_at_neg hM c8
        refine lv_iconst (v := (1 : Int32)) hx hb dX4_touch_30 (by decide) ?_
        refine lv_goto (tgt := 35) hx hb dX4_touch_31 (by decide) ?_
        exact hJ7 (1 : Int32) hM H locs ls hP hS (lv_sub hl [] rfl)
  · replace hM := if_at_neg hM c3
    refine lv_iload hx hb dX4_touch_14 (lv_at hl 0 rfl) ?_
    cases hM
    rw [hQQ]
    exact W.iret hx hb hr (fun t ht hW => ⟨⟨_, (), rfl, rfl, by show va_P D vwCl _ t.heap; rw [ht]; exact hP⟩, hS.F ht⟩) hS.2.2 dX4_touch_16
noncomputable def BX4_firstMeeting_3 (i4 : Int32) (k3 : GS → (Nat → Int32) → Option (Int32 × GS × (Nat → Int32))) (tT : GS) (i1 : Int32) (i2 : Int32) (i3 : Int32) (k7 : Int32 → GS → (Nat → Int32) → Option (Int32 × GS × (Nat → Int32))) (rec11 : Int32 → GS → (Nat → Int32) → Option (Int32 × GS × (Nat → Int32))) (x8 : Int32) (gA_9 : GS) (fA_10 : Nat → Int32) : Option (Int32 × GS × (Nat → Int32)) := if i4 < x8 then (k3 gA_9 fA_10) else (bnd1 (MX1_meets gA_9 tT i1 i2 i3) fun (r13 : Int32) => if r13 = 0 then (bnd2 (MX1_passNight gA_9 fA_10 tT (tT 0 4)) fun (gS_16 : GS) (fW_17 : Nat → Int32) => nm (x8 + 1) fun (x19 : Int32) => rec11 x19 gS_16 fW_17) else (k7 x8 gA_9 fA_10))
noncomputable def MX4_firstMeeting (tT : GS) (gA : GS) (fA : Nat → Int32) (i1 : Int32) (i2 : Int32) (i3 : Int32) (i4 : Int32) : Option (Int32 × GS × (Nat → Int32)) := jn2 (fun (gA_1 : GS) (fA_2 : Nat → Int32) => some ((-1 : Int32), gA_1, fA_2)) (fun k3 => jn3 (fun (x4 : Int32) (gA_5 : GS) (fA_6 : Nat → Int32) => some (x4, gA_5, fA_6)) (fun k7 => lq3 (BX4_firstMeeting_3 i4 k3 tT i1 i2 i3 k7) FU (0 : Int32) gA fA))
abbrev rmX4_firstMeeting : Room := { frames := 6, cells := 0, slots := 0, locals := 240 }
set_option maxHeartbeats 4000000 in
set_option maxRecDepth 100000 in
theorem ctX4_firstMeeting (l : Launch) (D : va_G) (Y : Nat → ClassId) (nN : Nat → Nat) (hT : Nat → Nat) (aA : Nat → Nat) (vA : Nat) (uD : Nat) (uX : Nat) (uN : Nat) (uZ : Nat) (uW : Nat) (uP : Nat) (uK : Nat) (uL : Nat) (sz : Nat) (nS : GS) (tT : GS) (gA : GS) (fA : Nat → Int32) (i1 : Int32) (i2 : Int32) (i3 : Int32) (i4 : Int32) (rr : Int32) (gAz : GS) (fAz : Nat → Int32) (hM : MX4_firstMeeting tT gA fA i1 i2 i3 i4 = some (rr, gAz, fAz)) : Met l yX4_firstMeeting wsX4_firstMeeting rmX4_firstMeeting (pcW [.ref (nN 0), .int i1, .int i2, .int i3, .int i4] sz D Y (cMain Y nN (hT 0) uD uX uN (aA 0) uZ uW uP uK uL nS ++ cTold Y hT tT ++ cStand Y aA (hT 0) vA gA ++ cRow Y vA 8 fA)) (qiW rr D (cMain Y nN (hT 0) uD uX uN (aA 0) uZ uW uP uK uL nS ++ cTold Y hT tT ++ cStand Y aA (hT 0) vA gAz ++ cRow Y vA 8 fAz) (va_A (cMain Y nN (hT 0) uD uX uN (aA 0) uZ uW uP uK uL nS ++ cTold Y hT tT ++ cStand Y aA (hT 0) vA gA ++ cRow Y vA 8 fA) sz)) 0 0 (va_A (cMain Y nN (hT 0) uD uX uN (aA 0) uZ uW uP uK uL nS ++ cTold Y hT tT ++ cStand Y aA (hT 0) vA gA ++ cRow Y vA 8 fA) sz) := by
  refine Met.ofW (cc := cX4_firstMeeting) (maxL := 6) (ret := (some .int)) (by decide) rfl ?_
  intro p e s m args below meth c s₁ B hml hv
  obtain ⟨rfl, hsz, hP, hK, hD0⟩ := hv
  have hx := B.exec
  have hb := B.bytes
  have hr := B.returns
  have hts := atoms_spec (ws := wsX4_firstMeeting) B.pre
  have hown : s.vm.findClass RX4 = some m.cls := findClass_of_methodNamed B.named
  have hlocks := B.notSynchronized
  subst hsz
  have hD := hD0.self (sz := s.heap.size)
  generalize hAe : va_A (cMain Y nN (hT 0) uD uX uN (aA 0) uZ uW uP uK uL nS ++ cTold Y hT tT ++ cStand Y aA (hT 0) vA gA ++ cRow Y vA 8 fA) s.heap.size = A at hD ⊢
  have hA : ∀ q : Nat, s.heap.size ≤ q → A q := fun q h => by rw [← hAe]; exact Or.inr h
  have hS : va_S A s.heap s.heap [] := va_S.rf
  have hi3 : ∀ w ∈ wsX30, w ∈ wsX4_firstMeeting := fun w h => List.mem_cons_of_mem _ (List.mem_append_left _ (List.mem_append_right _ h))
  have hi4 : ∀ w ∈ wsX40, w ∈ wsX4_firstMeeting := fun w h => List.mem_cons_of_mem _ (List.mem_append_left _ (List.mem_append_left _ (List.mem_append_right _ h)))
  have hl := lv_entry ([.ref (nN 0), .int i1, .int i2, .int i3, .int i4]) (n := 6) (Nat.le_of_ble_eq_true rfl)
  rw [lg_entry_eq]
  generalize (lg_sl ([.ref (nN 0), .int i1, .int i2, .int i3, .int i4]) ++ List.replicate (6 - (lg_sl ([.ref (nN 0), .int i1, .int i2, .int i3, .int i4])).length) Slot.unset).toArray = ls at hl ⊢
  have hl : lv_has ls 6 [(0, .ref (nN 0)), (1, .int i1), (2, .int i2), (3, .int i3), (4, .int i4)] := hl
  obtain ⟨QQ, hQQ⟩ : ∃ Q : State → Prop, Q = MQ below (qiW rr D (cMain Y nN (hT 0) uD uX uN (aA 0) uZ uW uP uK uL nS ++ cTold Y hT tT ++ cStand Y aA (hT 0) vA gAz ++ cRow Y vA 8 fAz) A) ([.ref (nN 0), .int i1, .int i2, .int i3, .int i4] : List Value).toArray s 0 0 A := ⟨_, rfl⟩
  rw [← hQQ]
  unfold MX4_firstMeeting at hM
  suffices hI : ∀ (H : Heap) (locs : List Loc), va_P D vwCl (cMain Y nN (hT 0) uD uX uN (aA 0) uZ uW uP uK uL nS ++ cTold Y hT tT ++ cStand Y aA (hT 0) vA gA ++ cRow Y vA 8 fA) H → va_S A s.heap H locs → W p l e (headSpec wsX4_firstMeeting rmX4_firstMeeting).room s m ([.ref (nN 0), .int i1, .int i2, .int i3, .int i4] : List Value).toArray below meth c H locs 0 0 QQ (F0 m 0 ls []) from hI _ _ hP hS
  clear hP hS
  intro H locs hP hS
  refine lv_iconst (v := (0 : Int32)) hx hb dX4_firstMeeting_0 (by decide) ?_
  refine lv_istore (lv' := [(5, .int (0 : Int32)), (0, .ref (nN 0)), (1, .int i1), (2, .int i2), (3, .int i3), (4, .int i4)]) hx hb dX4_firstMeeting_1 hl (by decide) rfl (fun ls hl => ?_)
  refine jn2_at (fun (gA_1 : GS) (fA_2 : Nat → Int32) => ∀ (H : Heap) (locs : List Loc) (ls : Array Slot), va_P D vwCl (cMain Y nN (hT 0) uD uX uN (aA 0) uZ uW uP uK uL nS ++ cTold Y hT tT ++ cStand Y aA (hT 0) vA gA_1 ++ cRow Y vA 8 fA_2) H → va_S A s.heap H locs → lv_has ls 6 [] → W p l e (headSpec wsX4_firstMeeting rmX4_firstMeeting).room s m ([.ref (nN 0), .int i1, .int i2, .int i3, .int i4] : List Value).toArray below meth c H locs 0 0 QQ (F0 m 46 ls [])) hM (fun gA_1 fA_2 hM H locs ls hP hS hl => ?_) (fun k3 hJ3 hM => ?_)
  · refine lv_iconst (v := (-1 : Int32)) hx hb dX4_firstMeeting_46 (by decide) ?_
    cases hM
    rw [hQQ]
    exact W.iret hx hb hr (fun t ht hW => ⟨⟨_, (), rfl, rfl, by show va_P D vwCl _ t.heap; rw [ht]; exact hP⟩, hS.F ht⟩) hS.2.2 dX4_firstMeeting_47
  · refine jn3_at (fun (x4 : Int32) (gA_5 : GS) (fA_6 : Nat → Int32) => ∀ (H : Heap) (locs : List Loc) (ls : Array Slot), va_P D vwCl (cMain Y nN (hT 0) uD uX uN (aA 0) uZ uW uP uK uL nS ++ cTold Y hT tT ++ cStand Y aA (hT 0) vA gA_5 ++ cRow Y vA 8 fA_6) H → va_S A s.heap H locs → lv_has ls 6 [(5, .int x4)] → W p l e (headSpec wsX4_firstMeeting rmX4_firstMeeting).room s m ([.ref (nN 0), .int i1, .int i2, .int i3, .int i4] : List Value).toArray below meth c H locs 0 0 QQ (F0 m 23 ls [])) hM (fun x4 gA_5 fA_6 hM H locs ls hP hS hl => ?_) (fun k7 hJ7 hM => ?_)
    · refine lv_iload hx hb dX4_firstMeeting_23 (lv_at hl 0 rfl) ?_
      cases hM
      rw [hQQ]
      exact W.iret hx hb hr (fun t ht hW => ⟨⟨_, (), rfl, rfl, by show va_P D vwCl _ t.heap; rw [ht]; exact hP⟩, hS.F ht⟩) hS.2.2 dX4_firstMeeting_25
    · refine lq3_at (fun (x8 : Int32) (gA_9 : GS) (fA_10 : Nat → Int32) => ∀ (H : Heap) (locs : List Loc) (ls : Array Slot), va_P D vwCl (cMain Y nN (hT 0) uD uX uN (aA 0) uZ uW uP uK uL nS ++ cTold Y hT tT ++ cStand Y aA (hT 0) vA gA_9 ++ cRow Y vA 8 fA_10) H → va_S A s.heap H locs → lv_has ls 6 [(0, .ref (nN 0)), (1, .int i1), (2, .int i2), (3, .int i3), (4, .int i4), (5, .int x8)] → W p l e (headSpec wsX4_firstMeeting rmX4_firstMeeting).room s m ([.ref (nN 0), .int i1, .int i2, .int i3, .int i4] : List Value).toArray below meth c H locs 0 0 QQ (F0 m 3 ls [])) (fun rec11 x8 gA_9 fA_10 ih11 hM H locs ls hP hS hl => ?_) FU (0 : Int32) gA fA hM H locs ls hP hS (lv_sub hl [1, 2, 3, 4, 5, 0] rfl)
      unfold BX4_firstMeeting_3 at hM
      refine lv_iload hx hb dX4_firstMeeting_3 (lv_at hl 5 rfl) ?_
      refine lv_iload hx hb dX4_firstMeeting_5 (lv_at hl 4 rfl) ?_
      refine lv_icmp_gt (tgt := 46) hx hb dX4_firstMeeting_7 (by decide) (fun c12 => ?_) (fun c12 => ?_)
      · replace hM := if_at_pos hM c12
        exact hJ3 gA_9 fA_10 hM H locs ls hP hS (lv_sub hl [] rfl)
      · replace hM := if_at_neg hM c12
        refine lv_aload_n hx hb dX4_firstMeeting_10 rfl (lv_at hl 0 rfl) ?_
        refine va_get hx hb hts hi4 hown hK hP 0 rfl rfl 4 (by decide) (hts (.fieldLink RX4 35 "NightPlots" "ahead" "LNightPlots$Standing;") (List.mem_of_getElem? (i := 1) rfl)) (fun _ h9 => h9) rfl dX4_firstMeeting_11 ?_
        refine lv_iload_n hx hb dX4_firstMeeting_14 rfl (lv_at hl 1 rfl) ?_
        refine lv_iload_n hx hb dX4_firstMeeting_15 rfl (lv_at hl 2 rfl) ?_
        refine lv_iload_n hx hb dX4_firstMeeting_16 rfl (lv_at hl 3 rfl) ?_
        obtain ⟨r13, hc14, hM⟩ := bnd1_at hM
        refine cm_i (w2 := (cMain Y nN (hT 0) uD uX uN (aA 0) uZ uW uP uK uL nS ++ cTold Y hT tT ++ cStand Y aA (hT 0) vA gA_9 ++ cRow Y vA 8 fA_10)) (va_runV (As := [.int i1, .int i2, .int i3]) (rest := []) ⟨hx, hb, hml, hown, hts⟩ (ctX1_meets l D Y aA hT vA H.size gA_9 tT i1 i2 i3 r13 hc14) (cwV 3 hts gX4_firstMeeting_X1_meets rfl rfl rfl (by decide +kernel) ⟨Nat.le_of_ble_eq_true rfl, Nat.le_of_ble_eq_true rfl⟩) (pcW_V (ci := 1) (q0 := 14) hK hP (hD.same rfl) [14, 15, 16, 6, 7, 8, 9, 10, 11, 12, 13] rfl (pc_map (pc_cons rfl (pc_cons rfl (pc_cons rfl (pc_cons rfl (pc_cons rfl (pc_cons rfl (pc_cons rfl (pc_cons rfl (pc_cons rfl (pc_cons rfl (pc_cons rfl pc_nil)))))))))))) rfl rfl) rfl rfl hl.1 rfl (lv_room (Nat.le_of_ble_eq_true rfl)) dX4_firstMeeting_17 ⟨Nat.zero_le _, Nat.zero_le _⟩) hP (hD.same rfl) hS hA [14, 15, 16, 6, 7, 8, 9, 10, 11, 12, 13] (pc_map (pc_cons rfl (pc_cons rfl (pc_cons rfl (pc_cons rfl (pc_cons rfl (pc_cons rfl (pc_cons rfl (pc_cons rfl (pc_cons rfl (pc_cons rfl (pc_cons rfl pc_nil)))))))))))) (up_old rfl rfl (up_old rfl rfl (up_old rfl rfl (up_old rfl rfl (up_old rfl rfl (up_old rfl rfl (up_new 3 rfl (up_new 4 rfl (up_new 5 rfl (up_new 6 rfl (up_new 7 rfl (up_new 8 rfl (up_new 9 rfl (up_new 10 rfl (up_new 0 rfl (up_new 1 rfl (up_new 2 rfl (up_old rfl rfl up_nil)))))))))))))))))) (fun H locs hP hS => ?_)
        refine lv_if_eq (tgt := 26) hx hb dX4_firstMeeting_20 (by decide) (fun c15 => ?_) (fun c15 => ?_)
        · replace hM := if_at_pos hM c15
          refine lv_aload_n hx hb dX4_firstMeeting_26 rfl (lv_at hl 0 rfl) ?_
          refine va_get hx hb hts hi4 hown hK hP 0 rfl rfl 4 (by decide) (hts (.fieldLink RX4 35 "NightPlots" "ahead" "LNightPlots$Standing;") (List.mem_of_getElem? (i := 1) rfl)) (fun _ h9 => h9) rfl dX4_firstMeeting_27 ?_
          refine lv_aload_n hx hb dX4_firstMeeting_30 rfl (lv_at hl 0 rfl) ?_
          refine va_get hx hb hts hi4 hown hK hP 0 rfl rfl 0 (by decide) (hts (.fieldLink RX4 12 "NightPlots" "told" "LNightPlots$Told;") (List.mem_of_getElem? (i := 2) rfl)) (fun _ h9 => h9) rfl dX4_firstMeeting_31 ?_
          refine va_get hx hb hts hi3 hown hK hP 6 rfl rfl 4 (by decide) (hts (.fieldLink RX4 130 "NightPlots$Told" "law" "I") (List.mem_of_getElem? (i := 3) rfl)) (fun _ h9 => h9) rfl dX4_firstMeeting_34 ?_
          obtain ⟨gS_16, fW_17, hc18, hM⟩ := bnd2_at hM
          refine cm_v (w2 := (cMain Y nN (hT 0) uD uX uN (aA 0) uZ uW uP uK uL nS ++ cTold Y hT tT ++ cStand Y aA (hT 0) vA gS_16 ++ cRow Y vA 8 fW_17)) (va_runV (As := [.int (tT 0 4)]) (rest := []) ⟨hx, hb, hml, hown, hts⟩ (ctX1_passNight l D Y aA vA hT H.size gA_9 fA_10 tT (tT 0 4) gS_16 fW_17 hc18) (cwV 1 hts gX4_firstMeeting_X1_passNight rfl rfl rfl (by decide +kernel) ⟨Nat.le_of_ble_eq_true rfl, Nat.le_of_ble_eq_true rfl⟩) (pcW_V (ci := 1) (q0 := 14) hK hP (hD.same rfl) [14, 15, 16, 17, 6, 7, 8, 9, 10, 11, 12, 13] rfl (pc_map (pc_cons rfl (pc_cons rfl (pc_cons rfl (pc_cons rfl (pc_cons rfl (pc_cons rfl (pc_cons rfl (pc_cons rfl (pc_cons rfl (pc_cons rfl (pc_cons rfl (pc_cons rfl pc_nil))))))))))))) rfl rfl) rfl rfl hl.1 rfl (lv_room (Nat.le_of_ble_eq_true rfl)) dX4_firstMeeting_37 ⟨Nat.zero_le _, Nat.zero_le _⟩) hP (hD.same rfl) hS hA [14, 15, 16, 17, 6, 7, 8, 9, 10, 11, 12, 13] (pc_map (pc_cons rfl (pc_cons rfl (pc_cons rfl (pc_cons rfl (pc_cons rfl (pc_cons rfl (pc_cons rfl (pc_cons rfl (pc_cons rfl (pc_cons rfl (pc_cons rfl (pc_cons rfl pc_nil))))))))))))) (up_old rfl rfl (up_old rfl rfl (up_old rfl rfl (up_old rfl rfl (up_old rfl rfl (up_old rfl rfl (up_new 4 rfl (up_new 5 rfl (up_new 6 rfl (up_new 7 rfl (up_new 8 rfl (up_new 9 rfl (up_new 10 rfl (up_new 11 rfl (up_new 0 rfl (up_new 1 rfl (up_new 2 rfl (up_new 3 rfl up_nil)))))))))))))))))) (fun H locs hP hS => ?_)
          obtain ⟨x19, ex19⟩ : ∃ z : Int32, z = (x8 + 1) := ⟨_, rfl⟩
          replace hM := nm_at hM ex19
          refine lv_iinc (v := x19) (lv' := [(5, .int x19), (0, .ref (nN 0)), (1, .int i1), (2, .int i2), (3, .int i3), (4, .int i4)]) hx hb dX4_firstMeeting_40 hl (k := 5) rfl (by rw [ex19]; rfl) (by decide) rfl (fun ls hl => ?_)
          refine lv_goto (tgt := 3) hx hb dX4_firstMeeting_43 (by decide) ?_
          exact ih11 x19 gS_16 fW_17 hM H locs ls hP hS (lv_sub hl [1, 2, 3, 4, 5, 0] rfl)
        · replace hM := if_at_neg hM c15
          exact hJ7 x8 gA_9 fA_10 hM H locs ls hP hS (lv_sub hl [5] rfl)
noncomputable def MX4_when (tT : GS) (gN : GS) (gA : GS) (fA : Nat → Int32) (i1 : Int32) (i2 : Int32) (i3 : Int32) : Option (Int32 × GS × (Nat → Int32)) := bnd1 (MX4_refusePair tT i1 i2 i3) fun (r1 : Int32) => if r1 = 0 then (bnd1 (MX1_copyFrom gA gN) fun (gS_4 : GS) => bnd3 (MX4_firstMeeting tT gS_4 fA i1 i2 i3 (399 : Int32)) fun (r6 : Int32) (gA_7 : GS) (fA_8 : Nat → Int32) => some (r6, gA_7, fA_8)) else (some (r1, gA, fA))
abbrev rmX4_when : Room := { frames := 7, cells := 0, slots := 0, locals := 280 }
set_option maxHeartbeats 4000000 in
set_option maxRecDepth 100000 in
theorem ctX4_when (l : Launch) (D : va_G) (Y : Nat → ClassId) (nN : Nat → Nat) (hT : Nat → Nat) (aN : Nat → Nat) (aA : Nat → Nat) (vA : Nat) (uD : Nat) (uX : Nat) (uZ : Nat) (uW : Nat) (uP : Nat) (uK : Nat) (uL : Nat) (vN : Nat) (sz : Nat) (nS : GS) (tT : GS) (gN : GS) (gA : GS) (fA : Nat → Int32) (i1 : Int32) (i2 : Int32) (i3 : Int32) (rr : Int32) (gAz : GS) (fAz : Nat → Int32) (hM : MX4_when tT gN gA fA i1 i2 i3 = some (rr, gAz, fAz)) : Met l yX4_when wsX4_when rmX4_when (pcW [.ref (nN 0), .int i1, .int i2, .int i3] sz D Y (cMain Y nN (hT 0) uD uX (aN 0) (aA 0) uZ uW uP uK uL nS ++ cTold Y hT tT ++ cStand Y aN (hT 0) vN gN ++ cStand Y aA (hT 0) vA gA ++ cRow Y vA 8 fA)) (qiW rr D (cMain Y nN (hT 0) uD uX (aN 0) (aA 0) uZ uW uP uK uL nS ++ cTold Y hT tT ++ cStand Y aN (hT 0) vN gN ++ cStand Y aA (hT 0) vA gAz ++ cRow Y vA 8 fAz) (va_A (cMain Y nN (hT 0) uD uX (aN 0) (aA 0) uZ uW uP uK uL nS ++ cTold Y hT tT ++ cStand Y aN (hT 0) vN gN ++ cStand Y aA (hT 0) vA gA ++ cRow Y vA 8 fA) sz)) 0 0 (va_A (cMain Y nN (hT 0) uD uX (aN 0) (aA 0) uZ uW uP uK uL nS ++ cTold Y hT tT ++ cStand Y aN (hT 0) vN gN ++ cStand Y aA (hT 0) vA gA ++ cRow Y vA 8 fA) sz) := by
  refine Met.ofW (cc := cX4_when) (maxL := 5) (ret := (some .int)) (by decide) rfl ?_
  intro p e s m args below meth c s₁ B hml hv
  obtain ⟨rfl, hsz, hP, hK, hD0⟩ := hv
  have hx := B.exec
  have hb := B.bytes
  have hr := B.returns
  have hts := atoms_spec (ws := wsX4_when) B.pre
  have hown : s.vm.findClass RX4 = some m.cls := findClass_of_methodNamed B.named
  have hlocks := B.notSynchronized
  subst hsz
  have hD := hD0.self (sz := s.heap.size)
  generalize hAe : va_A (cMain Y nN (hT 0) uD uX (aN 0) (aA 0) uZ uW uP uK uL nS ++ cTold Y hT tT ++ cStand Y aN (hT 0) vN gN ++ cStand Y aA (hT 0) vA gA ++ cRow Y vA 8 fA) s.heap.size = A at hD ⊢
  have hA : ∀ q : Nat, s.heap.size ≤ q → A q := fun q h => by rw [← hAe]; exact Or.inr h
  have hS : va_S A s.heap s.heap [] := va_S.rf
  have hi4 : ∀ w ∈ wsX40, w ∈ wsX4_when := fun w h => List.mem_cons_of_mem _ (List.mem_append_left _ (List.mem_append_left _ (List.mem_append_right _ h)))
  have hl := lv_entry ([.ref (nN 0), .int i1, .int i2, .int i3]) (n := 5) (Nat.le_of_ble_eq_true rfl)
  rw [lg_entry_eq]
  generalize (lg_sl ([.ref (nN 0), .int i1, .int i2, .int i3]) ++ List.replicate (5 - (lg_sl ([.ref (nN 0), .int i1, .int i2, .int i3])).length) Slot.unset).toArray = ls at hl ⊢
  have hl : lv_has ls 5 [(0, .ref (nN 0)), (1, .int i1), (2, .int i2), (3, .int i3)] := hl
  obtain ⟨QQ, hQQ⟩ : ∃ Q : State → Prop, Q = MQ below (qiW rr D (cMain Y nN (hT 0) uD uX (aN 0) (aA 0) uZ uW uP uK uL nS ++ cTold Y hT tT ++ cStand Y aN (hT 0) vN gN ++ cStand Y aA (hT 0) vA gAz ++ cRow Y vA 8 fAz) A) ([.ref (nN 0), .int i1, .int i2, .int i3] : List Value).toArray s 0 0 A := ⟨_, rfl⟩
  rw [← hQQ]
  unfold MX4_when at hM
  suffices hI : ∀ (H : Heap) (locs : List Loc), va_P D vwCl (cMain Y nN (hT 0) uD uX (aN 0) (aA 0) uZ uW uP uK uL nS ++ cTold Y hT tT ++ cStand Y aN (hT 0) vN gN ++ cStand Y aA (hT 0) vA gA ++ cRow Y vA 8 fA) H → va_S A s.heap H locs → W p l e (headSpec wsX4_when rmX4_when).room s m ([.ref (nN 0), .int i1, .int i2, .int i3] : List Value).toArray below meth c H locs 0 0 QQ (F0 m 0 ls []) from hI _ _ hP hS
  clear hP hS
  intro H locs hP hS
  refine lv_aload_n hx hb dX4_when_0 rfl (lv_at hl 0 rfl) ?_
  refine lv_iload_n hx hb dX4_when_1 rfl (lv_at hl 1 rfl) ?_
  refine lv_iload_n hx hb dX4_when_2 rfl (lv_at hl 2 rfl) ?_
  refine lv_iload_n hx hb dX4_when_3 rfl (lv_at hl 3 rfl) ?_
  obtain ⟨r1, hc2, hM⟩ := bnd1_at hM
  refine cm_i (w2 := (cMain Y nN (hT 0) uD uX (aN 0) (aA 0) uZ uW uP uK uL nS ++ cTold Y hT tT ++ cStand Y aN (hT 0) vN gN ++ cStand Y aA (hT 0) vA gA ++ cRow Y vA 8 fA)) (va_runV (As := [.int i1, .int i2, .int i3]) (rest := []) ⟨hx, hb, hml, hown, hts⟩ (ctX4_refusePair l D Y nN hT uD uX (aN 0) (aA 0) uZ uW uP uK uL H.size nS tT i1 i2 i3 r1 hc2) (cwV 3 hts gX4_when_X4_refusePair rfl rfl rfl (by decide +kernel) ⟨Nat.le_of_ble_eq_true rfl, Nat.le_of_ble_eq_true rfl⟩) (pcW_V (ci := 4) (q0 := 0) hK hP (hD.same rfl) [0, 1, 2, 3, 4, 5, 6, 7, 8, 9, 10, 11, 12, 13] rfl (pc_map (pc_cons rfl (pc_cons rfl (pc_cons rfl (pc_cons rfl (pc_cons rfl (pc_cons rfl (pc_cons rfl (pc_cons rfl (pc_cons rfl (pc_cons rfl (pc_cons rfl (pc_cons rfl (pc_cons rfl (pc_cons rfl pc_nil))))))))))))))) rfl rfl) rfl rfl hl.1 rfl (lv_room (Nat.le_of_ble_eq_true rfl)) dX4_when_4 ⟨Nat.zero_le _, Nat.zero_le _⟩) hP (hD.same rfl) hS hA [0, 1, 2, 3, 4, 5, 6, 7, 8, 9, 10, 11, 12, 13] (pc_map (pc_cons rfl (pc_cons rfl (pc_cons rfl (pc_cons rfl (pc_cons rfl (pc_cons rfl (pc_cons rfl (pc_cons rfl (pc_cons rfl (pc_cons rfl (pc_cons rfl (pc_cons rfl (pc_cons rfl (pc_cons rfl pc_nil))))))))))))))) (up_new 0 rfl (up_new 1 rfl (up_new 2 rfl (up_new 3 rfl (up_new 4 rfl (up_new 5 rfl (up_new 6 rfl (up_new 7 rfl (up_new 8 rfl (up_new 9 rfl (up_new 10 rfl (up_new 11 rfl (up_new 12 rfl (up_new 13 rfl (up_old rfl rfl (up_old rfl rfl (up_old rfl rfl (up_old rfl rfl (up_old rfl rfl (up_old rfl rfl (up_old rfl rfl up_nil))))))))))))))))))))) (fun H locs hP hS => ?_)
  refine lv_istore (lv' := [(4, .int r1), (0, .ref (nN 0)), (1, .int i1), (2, .int i2), (3, .int i3)]) hx hb dX4_when_7 hl (by decide) rfl (fun ls hl => ?_)
  refine lv_iload hx hb dX4_when_9 (lv_at hl 0 rfl) ?_
  refine lv_if_eq (tgt := 17) hx hb dX4_when_11 (by decide) (fun c3 => ?_) (fun c3 => ?_)
  · replace hM := if_at_pos hM c3
    refine lv_aload_n hx hb dX4_when_17 rfl (lv_at hl 1 rfl) ?_
    refine va_get hx hb hts hi4 hown hK hP 0 rfl rfl 4 (by decide) (hts (.fieldLink RX4 35 "NightPlots" "ahead" "LNightPlots$Standing;") (List.mem_of_getElem? (i := 1) rfl)) (fun _ h9 => h9) rfl dX4_when_18 ?_
    refine lv_aload_n hx hb dX4_when_21 rfl (lv_at hl 1 rfl) ?_
    refine va_get hx hb hts hi4 hown hK hP 0 rfl rfl 3 (by decide) (hts (.fieldLink RX4 31 "NightPlots" "now" "LNightPlots$Standing;") (List.mem_of_getElem? (i := 2) rfl)) (fun _ h9 => h9) rfl dX4_when_22 ?_
    obtain ⟨gS_4, hc5, hM⟩ := bnd1_at hM
    refine cm_v (w2 := (cMain Y nN (hT 0) uD uX (aN 0) (aA 0) uZ uW uP uK uL nS ++ cTold Y hT tT ++ cStand Y aN (hT 0) vN gN ++ cStand Y aA (hT 0) vA gS_4 ++ cRow Y vA 8 fA)) (va_runV (As := [.ref (aN 0)]) (rest := []) ⟨hx, hb, hml, hown, hts⟩ (ctX1_copyFrom l D Y aA aN (hT 0) vA (hT 0) vN H.size gA gN gS_4 hc5) (cwV 1 hts gX4_when_X1_copyFrom rfl rfl rfl (by decide +kernel) ⟨Nat.le_of_ble_eq_true rfl, Nat.le_of_ble_eq_true rfl⟩) (pcW_V (ci := 1) (q0 := 17) hK hP (hD.same rfl) [17, 18, 19, 14, 15, 16] rfl (pc_map (pc_cons rfl (pc_cons rfl (pc_cons rfl (pc_cons rfl (pc_cons rfl (pc_cons rfl pc_nil))))))) rfl rfl) rfl rfl hl.1 rfl (lv_room (Nat.le_of_ble_eq_true rfl)) dX4_when_25 ⟨Nat.zero_le _, Nat.zero_le _⟩) hP (hD.same rfl) hS hA [17, 18, 19, 14, 15, 16] (pc_map (pc_cons rfl (pc_cons rfl (pc_cons rfl (pc_cons rfl (pc_cons rfl (pc_cons rfl pc_nil))))))) (up_old rfl rfl (up_old rfl rfl (up_old rfl rfl (up_old rfl rfl (up_old rfl rfl (up_old rfl rfl (up_old rfl rfl (up_old rfl rfl (up_old rfl rfl (up_old rfl rfl (up_old rfl rfl (up_old rfl rfl (up_old rfl rfl (up_old rfl rfl (up_new 3 rfl (up_new 4 rfl (up_new 5 rfl (up_new 0 rfl (up_new 1 rfl (up_new 2 rfl (up_old rfl rfl up_nil))))))))))))))))))))) (fun H locs hP hS => ?_)
    refine lv_aload_n hx hb dX4_when_28 rfl (lv_at hl 1 rfl) ?_
    refine lv_iload_n hx hb dX4_when_29 rfl (lv_at hl 2 rfl) ?_
    refine lv_iload_n hx hb dX4_when_30 rfl (lv_at hl 3 rfl) ?_
    refine lv_iload_n hx hb dX4_when_31 rfl (lv_at hl 4 rfl) ?_
    refine lv_sipush (v := (399 : Int32)) hx hb dX4_when_32 (by decide) ?_
    obtain ⟨r6, gA_7, fA_8, hc9, hM⟩ := bnd3_at hM
    refine cm_i (w2 := (cMain Y nN (hT 0) uD uX (aN 0) (aA 0) uZ uW uP uK uL nS ++ cTold Y hT tT ++ cStand Y aN (hT 0) vN gN ++ cStand Y aA (hT 0) vA gA_7 ++ cRow Y vA 8 fA_8)) (va_runV (As := [.int i1, .int i2, .int i3, .int (399 : Int32)]) (rest := []) ⟨hx, hb, hml, hown, hts⟩ (ctX4_firstMeeting l D Y nN hT aA vA uD uX (aN 0) uZ uW uP uK uL H.size nS tT gS_4 fA i1 i2 i3 (399 : Int32) r6 gA_7 fA_8 hc9) (cwV 4 hts gX4_when_X4_firstMeeting rfl rfl rfl (by decide +kernel) ⟨Nat.le_of_ble_eq_true rfl, Nat.le_of_ble_eq_true rfl⟩) (pcW_V (ci := 4) (q0 := 0) hK hP (hD.same rfl) [0, 1, 2, 3, 4, 5, 6, 7, 8, 9, 10, 11, 12, 13, 17, 18, 19, 20] rfl (pc_map (pc_cons rfl (pc_cons rfl (pc_cons rfl (pc_cons rfl (pc_cons rfl (pc_cons rfl (pc_cons rfl (pc_cons rfl (pc_cons rfl (pc_cons rfl (pc_cons rfl (pc_cons rfl (pc_cons rfl (pc_cons rfl (pc_cons rfl (pc_cons rfl (pc_cons rfl (pc_cons rfl pc_nil))))))))))))))))))) rfl rfl) rfl rfl hl.1 rfl (lv_room (Nat.le_of_ble_eq_true rfl)) dX4_when_35 ⟨Nat.zero_le _, Nat.zero_le _⟩) hP (hD.same rfl) hS hA [0, 1, 2, 3, 4, 5, 6, 7, 8, 9, 10, 11, 12, 13, 17, 18, 19, 20] (pc_map (pc_cons rfl (pc_cons rfl (pc_cons rfl (pc_cons rfl (pc_cons rfl (pc_cons rfl (pc_cons rfl (pc_cons rfl (pc_cons rfl (pc_cons rfl (pc_cons rfl (pc_cons rfl (pc_cons rfl (pc_cons rfl (pc_cons rfl (pc_cons rfl (pc_cons rfl (pc_cons rfl pc_nil))))))))))))))))))) (up_new 0 rfl (up_new 1 rfl (up_new 2 rfl (up_new 3 rfl (up_new 4 rfl (up_new 5 rfl (up_new 6 rfl (up_new 7 rfl (up_new 8 rfl (up_new 9 rfl (up_new 10 rfl (up_new 11 rfl (up_new 12 rfl (up_new 13 rfl (up_old rfl rfl (up_old rfl rfl (up_old rfl rfl (up_new 14 rfl (up_new 15 rfl (up_new 16 rfl (up_new 17 rfl up_nil))))))))))))))))))))) (fun H locs hP hS => ?_)
    cases hM
    rw [hQQ]
    exact W.iret hx hb hr (fun t ht hW => ⟨⟨_, (), rfl, rfl, by show va_P D vwCl _ t.heap; rw [ht]; exact hP⟩, hS.F ht⟩) hS.2.2 dX4_when_38
  · replace hM := if_at_neg hM c3
    refine lv_iload hx hb dX4_when_14 (lv_at hl 0 rfl) ?_
    cases hM
    rw [hQQ]
    exact W.iret hx hb hr (fun t ht hW => ⟨⟨_, (), rfl, rfl, by show va_P D vwCl _ t.heap; rw [ht]; exact hP⟩, hS.F ht⟩) hS.2.2 dX4_when_16
noncomputable def BX4_often_45 (i4 : Int32) (k12 : Int32 → GS → (Nat → Int32) → Option (Int32 × GS × (Nat → Int32))) (tT : GS) (i1 : Int32) (i2 : Int32) (i3 : Int32) (rec17 : Int32 → Int32 → GS → (Nat → Int32) → Option (Int32 × GS × (Nat → Int32))) (x13 : Int32) (x14 : Int32) (gA_15 : GS) (fA_16 : Nat → Int32) : Option (Int32 × GS × (Nat → Int32)) := if i4 ≤ x14 then (k12 x13 gA_15 fA_16) else (bnd1 (MX1_meets gA_15 tT i1 i2 i3) fun (r19 : Int32) => jn1 (fun (x21 : Int32) => bnd2 (MX1_passNight gA_15 fA_16 tT (tT 0 4)) fun (gS_23 : GS) (fW_24 : Nat → Int32) => nm (x14 + 1) fun (x26 : Int32) => rec17 x21 x26 gS_23 fW_24) (fun k22 => if r19 = 0 then (k22 x13) else (nm (x13 + 1) fun (x28 : Int32) => k22 x28)))
noncomputable def MX4_often (tT : GS) (gN : GS) (gA : GS) (fA : Nat → Int32) (i1 : Int32) (i2 : Int32) (i3 : Int32) (i4 : Int32) : Option (Int32 × GS × (Nat → Int32)) := bnd1 (MX4_refusePair tT i1 i2 i3) fun (r1 : Int32) => if r1 = 0 then (bnd1 (MX4_areDays i4) fun (r4 : Int32) => if r4 = 0 then (some ((-3 : Int32), gA, fA)) else (bnd1 (MX1_copyFrom gA gN) fun (gS_7 : GS) => jn3 (fun (x9 : Int32) (gA_10 : GS) (fA_11 : Nat → Int32) => some (x9, gA_10, fA_11)) (fun k12 => lq4 (BX4_often_45 i4 k12 tT i1 i2 i3) FU (0 : Int32) (0 : Int32) gS_7 fA))) else (some (r1, gA, fA))
abbrev rmX4_often : Room := { frames := 6, cells := 0, slots := 0, locals := 240 }
set_option maxHeartbeats 4000000 in
set_option maxRecDepth 100000 in
theorem ctX4_often (l : Launch) (D : va_G) (Y : Nat → ClassId) (nN : Nat → Nat) (hT : Nat → Nat) (aN : Nat → Nat) (aA : Nat → Nat) (vA : Nat) (uD : Nat) (uX : Nat) (uZ : Nat) (uW : Nat) (uP : Nat) (uK : Nat) (uL : Nat) (vN : Nat) (sz : Nat) (nS : GS) (tT : GS) (gN : GS) (gA : GS) (fA : Nat → Int32) (i1 : Int32) (i2 : Int32) (i3 : Int32) (i4 : Int32) (rr : Int32) (gAz : GS) (fAz : Nat → Int32) (hM : MX4_often tT gN gA fA i1 i2 i3 i4 = some (rr, gAz, fAz)) : Met l yX4_often wsX4_often rmX4_often (pcW [.ref (nN 0), .int i1, .int i2, .int i3, .int i4] sz D Y (cMain Y nN (hT 0) uD uX (aN 0) (aA 0) uZ uW uP uK uL nS ++ cTold Y hT tT ++ cStand Y aN (hT 0) vN gN ++ cStand Y aA (hT 0) vA gA ++ cRow Y vA 8 fA)) (qiW rr D (cMain Y nN (hT 0) uD uX (aN 0) (aA 0) uZ uW uP uK uL nS ++ cTold Y hT tT ++ cStand Y aN (hT 0) vN gN ++ cStand Y aA (hT 0) vA gAz ++ cRow Y vA 8 fAz) (va_A (cMain Y nN (hT 0) uD uX (aN 0) (aA 0) uZ uW uP uK uL nS ++ cTold Y hT tT ++ cStand Y aN (hT 0) vN gN ++ cStand Y aA (hT 0) vA gA ++ cRow Y vA 8 fA) sz)) 0 0 (va_A (cMain Y nN (hT 0) uD uX (aN 0) (aA 0) uZ uW uP uK uL nS ++ cTold Y hT tT ++ cStand Y aN (hT 0) vN gN ++ cStand Y aA (hT 0) vA gA ++ cRow Y vA 8 fA) sz) := by
  refine Met.ofW (cc := cX4_often) (maxL := 8) (ret := (some .int)) (by decide) rfl ?_
  intro p e s m args below meth c s₁ B hml hv
  obtain ⟨rfl, hsz, hP, hK, hD0⟩ := hv
  have hx := B.exec
  have hb := B.bytes
  have hr := B.returns
  have hts := atoms_spec (ws := wsX4_often) B.pre
  have hown : s.vm.findClass RX4 = some m.cls := findClass_of_methodNamed B.named
  have hlocks := B.notSynchronized
  subst hsz
  have hD := hD0.self (sz := s.heap.size)
  generalize hAe : va_A (cMain Y nN (hT 0) uD uX (aN 0) (aA 0) uZ uW uP uK uL nS ++ cTold Y hT tT ++ cStand Y aN (hT 0) vN gN ++ cStand Y aA (hT 0) vA gA ++ cRow Y vA 8 fA) s.heap.size = A at hD ⊢
  have hA : ∀ q : Nat, s.heap.size ≤ q → A q := fun q h => by rw [← hAe]; exact Or.inr h
  have hS : va_S A s.heap s.heap [] := va_S.rf
  have hi3 : ∀ w ∈ wsX30, w ∈ wsX4_often := fun w h => List.mem_cons_of_mem _ (List.mem_append_left _ (List.mem_append_right _ h))
  have hi4 : ∀ w ∈ wsX40, w ∈ wsX4_often := fun w h => List.mem_cons_of_mem _ (List.mem_append_left _ (List.mem_append_left _ (List.mem_append_right _ h)))
  have hl := lv_entry ([.ref (nN 0), .int i1, .int i2, .int i3, .int i4]) (n := 8) (Nat.le_of_ble_eq_true rfl)
  rw [lg_entry_eq]
  generalize (lg_sl ([.ref (nN 0), .int i1, .int i2, .int i3, .int i4]) ++ List.replicate (8 - (lg_sl ([.ref (nN 0), .int i1, .int i2, .int i3, .int i4])).length) Slot.unset).toArray = ls at hl ⊢
  have hl : lv_has ls 8 [(0, .ref (nN 0)), (1, .int i1), (2, .int i2), (3, .int i3), (4, .int i4)] := hl
  obtain ⟨QQ, hQQ⟩ : ∃ Q : State → Prop, Q = MQ below (qiW rr D (cMain Y nN (hT 0) uD uX (aN 0) (aA 0) uZ uW uP uK uL nS ++ cTold Y hT tT ++ cStand Y aN (hT 0) vN gN ++ cStand Y aA (hT 0) vA gAz ++ cRow Y vA 8 fAz) A) ([.ref (nN 0), .int i1, .int i2, .int i3, .int i4] : List Value).toArray s 0 0 A := ⟨_, rfl⟩
  rw [← hQQ]
  unfold MX4_often at hM
  suffices hI : ∀ (H : Heap) (locs : List Loc), va_P D vwCl (cMain Y nN (hT 0) uD uX (aN 0) (aA 0) uZ uW uP uK uL nS ++ cTold Y hT tT ++ cStand Y aN (hT 0) vN gN ++ cStand Y aA (hT 0) vA gA ++ cRow Y vA 8 fA) H → va_S A s.heap H locs → W p l e (headSpec wsX4_often rmX4_often).room s m ([.ref (nN 0), .int i1, .int i2, .int i3, .int i4] : List Value).toArray below meth c H locs 0 0 QQ (F0 m 0 ls []) from hI _ _ hP hS
  clear hP hS
  intro H locs hP hS
  refine lv_aload_n hx hb dX4_often_0 rfl (lv_at hl 0 rfl) ?_
  refine lv_iload_n hx hb dX4_often_1 rfl (lv_at hl 1 rfl) ?_
  refine lv_iload_n hx hb dX4_often_2 rfl (lv_at hl 2 rfl) ?_
  refine lv_iload_n hx hb dX4_often_3 rfl (lv_at hl 3 rfl) ?_
  obtain ⟨r1, hc2, hM⟩ := bnd1_at hM
  refine cm_i (w2 := (cMain Y nN (hT 0) uD uX (aN 0) (aA 0) uZ uW uP uK uL nS ++ cTold Y hT tT ++ cStand Y aN (hT 0) vN gN ++ cStand Y aA (hT 0) vA gA ++ cRow Y vA 8 fA)) (va_runV (As := [.int i1, .int i2, .int i3]) (rest := []) ⟨hx, hb, hml, hown, hts⟩ (ctX4_refusePair l D Y nN hT uD uX (aN 0) (aA 0) uZ uW uP uK uL H.size nS tT i1 i2 i3 r1 hc2) (cwV 3 hts gX4_often_X4_refusePair rfl rfl rfl (by decide +kernel) ⟨Nat.le_of_ble_eq_true rfl, Nat.le_of_ble_eq_true rfl⟩) (pcW_V (ci := 4) (q0 := 0) hK hP (hD.same rfl) [0, 1, 2, 3, 4, 5, 6, 7, 8, 9, 10, 11, 12, 13] rfl (pc_map (pc_cons rfl (pc_cons rfl (pc_cons rfl (pc_cons rfl (pc_cons rfl (pc_cons rfl (pc_cons rfl (pc_cons rfl (pc_cons rfl (pc_cons rfl (pc_cons rfl (pc_cons rfl (pc_cons rfl (pc_cons rfl pc_nil))))))))))))))) rfl rfl) rfl rfl hl.1 rfl (lv_room (Nat.le_of_ble_eq_true rfl)) dX4_often_4 ⟨Nat.zero_le _, Nat.zero_le _⟩) hP (hD.same rfl) hS hA [0, 1, 2, 3, 4, 5, 6, 7, 8, 9, 10, 11, 12, 13] (pc_map (pc_cons rfl (pc_cons rfl (pc_cons rfl (pc_cons rfl (pc_cons rfl (pc_cons rfl (pc_cons rfl (pc_cons rfl (pc_cons rfl (pc_cons rfl (pc_cons rfl (pc_cons rfl (pc_cons rfl (pc_cons rfl pc_nil))))))))))))))) (up_new 0 rfl (up_new 1 rfl (up_new 2 rfl (up_new 3 rfl (up_new 4 rfl (up_new 5 rfl (up_new 6 rfl (up_new 7 rfl (up_new 8 rfl (up_new 9 rfl (up_new 10 rfl (up_new 11 rfl (up_new 12 rfl (up_new 13 rfl (up_old rfl rfl (up_old rfl rfl (up_old rfl rfl (up_old rfl rfl (up_old rfl rfl (up_old rfl rfl (up_old rfl rfl up_nil))))))))))))))))))))) (fun H locs hP hS => ?_)
  refine lv_istore (lv' := [(5, .int r1), (0, .ref (nN 0)), (1, .int i1), (2, .int i2), (3, .int i3), (4, .int i4)]) hx hb dX4_often_7 hl (by decide) rfl (fun ls hl => ?_)
  refine lv_iload hx hb dX4_often_9 (lv_at hl 0 rfl) ?_
  refine lv_if_eq (tgt := 17) hx hb dX4_often_11 (by decide) (fun c3 => ?_) (fun c3 => ?_)
  · replace hM := if_at_pos hM c3
    refine lv_iload hx hb dX4_often_17 (lv_at hl 5 rfl) ?_
    obtain ⟨r4, hc5, hM⟩ := bnd1_at hM
    refine cm_i (w2 := (cMain Y nN (hT 0) uD uX (aN 0) (aA 0) uZ uW uP uK uL nS ++ cTold Y hT tT ++ cStand Y aN (hT 0) vN gN ++ cStand Y aA (hT 0) vA gA ++ cRow Y vA 8 fA)) (va_runS (As := [.int i4]) (rest := []) ⟨hx, hb, hml, hown, hts⟩ (ctX4_areDays l D Y H.size i4 r4 hc5) (cwS 1 hts gX4_often_X4_areDays rfl rfl rfl (by decide +kernel) ⟨Nat.le_of_ble_eq_true rfl, Nat.le_of_ble_eq_true rfl⟩) (pcW_S hK hP (hD.same rfl) [] rfl (pc_map pc_nil)) rfl rfl hl.1 rfl (lv_room (Nat.le_of_ble_eq_true rfl)) dX4_often_19 ⟨Nat.zero_le _, Nat.zero_le _⟩) hP (hD.same rfl) hS hA [] (pc_map pc_nil) (up_old rfl rfl (up_old rfl rfl (up_old rfl rfl (up_old rfl rfl (up_old rfl rfl (up_old rfl rfl (up_old rfl rfl (up_old rfl rfl (up_old rfl rfl (up_old rfl rfl (up_old rfl rfl (up_old rfl rfl (up_old rfl rfl (up_old rfl rfl (up_old rfl rfl (up_old rfl rfl (up_old rfl rfl (up_old rfl rfl (up_old rfl rfl (up_old rfl rfl (up_old rfl rfl up_nil))))))))))))))))))))) (fun H locs hP hS => ?_)
    refine lv_if_ne (tgt := 28) hx hb dX4_often_22 (by decide) (fun c6 => ?_) (fun c6 => ?_)
    · replace hM := if_at_neg hM c6
      refine lv_iconst (v := (0 : Int32)) hx hb dX4_often_28 (by decide) ?_
      refine lv_istore (lv' := [(6, .int (0 : Int32)), (5, .int r1), (0, .ref (nN 0)), (1, .int i1), (2, .int i2), (3, .int i3), (4, .int i4)]) hx hb dX4_often_29 hl (by decide) rfl (fun ls hl => ?_)
      refine lv_aload_n hx hb dX4_often_31 rfl (lv_at hl 2 rfl) ?_
      refine va_get hx hb hts hi4 hown hK hP 0 rfl rfl 4 (by decide) (hts (.fieldLink RX4 35 "NightPlots" "ahead" "LNightPlots$Standing;") (List.mem_of_getElem? (i := 1) rfl)) (fun _ h9 => h9) rfl dX4_often_32 ?_
      refine lv_aload_n hx hb dX4_often_35 rfl (lv_at hl 2 rfl) ?_
      refine va_get hx hb hts hi4 hown hK hP 0 rfl rfl 3 (by decide) (hts (.fieldLink RX4 31 "NightPlots" "now" "LNightPlots$Standing;") (List.mem_of_getElem? (i := 2) rfl)) (fun _ h9 => h9) rfl dX4_often_36 ?_
      obtain ⟨gS_7, hc8, hM⟩ := bnd1_at hM
      refine cm_v (w2 := (cMain Y nN (hT 0) uD uX (aN 0) (aA 0) uZ uW uP uK uL nS ++ cTold Y hT tT ++ cStand Y aN (hT 0) vN gN ++ cStand Y aA (hT 0) vA gS_7 ++ cRow Y vA 8 fA)) (va_runV (As := [.ref (aN 0)]) (rest := []) ⟨hx, hb, hml, hown, hts⟩ (ctX1_copyFrom l D Y aA aN (hT 0) vA (hT 0) vN H.size gA gN gS_7 hc8) (cwV 1 hts gX4_often_X1_copyFrom rfl rfl rfl (by decide +kernel) ⟨Nat.le_of_ble_eq_true rfl, Nat.le_of_ble_eq_true rfl⟩) (pcW_V (ci := 1) (q0 := 17) hK hP (hD.same rfl) [17, 18, 19, 14, 15, 16] rfl (pc_map (pc_cons rfl (pc_cons rfl (pc_cons rfl (pc_cons rfl (pc_cons rfl (pc_cons rfl pc_nil))))))) rfl rfl) rfl rfl hl.1 rfl (lv_room (Nat.le_of_ble_eq_true rfl)) dX4_often_39 ⟨Nat.zero_le _, Nat.zero_le _⟩) hP (hD.same rfl) hS hA [17, 18, 19, 14, 15, 16] (pc_map (pc_cons rfl (pc_cons rfl (pc_cons rfl (pc_cons rfl (pc_cons rfl (pc_cons rfl pc_nil))))))) (up_old rfl rfl (up_old rfl rfl (up_old rfl rfl (up_old rfl rfl (up_old rfl rfl (up_old rfl rfl (up_old rfl rfl (up_old rfl rfl (up_old rfl rfl (up_old rfl rfl (up_old rfl rfl (up_old rfl rfl (up_old rfl rfl (up_old rfl rfl (up_new 3 rfl (up_new 4 rfl (up_new 5 rfl (up_new 0 rfl (up_new 1 rfl (up_new 2 rfl (up_old rfl rfl up_nil))))))))))))))))))))) (fun H locs hP hS => ?_)
      refine lv_iconst (v := (0 : Int32)) hx hb dX4_often_42 (by decide) ?_
      refine lv_istore (lv' := [(7, .int (0 : Int32)), (6, .int (0 : Int32)), (5, .int r1), (0, .ref (nN 0)), (1, .int i1), (2, .int i2), (3, .int i3), (4, .int i4)]) hx hb dX4_often_43 hl (by decide) rfl (fun ls hl => ?_)
      refine jn3_at (fun (x9 : Int32) (gA_10 : GS) (fA_11 : Nat → Int32) => ∀ (H : Heap) (locs : List Loc) (ls : Array Slot), va_P D vwCl (cMain Y nN (hT 0) uD uX (aN 0) (aA 0) uZ uW uP uK uL nS ++ cTold Y hT tT ++ cStand Y aN (hT 0) vN gN ++ cStand Y aA (hT 0) vA gA_10 ++ cRow Y vA 8 fA_11) H → va_S A s.heap H locs → lv_has ls 8 [(6, .int x9)] → W p l e (headSpec wsX4_often rmX4_often).room s m ([.ref (nN 0), .int i1, .int i2, .int i3, .int i4] : List Value).toArray below meth c H locs 0 0 QQ (F0 m 88 ls [])) hM (fun x9 gA_10 fA_11 hM H locs ls hP hS hl => ?_) (fun k12 hJ12 hM => ?_)
      · refine lv_iload hx hb dX4_often_88 (lv_at hl 0 rfl) ?_
        cases hM
        rw [hQQ]
        exact W.iret hx hb hr (fun t ht hW => ⟨⟨_, (), rfl, rfl, by show va_P D vwCl _ t.heap; rw [ht]; exact hP⟩, hS.F ht⟩) hS.2.2 dX4_often_90
      · refine lq4_at (fun (x13 : Int32) (x14 : Int32) (gA_15 : GS) (fA_16 : Nat → Int32) => ∀ (H : Heap) (locs : List Loc) (ls : Array Slot), va_P D vwCl (cMain Y nN (hT 0) uD uX (aN 0) (aA 0) uZ uW uP uK uL nS ++ cTold Y hT tT ++ cStand Y aN (hT 0) vN gN ++ cStand Y aA (hT 0) vA gA_15 ++ cRow Y vA 8 fA_16) H → va_S A s.heap H locs → lv_has ls 8 [(0, .ref (nN 0)), (1, .int i1), (2, .int i2), (3, .int i3), (4, .int i4), (6, .int x13), (7, .int x14)] → W p l e (headSpec wsX4_often rmX4_often).room s m ([.ref (nN 0), .int i1, .int i2, .int i3, .int i4] : List Value).toArray below meth c H locs 0 0 QQ (F0 m 45 ls [])) (fun rec17 x13 x14 gA_15 fA_16 ih17 hM H locs ls hP hS hl => ?_) FU (0 : Int32) (0 : Int32) gS_7 fA hM H locs ls hP hS (lv_sub hl [3, 4, 5, 6, 7, 1, 0] rfl)
        unfold BX4_often_45 at hM
        refine lv_iload hx hb dX4_often_45 (lv_at hl 6 rfl) ?_
        refine lv_iload hx hb dX4_often_47 (lv_at hl 4 rfl) ?_
        refine lv_icmp_ge (tgt := 88) hx hb dX4_often_49 (by decide) (fun c18 => ?_) (fun c18 => ?_)
        · replace hM := if_at_pos hM c18
          exact hJ12 x13 gA_15 fA_16 hM H locs ls hP hS (lv_sub hl [5] rfl)
        · replace hM := if_at_neg hM c18
          refine lv_aload_n hx hb dX4_often_52 rfl (lv_at hl 0 rfl) ?_
          refine va_get hx hb hts hi4 hown hK hP 0 rfl rfl 4 (by decide) (hts (.fieldLink RX4 35 "NightPlots" "ahead" "LNightPlots$Standing;") (List.mem_of_getElem? (i := 1) rfl)) (fun _ h9 => h9) rfl dX4_often_53 ?_
          refine lv_iload_n hx hb dX4_often_56 rfl (lv_at hl 1 rfl) ?_
          refine lv_iload_n hx hb dX4_often_57 rfl (lv_at hl 2 rfl) ?_
          refine lv_iload_n hx hb dX4_often_58 rfl (lv_at hl 3 rfl) ?_
          obtain ⟨r19, hc20, hM⟩ := bnd1_at hM
          refine cm_i (w2 := (cMain Y nN (hT 0) uD uX (aN 0) (aA 0) uZ uW uP uK uL nS ++ cTold Y hT tT ++ cStand Y aN (hT 0) vN gN ++ cStand Y aA (hT 0) vA gA_15 ++ cRow Y vA 8 fA_16)) (va_runV (As := [.int i1, .int i2, .int i3]) (rest := []) ⟨hx, hb, hml, hown, hts⟩ (ctX1_meets l D Y aA hT vA H.size gA_15 tT i1 i2 i3 r19 hc20) (cwV 3 hts gX4_often_X1_meets rfl rfl rfl (by decide +kernel) ⟨Nat.le_of_ble_eq_true rfl, Nat.le_of_ble_eq_true rfl⟩) (pcW_V (ci := 1) (q0 := 17) hK hP (hD.same rfl) [17, 18, 19, 6, 7, 8, 9, 10, 11, 12, 13] rfl (pc_map (pc_cons rfl (pc_cons rfl (pc_cons rfl (pc_cons rfl (pc_cons rfl (pc_cons rfl (pc_cons rfl (pc_cons rfl (pc_cons rfl (pc_cons rfl (pc_cons rfl pc_nil)))))))))))) rfl rfl) rfl rfl hl.1 rfl (lv_room (Nat.le_of_ble_eq_true rfl)) dX4_often_59 ⟨Nat.zero_le _, Nat.zero_le _⟩) hP (hD.same rfl) hS hA [17, 18, 19, 6, 7, 8, 9, 10, 11, 12, 13] (pc_map (pc_cons rfl (pc_cons rfl (pc_cons rfl (pc_cons rfl (pc_cons rfl (pc_cons rfl (pc_cons rfl (pc_cons rfl (pc_cons rfl (pc_cons rfl (pc_cons rfl pc_nil)))))))))))) (up_old rfl rfl (up_old rfl rfl (up_old rfl rfl (up_old rfl rfl (up_old rfl rfl (up_old rfl rfl (up_new 3 rfl (up_new 4 rfl (up_new 5 rfl (up_new 6 rfl (up_new 7 rfl (up_new 8 rfl (up_new 9 rfl (up_new 10 rfl (up_old rfl rfl (up_old rfl rfl (up_old rfl rfl (up_new 0 rfl (up_new 1 rfl (up_new 2 rfl (up_old rfl rfl up_nil))))))))))))))))))))) (fun H locs hP hS => ?_)
          refine jn1_at (fun (x21 : Int32) => ∀ (H : Heap) (locs : List Loc) (ls : Array Slot), va_P D vwCl (cMain Y nN (hT 0) uD uX (aN 0) (aA 0) uZ uW uP uK uL nS ++ cTold Y hT tT ++ cStand Y aN (hT 0) vN gN ++ cStand Y aA (hT 0) vA gA_15 ++ cRow Y vA 8 fA_16) H → va_S A s.heap H locs → lv_has ls 8 [(0, .ref (nN 0)), (1, .int i1), (2, .int i2), (3, .int i3), (4, .int i4), (6, .int x21), (7, .int x14)] → W p l e (headSpec wsX4_often rmX4_often).room s m ([.ref (nN 0), .int i1, .int i2, .int i3, .int i4] : List Value).toArray below meth c H locs 0 0 QQ (F0 m 68 ls [])) hM (fun x21 hM H locs ls hP hS hl => ?_) (fun k22 hJ22 hM => ?_)
          · refine lv_aload_n hx hb dX4_often_68 rfl (lv_at hl 0 rfl) ?_
            refine va_get hx hb hts hi4 hown hK hP 0 rfl rfl 4 (by decide) (hts (.fieldLink RX4 35 "NightPlots" "ahead" "LNightPlots$Standing;") (List.mem_of_getElem? (i := 1) rfl)) (fun _ h9 => h9) rfl dX4_often_69 ?_
            refine lv_aload_n hx hb dX4_often_72 rfl (lv_at hl 0 rfl) ?_
            refine va_get hx hb hts hi4 hown hK hP 0 rfl rfl 0 (by decide) (hts (.fieldLink RX4 12 "NightPlots" "told" "LNightPlots$Told;") (List.mem_of_getElem? (i := 3) rfl)) (fun _ h9 => h9) rfl dX4_often_73 ?_
            refine va_get hx hb hts hi3 hown hK hP 6 rfl rfl 4 (by decide) (hts (.fieldLink RX4 130 "NightPlots$Told" "law" "I") (List.mem_of_getElem? (i := 4) rfl)) (fun _ h9 => h9) rfl dX4_often_76 ?_
            obtain ⟨gS_23, fW_24, hc25, hM⟩ := bnd2_at hM
            refine cm_v (w2 := (cMain Y nN (hT 0) uD uX (aN 0) (aA 0) uZ uW uP uK uL nS ++ cTold Y hT tT ++ cStand Y aN (hT 0) vN gN ++ cStand Y aA (hT 0) vA gS_23 ++ cRow Y vA 8 fW_24)) (va_runV (As := [.int (tT 0 4)]) (rest := []) ⟨hx, hb, hml, hown, hts⟩ (ctX1_passNight l D Y aA vA hT H.size gA_15 fA_16 tT (tT 0 4) gS_23 fW_24 hc25) (cwV 1 hts gX4_often_X1_passNight rfl rfl rfl (by decide +kernel) ⟨Nat.le_of_ble_eq_true rfl, Nat.le_of_ble_eq_true rfl⟩) (pcW_V (ci := 1) (q0 := 17) hK hP (hD.same rfl) [17, 18, 19, 20, 6, 7, 8, 9, 10, 11, 12, 13] rfl (pc_map (pc_cons rfl (pc_cons rfl (pc_cons rfl (pc_cons rfl (pc_cons rfl (pc_cons rfl (pc_cons rfl (pc_cons rfl (pc_cons rfl (pc_cons rfl (pc_cons rfl (pc_cons rfl pc_nil))))))))))))) rfl rfl) rfl rfl hl.1 rfl (lv_room (Nat.le_of_ble_eq_true rfl)) dX4_often_79 ⟨Nat.zero_le _, Nat.zero_le _⟩) hP (hD.same rfl) hS hA [17, 18, 19, 20, 6, 7, 8, 9, 10, 11, 12, 13] (pc_map (pc_cons rfl (pc_cons rfl (pc_cons rfl (pc_cons rfl (pc_cons rfl (pc_cons rfl (pc_cons rfl (pc_cons rfl (pc_cons rfl (pc_cons rfl (pc_cons rfl (pc_cons rfl pc_nil))))))))))))) (up_old rfl rfl (up_old rfl rfl (up_old rfl rfl (up_old rfl rfl (up_old rfl rfl (up_old rfl rfl (up_new 4 rfl (up_new 5 rfl (up_new 6 rfl (up_new 7 rfl (up_new 8 rfl (up_new 9 rfl (up_new 10 rfl (up_new 11 rfl (up_old rfl rfl (up_old rfl rfl (up_old rfl rfl (up_new 0 rfl (up_new 1 rfl (up_new 2 rfl (up_new 3 rfl up_nil))))))))))))))))))))) (fun H locs hP hS => ?_)
            obtain ⟨x26, ex26⟩ : ∃ z : Int32, z = (x14 + 1) := ⟨_, rfl⟩
            replace hM := nm_at hM ex26
            refine lv_iinc (v := x26) (lv' := [(7, .int x26), (0, .ref (nN 0)), (1, .int i1), (2, .int i2), (3, .int i3), (4, .int i4), (6, .int x21)]) hx hb dX4_often_82 hl (k := 6) rfl (by rw [ex26]; rfl) (by decide) rfl (fun ls hl => ?_)
            refine lv_goto (tgt := 45) hx hb dX4_often_85 (by decide) ?_
            exact ih17 x21 x26 gS_23 fW_24 hM H locs ls hP hS (lv_sub hl [1, 2, 3, 4, 5, 6, 0] rfl)
          · refine lv_if_eq (tgt := 68) hx hb dX4_often_62 (by decide) (fun c27 => ?_) (fun c27 => ?_)
            · replace hM := if_at_pos hM c27
              exact hJ22 x13 hM H locs ls hP hS (lv_sub hl [0, 1, 2, 3, 4, 5, 6] rfl)
            · replace hM := if_at_neg hM c27
              obtain ⟨x28, ex28⟩ : ∃ z : Int32, z = (x13 + 1) := ⟨_, rfl⟩
              replace hM := nm_at hM ex28
              refine lv_iinc (v := x28) (lv' := [(6, .int x28), (0, .ref (nN 0)), (1, .int i1), (2, .int i2), (3, .int i3), (4, .int i4), (7, .int x14)]) hx hb dX4_often_65 hl (k := 5) rfl (by rw [ex28]; rfl) (by decide) rfl (fun ls hl => ?_)
              exact hJ22 x28 hM H locs ls hP hS (lv_sub hl [1, 2, 3, 4, 5, 0, 6] rfl)
    · replace hM := if_at_pos hM c6
      refine lv_bipush (v := (-3 : Int32)) hx hb dX4_often_25 (by decide) ?_
      cases hM
      rw [hQQ]
      exact W.iret hx hb hr (fun t ht hW => ⟨⟨_, (), rfl, rfl, by show va_P D vwCl _ t.heap; rw [ht]; exact hP⟩, hS.F ht⟩) hS.2.2 dX4_often_27
  · replace hM := if_at_neg hM c3
    refine lv_iload hx hb dX4_often_14 (lv_at hl 0 rfl) ?_
    cases hM
    rw [hQQ]
    exact W.iret hx hb hr (fun t ht hW => ⟨⟨_, (), rfl, rfl, by show va_P D vwCl _ t.heap; rw [ht]; exact hP⟩, hS.F ht⟩) hS.2.2 dX4_often_16
