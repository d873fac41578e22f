noncomputable def MX4_fault (tT : GS) (tD : GS) (xT : GS) : Option (Int32 × GS × GS) := bnd1 (MX3_copyFrom tD tT) fun (tT_1 : GS) => bnd3 (MX2_readInto xT tT_1) fun (r3 : Int32) (xT_4 : GS) (tT_5 : GS) => some (r3, tT_5, xT_4)
abbrev rmX4_fault : Room := { frames := 10, cells := 0, slots := 0, locals := 400 }
set_option maxHeartbeats 4000000 in
set_option maxRecDepth 100000 in
theorem ctX4_fault (l : Launch) (D : va_G) (Y : Nat → ClassId) (nN : Nat → Nat) (hT : Nat → Nat) (hF0 : Nat → Nat) (bT : Nat → Nat) (uN : Nat) (uA : Nat) (uZ : Nat) (uW : Nat) (uP : Nat) (uK : Nat) (uL : Nat) (adK adV : Nat → Nat) (sz : Nat) (nS : GS) (tT : GS) (tD : GS) (xT : GS) (rr : Int32) (tDz : GS) (xTz : GS) (hM : MX4_fault tT tD xT = some (rr, tDz, xTz)) : Met l yX4_fault wsX4_fault rmX4_fault (pcE [.ref (nN 0)] sz D Y (cMain Y nN (hT 0) (hF0 0) (bT 0) uN uA uZ uW uP uK uL nS ++ cTold Y hT tT ++ cTold Y hF0 tD ++ cText Y bT xT) (sAll adK adV (va_A (cMain Y nN (hT 0) (hF0 0) (bT 0) uN uA uZ uW uP uK uL nS ++ cTold Y hT tT ++ cTold Y hF0 tD ++ cText Y bT xT) sz))) (qiW rr D (cMain Y nN (hT 0) (hF0 0) (bT 0) uN uA uZ uW uP uK uL nS ++ cTold Y hT tT ++ cTold Y hF0 tDz ++ cText Y bT xTz) (va_A (cMain Y nN (hT 0) (hF0 0) (bT 0) uN uA uZ uW uP uK uL nS ++ cTold Y hT tT ++ cTold Y hF0 tD ++ cText Y bT xT) sz)) 0 0 (va_A (cMain Y nN (hT 0) (hF0 0) (bT 0) uN uA uZ uW uP uK uL nS ++ cTold Y hT tT ++ cTold Y hF0 tD ++ cText Y bT xT) sz) := by
  refine Met.ofW (cc := cX4_fault) (maxL := 1) (ret := (some .int)) (by decide) rfl ?_
  intro p e s m args below meth c s₁ B hml hv
  obtain ⟨⟨rfl, hsz, hP, hK, hD0⟩, hE⟩ := hv
  have hx := B.exec
  have hb := B.bytes
  have hr := B.returns
  have hts := atoms_spec (ws := wsX4_fault) B.pre
  have hown : s.vm.findClass RX4 = some m.cls := findClass_of_methodNamed B.named
  have hlocks := B.notSynchronized
  subst hsz
  have hD := hD0.self (sz := s.heap.size)
  generalize hAe : va_A (cMain Y nN (hT 0) (hF0 0) (bT 0) uN uA uZ uW uP uK uL nS ++ cTold Y hT tT ++ cTold Y hF0 tD ++ cText Y bT xT) s.heap.size = A at hD hE ⊢
  have hA : ∀ q : Nat, s.heap.size ≤ q → A q := fun q h => by rw [← hAe]; exact Or.inr h
  have hS : va_S A s.heap s.heap [] := va_S.rf
  have hi4 : ∀ w ∈ wsX40, w ∈ wsX4_fault := fun w h => List.mem_cons_of_mem _ (List.mem_append_left _ (List.mem_append_left _ (List.mem_append_right _ h)))
  have hl := lv_entry ([.ref (nN 0)]) (n := 1) (Nat.le_of_ble_eq_true rfl)
  rw [lg_entry_eq]
  generalize (lg_sl ([.ref (nN 0)]) ++ List.replicate (1 - (lg_sl ([.ref (nN 0)])).length) Slot.unset).toArray = ls at hl ⊢
  have hl : lv_has ls 1 [(0, .ref (nN 0))] := hl
  obtain ⟨QQ, hQQ⟩ : ∃ Q : State → Prop, Q = MQ below (qiW rr D (cMain Y nN (hT 0) (hF0 0) (bT 0) uN uA uZ uW uP uK uL nS ++ cTold Y hT tT ++ cTold Y hF0 tDz ++ cText Y bT xTz) A) ([.ref (nN 0)] : List Value).toArray s 0 0 A := ⟨_, rfl⟩
  rw [← hQQ]
  unfold MX4_fault at hM
  suffices hI : ∀ (H : Heap) (locs : List Loc), va_P D vwCl (cMain Y nN (hT 0) (hF0 0) (bT 0) uN uA uZ uW uP uK uL nS ++ cTold Y hT tT ++ cTold Y hF0 tD ++ cText Y bT xT) H → va_S A s.heap H locs → W p l e (headSpec wsX4_fault rmX4_fault).room s m ([.ref (nN 0)] : List Value).toArray below meth c H locs 0 0 QQ (F0 m 0 ls []) from hI _ _ hP hS
  clear hP hS
  intro H locs hP hS
  refine lv_aload_n hx hb dX4_fault_0 rfl (lv_at hl 0 rfl) ?_
  refine va_get hx hb hts hi4 hown hK hP 0 rfl rfl 1 (by decide) (hts (.fieldLink RX4 16 "NightPlots" "draft" "LNightPlots$Told;") (List.mem_of_getElem? (i := 1) rfl)) (fun _ h9 => h9) rfl dX4_fault_1 ?_
  refine lv_aload_n hx hb dX4_fault_4 rfl (lv_at hl 0 rfl) ?_
  refine va_get hx hb hts hi4 hown hK hP 0 rfl rfl 0 (by decide) (hts (.fieldLink RX4 12 "NightPlots" "told" "LNightPlots$Told;") (List.mem_of_getElem? (i := 2) rfl)) (fun _ h9 => h9) rfl dX4_fault_5 ?_
  obtain ⟨tT_1, hc2, hM⟩ := bnd1_at hM
  refine cm_v (w2 := (cMain Y nN (hT 0) (hF0 0) (bT 0) uN uA uZ uW uP uK uL nS ++ cTold Y hT tT ++ cTold Y hF0 tT_1 ++ cText Y bT xT)) (va_runV (As := [.ref (hT 0)]) (rest := []) ⟨hx, hb, hml, hown, hts⟩ (ctX3_copyFrom l D Y hF0 hT H.size tD tT tT_1 hc2) (cwV 1 hts gX4_fault_X3_copyFrom rfl rfl rfl (by decide +kernel) ⟨Nat.le_of_ble_eq_true rfl, Nat.le_of_ble_eq_true rfl⟩) (pcW_V (ci := 3) (q0 := 14) hK hP (hD.same rfl) [14, 15, 16, 17, 18, 19, 20, 21, 6, 7, 8, 9, 10, 11, 12, 13] rfl (pc_map (pc_cons rfl (pc_cons rfl (pc_cons rfl (pc_cons rfl (pc_cons rfl (pc_cons rfl (pc_cons rfl (pc_cons rfl (pc_cons rfl (pc_cons rfl (pc_cons rfl (pc_cons rfl (pc_cons rfl (pc_cons rfl (pc_cons rfl (pc_cons rfl pc_nil))))))))))))))))) rfl rfl) rfl rfl hl.1 rfl (lv_room (Nat.le_of_ble_eq_true rfl)) dX4_fault_8 ⟨Nat.zero_le _, Nat.zero_le _⟩) hP (hD.same rfl) hS hA [14, 15, 16, 17, 18, 19, 20, 21, 6, 7, 8, 9, 10, 11, 12, 13] (pc_map (pc_cons rfl (pc_cons rfl (pc_cons rfl (pc_cons rfl (pc_cons rfl (pc_cons rfl (pc_cons rfl (pc_cons rfl (pc_cons rfl (pc_cons rfl (pc_cons rfl (pc_cons rfl (pc_cons rfl (pc_cons rfl (pc_cons rfl (pc_cons rfl pc_nil))))))))))))))))) (up_old rfl rfl (up_old rfl rfl (up_old rfl rfl (up_old rfl rfl (up_old rfl rfl (up_old rfl rfl (up_new 8 rfl (up_new 9 rfl (up_new 10 rfl (up_new 11 rfl (up_new 12 rfl (up_new 13 rfl (up_new 14 rfl (up_new 15 rfl (up_new 0 rfl (up_new 1 rfl (up_new 2 rfl (up_new 3 rfl (up_new 4 rfl (up_new 5 rfl (up_new 6 rfl (up_new 7 rfl (up_old rfl rfl (up_old rfl rfl up_nil)))))))))))))))))))))))) (fun H locs hP hS => ?_)
  refine lv_aload_n hx hb dX4_fault_11 rfl (lv_at hl 0 rfl) ?_
  refine va_get hx hb hts hi4 hown hK hP 0 rfl rfl 2 (by decide) (hts (.fieldLink RX4 22 "NightPlots" "text" "LNightPlots$Text;") (List.mem_of_getElem? (i := 3) rfl)) (fun _ h9 => h9) rfl dX4_fault_12 ?_
  refine lv_aload_n hx hb dX4_fault_15 rfl (lv_at hl 0 rfl) ?_
  refine va_get hx hb hts hi4 hown hK hP 0 rfl rfl 1 (by decide) (hts (.fieldLink RX4 16 "NightPlots" "draft" "LNightPlots$Told;") (List.mem_of_getElem? (i := 1) rfl)) (fun _ h9 => h9) rfl dX4_fault_16 ?_
  obtain ⟨r3, xT_4, tT_5, hc6, hM⟩ := bnd3_at hM
  refine cm_i (w2 := (cMain Y nN (hT 0) (hF0 0) (bT 0) uN uA uZ uW uP uK uL nS ++ cTold Y hT tT ++ cTold Y hF0 tT_5 ++ cText Y bT xT_4)) (va_runV (As := [.ref (hF0 0)]) (rest := []) ⟨hx, hb, hml, hown, hts⟩ (ctX2_readInto l D Y bT hF0 adK adV H.size xT tT_1 r3 xT_4 tT_5 hc6) (cwV 1 hts gX4_fault_X2_readInto rfl rfl rfl (by decide +kernel) ⟨Nat.le_of_ble_eq_true rfl, Nat.le_of_ble_eq_true rfl⟩) (pcE_V (fun U g mk a h => sAll_blind U g mk a h) (fun U hU hW => sAll_go hE hS (va_free (ws := (cMain Y nN (hT 0) (hF0 0) (bT 0) uN uA uZ uW uP uK uL nS ++ cTold Y hT tT ++ cTold Y hF0 tT_1 ++ cText Y bT xT)) (hD.same rfl) hS hA [22, 23, 14, 15, 16, 17, 18, 19, 20, 21] (pc_map (pc_cons rfl (pc_cons rfl (pc_cons rfl (pc_cons rfl (pc_cons rfl (pc_cons rfl (pc_cons rfl (pc_cons rfl (pc_cons rfl (pc_cons rfl pc_nil)))))))))))) hU hW) (pcW_V (ci := 2) (q0 := 22) hK hP (hD.same rfl) [22, 23, 14, 15, 16, 17, 18, 19, 20, 21] rfl (pc_map (pc_cons rfl (pc_cons rfl (pc_cons rfl (pc_cons rfl (pc_cons rfl (pc_cons rfl (pc_cons rfl (pc_cons rfl (pc_cons rfl (pc_cons rfl pc_nil))))))))))) rfl rfl)) rfl rfl hl.1 rfl (lv_room (Nat.le_of_ble_eq_true rfl)) dX4_fault_19 ⟨Nat.zero_le _, Nat.zero_le _⟩) hP (hD.same rfl) hS hA [22, 23, 14, 15, 16, 17, 18, 19, 20, 21] (pc_map (pc_cons rfl (pc_cons rfl (pc_cons rfl (pc_cons rfl (pc_cons rfl (pc_cons rfl (pc_cons rfl (pc_cons rfl (pc_cons rfl (pc_cons rfl pc_nil))))))))))) (up_old rfl rfl (up_old rfl rfl (up_old rfl rfl (up_old rfl rfl (up_old rfl rfl (up_old rfl rfl (up_old rfl rfl (up_old rfl rfl (up_old rfl rfl (up_old rfl rfl (up_old rfl rfl (up_old rfl rfl (up_old rfl rfl (up_old rfl rfl (up_new 2 rfl (up_new 3 rfl (up_new 4 rfl (up_new 5 rfl (up_new 6 rfl (up_new 7 rfl (up_new 8 rfl (up_new 9 rfl (up_new 0 rfl (up_new 1 rfl up_nil)))))))))))))))))))))))) (fun H locs hP hS => ?_)
  cases hM
  rw [hQQ]
  exact W.iret hx hb hr (fun t ht hW => ⟨⟨_, (), rfl, rfl, by show va_P D vwCl _ t.heap; rw [ht]; exact hP⟩, hS.F ht⟩) hS.2.2 dX4_fault_22
noncomputable def BX4_green_62 (k15 : GS → Option (Int32 × GS × GS × GS × GS × GS)) (rec18 : Int32 → GS → Option (Int32 × GS × GS × GS × GS × GS)) (x16 : Int32) (nS_17 : GS) : Option (Int32 × GS × GS × GS × GS × GS) := if (2 : Int32) ≤ x16 then (k15 nS_17) else (chkI x16 2 (nm (upA nS_17 2 (upd (nS_17 2) x16.toNatClampNeg (vp_nar .boolean (0 : Int32)))) fun (nS_21 : GS) => nm (x16 + 1) fun (x22 : Int32) => rec18 x22 nS_21))
noncomputable def MX4_green (nS : GS) (tT : GS) (tD : GS) (xT : GS) (gN : GS) : Option (Int32 × GS × GS × GS × GS × GS) := bnd1 (MX3_copyFrom tD tT) fun (tT_1 : GS) => bnd3 (MX2_readInto xT tT_1) fun (r3 : Int32) (xT_4 : GS) (tT_5 : GS) => if r3 = (-1 : Int32) then (bnd1 (MX3_copyFrom tT tT_5) fun (tT_8 : GS) => nm (up2 xT_4 0 1 (0 : Int32)) fun (xT_10 : GS) => bnd1 (MX1_startAsTold gN tT_8) fun (gS_11 : GS) => nm (up2 nS 0 13 (0 : Int32)) fun (nS_13 : GS) => jn1 (fun (nS_14 : GS) => some ((xT_10 0 2), nS_14, tT_8, tT_5, xT_10, gS_11)) (fun k15 => lq2 (BX4_green_62 k15) FU (0 : Int32) nS_13)) else (some ((-4 : Int32), nS, tT, tT_5, xT_4, gN))
abbrev rmX4_green : Room := { frames := 10, cells := 0, slots := 0, locals := 400 }
set_option maxHeartbeats 4000000 in
set_option maxRecDepth 100000 in
theorem ctX4_green (l : Launch) (D : va_G) (Y : Nat → ClassId) (nN : Nat → Nat) (hT : Nat → Nat) (hF0 : Nat → Nat) (bT : Nat → Nat) (aN : Nat → Nat) (uA : Nat) (uZ : Nat) (uW : Nat) (uP : Nat) (uK : Nat) (uL : Nat) (vN : Nat) (adK adV : Nat → Nat) (sz : Nat) (nS : GS) (tT : GS) (tD : GS) (xT : GS) (gN : GS) (rr : Int32) (nSz : GS) (tTz : GS) (tDz : GS) (xTz : GS) (gNz : GS) (hM : MX4_green nS tT tD xT gN = some (rr, nSz, tTz, tDz, xTz, gNz)) : Met l yX4_green wsX4_green rmX4_green (pcE [.ref (nN 0)] sz D Y (cMain Y nN (hT 0) (hF0 0) (bT 0) (aN 0) uA uZ uW uP uK uL nS ++ cTold Y hT tT ++ cTold Y hF0 tD ++ cText Y bT xT ++ cStand Y aN (hT 0) vN gN) (sAll adK adV (va_A (cMain Y nN (hT 0) (hF0 0) (bT 0) (aN 0) uA uZ uW uP uK uL nS ++ cTold Y hT tT ++ cTold Y hF0 tD ++ cText Y bT xT ++ cStand Y aN (hT 0) vN gN) sz))) (qiW rr D (cMain Y nN (hT 0) (hF0 0) (bT 0) (aN 0) uA uZ uW uP uK uL nSz ++ cTold Y hT tTz ++ cTold Y hF0 tDz ++ cText Y bT xTz ++ cStand Y aN (hT 0) vN gNz) (va_A (cMain Y nN (hT 0) (hF0 0) (bT 0) (aN 0) uA uZ uW uP uK uL nS ++ cTold Y hT tT ++ cTold Y hF0 tD ++ cText Y bT xT ++ cStand Y aN (hT 0) vN gN) sz)) 0 0 (va_A (cMain Y nN (hT 0) (hF0 0) (bT 0) (aN 0) uA uZ uW uP uK uL nS ++ cTold Y hT tT ++ cTold Y hF0 tD ++ cText Y bT xT ++ cStand Y aN (hT 0) vN gN) sz) := by
  refine Met.ofW (cc := cX4_green) (maxL := 2) (ret := (some .int)) (by decide) rfl ?_
  intro p e s m args below meth c s₁ B hml hv
  obtain ⟨⟨rfl, hsz, hP, hK, hD0⟩, hE⟩ := hv
  have hx := B.exec
  have hb := B.bytes
  have hr := B.returns
  have hts := atoms_spec (ws := wsX4_green) B.pre
  have hown : s.vm.findClass RX4 = some m.cls := findClass_of_methodNamed B.named
  have hlocks := B.notSynchronized
  subst hsz
  have hD := hD0.self (sz := s.heap.size)
  generalize hAe : va_A (cMain Y nN (hT 0) (hF0 0) (bT 0) (aN 0) uA uZ uW uP uK uL nS ++ cTold Y hT tT ++ cTold Y hF0 tD ++ cText Y bT xT ++ cStand Y aN (hT 0) vN gN) s.heap.size = A at hD hE ⊢
  have hA : ∀ q : Nat, s.heap.size ≤ q → A q := fun q h => by rw [← hAe]; exact Or.inr h
  have hS : va_S A s.heap s.heap [] := va_S.rf
  have hi2 : ∀ w ∈ wsX20, w ∈ wsX4_green := fun w h => List.mem_cons_of_mem _ (List.mem_append_left _ (List.mem_append_left _ (List.mem_append_right _ h)))
  have hi4 : ∀ w ∈ wsX40, w ∈ wsX4_green := fun w h => List.mem_cons_of_mem _ (List.mem_append_left _ (List.mem_append_left _ (List.mem_append_left _ (List.mem_append_right _ h))))
  have hl := lv_entry ([.ref (nN 0)]) (n := 2) (Nat.le_of_ble_eq_true rfl)
  rw [lg_entry_eq]
  generalize (lg_sl ([.ref (nN 0)]) ++ List.replicate (2 - (lg_sl ([.ref (nN 0)])).length) Slot.unset).toArray = ls at hl ⊢
  have hl : lv_has ls 2 [(0, .ref (nN 0))] := hl
  obtain ⟨QQ, hQQ⟩ : ∃ Q : State → Prop, Q = MQ below (qiW rr D (cMain Y nN (hT 0) (hF0 0) (bT 0) (aN 0) uA uZ uW uP uK uL nSz ++ cTold Y hT tTz ++ cTold Y hF0 tDz ++ cText Y bT xTz ++ cStand Y aN (hT 0) vN gNz) A) ([.ref (nN 0)] : List Value).toArray s 0 0 A := ⟨_, rfl⟩
  rw [← hQQ]
  unfold MX4_green at hM
  suffices hI : ∀ (H : Heap) (locs : List Loc), va_P D vwCl (cMain Y nN (hT 0) (hF0 0) (bT 0) (aN 0) uA uZ uW uP uK uL nS ++ cTold Y hT tT ++ cTold Y hF0 tD ++ cText Y bT xT ++ cStand Y aN (hT 0) vN gN) H → va_S A s.heap H locs → W p l e (headSpec wsX4_green rmX4_green).room s m ([.ref (nN 0)] : List Value).toArray below meth c H locs 0 0 QQ (F0 m 0 ls []) from hI _ _ hP hS
  clear hP hS
  intro H locs hP hS
  refine lv_aload_n hx hb dX4_green_0 rfl (lv_at hl 0 rfl) ?_
  refine va_get hx hb hts hi4 hown hK hP 0 rfl rfl 1 (by decide) (hts (.fieldLink RX4 16 "NightPlots" "draft" "LNightPlots$Told;") (List.mem_of_getElem? (i := 1) rfl)) (fun _ h9 => h9) rfl dX4_green_1 ?_
  refine lv_aload_n hx hb dX4_green_4 rfl (lv_at hl 0 rfl) ?_
  refine va_get hx hb hts hi4 hown hK hP 0 rfl rfl 0 (by decide) (hts (.fieldLink RX4 12 "NightPlots" "told" "LNightPlots$Told;") (List.mem_of_getElem? (i := 2) rfl)) (fun _ h9 => h9) rfl dX4_green_5 ?_
  obtain ⟨tT_1, hc2, hM⟩ := bnd1_at hM
  refine cm_v (w2 := (cMain Y nN (hT 0) (hF0 0) (bT 0) (aN 0) uA uZ uW uP uK uL nS ++ cTold Y hT tT ++ cTold Y hF0 tT_1 ++ cText Y bT xT ++ cStand Y aN (hT 0) vN gN)) (va_runV (As := [.ref (hT 0)]) (rest := []) ⟨hx, hb, hml, hown, hts⟩ (ctX3_copyFrom l D Y hF0 hT H.size tD tT tT_1 hc2) (cwV 1 hts gX4_green_X3_copyFrom rfl rfl rfl (by decide +kernel) ⟨Nat.le_of_ble_eq_true rfl, Nat.le_of_ble_eq_true rfl⟩) (pcW_V (ci := 3) (q0 := 14) hK hP (hD.same rfl) [14, 15, 16, 17, 18, 19, 20, 21, 6, 7, 8, 9, 10, 11, 12, 13] rfl (pc_map (pc_cons rfl (pc_cons rfl (pc_cons rfl (pc_cons rfl (pc_cons rfl (pc_cons rfl (pc_cons rfl (pc_cons rfl (pc_cons rfl (pc_cons rfl (pc_cons rfl (pc_cons rfl (pc_cons rfl (pc_cons rfl (pc_cons rfl (pc_cons rfl pc_nil))))))))))))))))) rfl rfl) rfl rfl hl.1 rfl (lv_room (Nat.le_of_ble_eq_true rfl)) dX4_green_8 ⟨Nat.zero_le _, Nat.zero_le _⟩) hP (hD.same rfl) hS hA [14, 15, 16, 17, 18, 19, 20, 21, 6, 7, 8, 9, 10, 11, 12, 13] (pc_map (pc_cons rfl (pc_cons rfl (pc_cons rfl (pc_cons rfl (pc_cons rfl (pc_cons rfl (pc_cons rfl (pc_cons rfl (pc_cons rfl (pc_cons rfl (pc_cons rfl (pc_cons rfl (pc_cons rfl (pc_cons rfl (pc_cons rfl (pc_cons rfl pc_nil))))))))))))))))) (up_old rfl rfl (up_old rfl rfl (up_old rfl rfl (up_old rfl rfl (up_old rfl rfl (up_old rfl rfl (up_new 8 rfl (up_new 9 rfl (up_new 10 rfl (up_new 11 rfl (up_new 12 rfl (up_new 13 rfl (up_new 14 rfl (up_new 15 rfl (up_new 0 rfl (up_new 1 rfl (up_new 2 rfl (up_new 3 rfl (up_new 4 rfl (up_new 5 rfl (up_new 6 rfl (up_new 7 rfl (up_old rfl rfl (up_old rfl rfl (up_old rfl rfl (up_old rfl rfl (up_old rfl rfl up_nil))))))))))))))))))))))))))) (fun H locs hP hS => ?_)
  refine lv_aload_n hx hb dX4_green_11 rfl (lv_at hl 0 rfl) ?_
  refine va_get hx hb hts hi4 hown hK hP 0 rfl rfl 2 (by decide) (hts (.fieldLink RX4 22 "NightPlots" "text" "LNightPlots$Text;") (List.mem_of_getElem? (i := 3) rfl)) (fun _ h9 => h9) rfl dX4_green_12 ?_
  refine lv_aload_n hx hb dX4_green_15 rfl (lv_at hl 0 rfl) ?_
  refine va_get hx hb hts hi4 hown hK hP 0 rfl rfl 1 (by decide) (hts (.fieldLink RX4 16 "NightPlots" "draft" "LNightPlots$Told;") (List.mem_of_getElem? (i := 1) rfl)) (fun _ h9 => h9) rfl dX4_green_16 ?_
  obtain ⟨r3, xT_4, tT_5, hc6, hM⟩ := bnd3_at hM
  refine cm_i (w2 := (cMain Y nN (hT 0) (hF0 0) (bT 0) (aN 0) uA uZ uW uP uK uL nS ++ cTold Y hT tT ++ cTold Y hF0 tT_5 ++ cText Y bT xT_4 ++ cStand Y aN (hT 0) vN gN)) (va_runV (As := [.ref (hF0 0)]) (rest := []) ⟨hx, hb, hml, hown, hts⟩ (ctX2_readInto l D Y bT hF0 adK adV H.size xT tT_1 r3 xT_4 tT_5 hc6) (cwV 1 hts gX4_green_X2_readInto rfl rfl rfl (by decide +kernel) ⟨Nat.le_of_ble_eq_true rfl, Nat.le_of_ble_eq_true rfl⟩) (pcE_V (fun U g mk a h => sAll_blind U g mk a h) (fun U hU hW => sAll_go hE hS (va_free (ws := (cMain Y nN (hT 0) (hF0 0) (bT 0) (aN 0) uA uZ uW uP uK uL nS ++ cTold Y hT tT ++ cTold Y hF0 tT_1 ++ cText Y bT xT ++ cStand Y aN (hT 0) vN gN)) (hD.same rfl) hS hA [22, 23, 14, 15, 16, 17, 18, 19, 20, 21] (pc_map (pc_cons rfl (pc_cons rfl (pc_cons rfl (pc_cons rfl (pc_cons rfl (pc_cons rfl (pc_cons rfl (pc_cons rfl (pc_cons rfl (pc_cons rfl pc_nil)))))))))))) hU hW) (pcW_V (ci := 2) (q0 := 22) hK hP (hD.same rfl) [22, 23, 14, 15, 16, 17, 18, 19, 20, 21] rfl (pc_map (pc_cons rfl (pc_cons rfl (pc_cons rfl (pc_cons rfl (pc_cons rfl (pc_cons rfl (pc_cons rfl (pc_cons rfl (pc_cons rfl (pc_cons rfl pc_nil))))))))))) rfl rfl)) rfl rfl hl.1 rfl (lv_room (Nat.le_of_ble_eq_true rfl)) dX4_green_19 ⟨Nat.zero_le _, Nat.zero_le _⟩) hP (hD.same rfl) hS hA [22, 23, 14, 15, 16, 17, 18, 19, 20, 21] (pc_map (pc_cons rfl (pc_cons rfl (pc_cons rfl (pc_cons rfl (pc_cons rfl (pc_cons rfl (pc_cons rfl (pc_cons rfl (pc_cons rfl (pc_cons rfl pc_nil))))))))))) (up_old rfl rfl (up_old rfl rfl (up_old rfl rfl (up_old rfl rfl (up_old rfl rfl (up_old rfl rfl (up_old rfl rfl (up_old rfl rfl (up_old rfl rfl (up_old rfl rfl (up_old rfl rfl (up_old rfl rfl (up_old rfl rfl (up_old rfl rfl (up_new 2 rfl (up_new 3 rfl (up_new 4 rfl (up_new 5 rfl (up_new 6 rfl (up_new 7 rfl (up_new 8 rfl (up_new 9 rfl (up_new 0 rfl (up_new 1 rfl (up_old rfl rfl (up_old rfl rfl (up_old rfl rfl up_nil))))))))))))))))))))))))))) (fun H locs hP hS => ?_)
  refine lv_iconst (v := (-1 : Int32)) hx hb dX4_green_22 (by decide) ?_
  refine lv_icmp_eq (tgt := 29) hx hb dX4_green_23 (by decide) (fun c7 => ?_) (fun c7 => ?_)
  · replace hM := if_at_pos hM c7
    refine lv_aload_n hx hb dX4_green_29 rfl (lv_at hl 0 rfl) ?_
    refine va_get hx hb hts hi4 hown hK hP 0 rfl rfl 0 (by decide) (hts (.fieldLink RX4 12 "NightPlots" "told" "LNightPlots$Told;") (List.mem_of_getElem? (i := 2) rfl)) (fun _ h9 => h9) rfl dX4_green_30 ?_
    refine lv_aload_n hx hb dX4_green_33 rfl (lv_at hl 0 rfl) ?_
    refine va_get hx hb hts hi4 hown hK hP 0 rfl rfl 1 (by decide) (hts (.fieldLink RX4 16 "NightPlots" "draft" "LNightPlots$Told;") (List.mem_of_getElem? (i := 1) rfl)) (fun _ h9 => h9) rfl dX4_green_34 ?_
    obtain ⟨tT_8, hc9, hM⟩ := bnd1_at hM
    refine cm_v (w2 := (cMain Y nN (hT 0) (hF0 0) (bT 0) (aN 0) uA uZ uW uP uK uL nS ++ cTold Y hT tT_8 ++ cTold Y hF0 tT_5 ++ cText Y bT xT_4 ++ cStand Y aN (hT 0) vN gN)) (va_runV (As := [.ref (hF0 0)]) (rest := []) ⟨hx, hb, hml, hown, hts⟩ (ctX3_copyFrom l D Y hT hF0 H.size tT tT_5 tT_8 hc9) (cwV 1 hts gX4_green_X3_copyFrom rfl rfl rfl (by decide +kernel) ⟨Nat.le_of_ble_eq_true rfl, Nat.le_of_ble_eq_true rfl⟩) (pcW_V (ci := 3) (q0 := 6) hK hP (hD.same rfl) [6, 7, 8, 9, 10, 11, 12, 13, 14, 15, 16, 17, 18, 19, 20, 21] rfl (pc_map (pc_cons rfl (pc_cons rfl (pc_cons rfl (pc_cons rfl (pc_cons rfl (pc_cons rfl (pc_cons rfl (pc_cons rfl (pc_cons rfl (pc_cons rfl (pc_cons rfl (pc_cons rfl (pc_cons rfl (pc_cons rfl (pc_cons rfl (pc_cons rfl pc_nil))))))))))))))))) rfl rfl) rfl rfl hl.1 rfl (lv_room (Nat.le_of_ble_eq_true rfl)) dX4_green_37 ⟨Nat.zero_le _, Nat.zero_le _⟩) hP (hD.same rfl) hS hA [6, 7, 8, 9, 10, 11, 12, 13, 14, 15, 16, 17, 18, 19, 20, 21] (pc_map (pc_cons rfl (pc_cons rfl (pc_cons rfl (pc_cons rfl (pc_cons rfl (pc_cons rfl (pc_cons rfl (pc_cons rfl (pc_cons rfl (pc_cons rfl (pc_cons rfl (pc_cons rfl (pc_cons rfl (pc_cons rfl (pc_cons rfl (pc_cons rfl pc_nil))))))))))))))))) (up_old rfl rfl (up_old rfl rfl (up_old rfl rfl (up_old rfl rfl (up_old rfl rfl (up_old rfl rfl (up_new 0 rfl (up_new 1 rfl (up_new 2 rfl (up_new 3 rfl (up_new 4 rfl (up_new 5 rfl (up_new 6 rfl (up_new 7 rfl (up_new 8 rfl (up_new 9 rfl (up_new 10 rfl (up_new 11 rfl (up_new 12 rfl (up_new 13 rfl (up_new 14 rfl (up_new 15 rfl (up_old rfl rfl (up_old rfl rfl (up_old rfl rfl (up_old rfl rfl (up_old rfl rfl up_nil))))))))))))))))))))))))))) (fun H locs hP hS => ?_)
    refine lv_aload_n hx hb dX4_green_40 rfl (lv_at hl 0 rfl) ?_
    refine va_get hx hb hts hi4 hown hK hP 0 rfl rfl 2 (by decide) (hts (.fieldLink RX4 22 "NightPlots" "text" "LNightPlots$Text;") (List.mem_of_getElem? (i := 3) rfl)) (fun _ h9 => h9) rfl dX4_green_41 ?_
    refine lv_iconst (v := (0 : Int32)) hx hb dX4_green_44 (by decide) ?_
    refine va_put (ty := .int) hx hb hts hi2 tyX2 tyX2_ok nmX2 hown hK hP (hD.same rfl) hS 22 rfl rfl 1 (by decide) (hts (.fieldLink RX4 76 "NightPlots$Text" "length" "I") (List.mem_of_getElem? (i := 4) rfl)) (fun _ h9 => h9) rfl (by decide +kernel) rfl rfl (Nat.le_of_ble_eq_true rfl) dX4_green_45 (fun H locs hP _ hS => ?_)
    obtain ⟨xT_10, exT_10⟩ : ∃ z : GS, z = (up2 xT_4 0 1 (0 : Int32)) := ⟨_, rfl⟩
    have hP : va_P D vwCl (cMain Y nN (hT 0) (hF0 0) (bT 0) (aN 0) uA uZ uW uP uK uL nS ++ cTold Y hT tT_8 ++ cTold Y hF0 tT_5 ++ cText Y bT xT_10 ++ cStand Y aN (hT 0) vN gN) H := by rw [exT_10]; exact hP
    replace hM := nm_at hM exT_10
    refine lv_aload_n hx hb dX4_green_48 rfl (lv_at hl 0 rfl) ?_
    refine va_get hx hb hts hi4 hown hK hP 0 rfl rfl 3 (by decide) (hts (.fieldLink RX4 31 "NightPlots" "now" "LNightPlots$Standing;") (List.mem_of_getElem? (i := 5) rfl)) (fun _ h9 => h9) rfl dX4_green_49 ?_
    obtain ⟨gS_11, hc12, hM⟩ := bnd1_at hM
    refine cm_v (w2 := (cMain Y nN (hT 0) (hF0 0) (bT 0) (aN 0) uA uZ uW uP uK uL nS ++ cTold Y hT tT_8 ++ cTold Y hF0 tT_5 ++ cText Y bT xT_10 ++ cStand Y aN (hT 0) vN gS_11)) (va_runV (As := []) (rest := []) ⟨hx, hb, hml, hown, hts⟩ (ctX1_startAsTold l D Y aN hT vN H.size gN tT_8 gS_11 hc12) (cwV 0 hts gX4_green_X1_startAsTold rfl rfl rfl (by decide +kernel) ⟨Nat.le_of_ble_eq_true rfl, Nat.le_of_ble_eq_true rfl⟩) (pcW_V (ci := 1) (q0 := 24) hK hP (hD.same rfl) [24, 25, 26, 6, 7, 8, 9, 10, 11, 12, 13] rfl (pc_map (pc_cons rfl (pc_cons rfl (pc_cons rfl (pc_cons rfl (pc_cons rfl (pc_cons rfl (pc_cons rfl (pc_cons rfl (pc_cons rfl (pc_cons rfl (pc_cons rfl pc_nil)))))))))))) rfl rfl) rfl rfl hl.1 rfl (lv_room (Nat.le_of_ble_eq_true rfl)) dX4_green_52 ⟨Nat.zero_le _, Nat.zero_le _⟩) hP (hD.same rfl) hS hA [24, 25, 26, 6, 7, 8, 9, 10, 11, 12, 13] (pc_map (pc_cons rfl (pc_cons rfl (pc_cons rfl (pc_cons rfl (pc_cons rfl (pc_cons rfl (pc_cons rfl (pc_cons rfl (pc_cons rfl (pc_cons rfl (pc_cons rfl pc_nil)))))))))))) (up_old rfl rfl (up_old rfl rfl (up_old rfl rfl (up_old rfl rfl (up_old rfl rfl (up_old rfl rfl (up_new 3 rfl (up_new 4 rfl (up_new 5 rfl (up_new 6 rfl (up_new 7 rfl (up_new 8 rfl (up_new 9 rfl (up_new 10 rfl (up_old rfl rfl (up_old rfl rfl (up_old rfl rfl (up_old rfl rfl (up_old rfl rfl (up_old rfl rfl (up_old rfl rfl (up_old rfl rfl (up_old rfl rfl (up_old rfl rfl (up_new 0 rfl (up_new 1 rfl (up_new 2 rfl up_nil))))))))))))))))))))))))))) (fun H locs hP hS => ?_)
    refine lv_aload_n hx hb dX4_green_55 rfl (lv_at hl 0 rfl) ?_
    refine lv_iconst (v := (0 : Int32)) hx hb dX4_green_56 (by decide) ?_
    refine va_put (ty := .int) hx hb hts hi4 tyX4 tyX4_ok nmX4 hown hK hP (hD.same rfl) hS 0 rfl rfl 13 (by decide) (hts (.fieldLink RX4 90 "NightPlots" "seenSoFar" "I") (List.mem_of_getElem? (i := 6) rfl)) (fun _ h9 => h9) rfl (by decide +kernel) rfl rfl (Nat.le_of_ble_eq_true rfl) dX4_green_57 (fun H locs hP _ hS => ?_)
    obtain ⟨nS_13, enS_13⟩ : ∃ z : GS, z = (up2 nS 0 13 (0 : Int32)) := ⟨_, rfl⟩
    have hP : va_P D vwCl (cMain Y nN (hT 0) (hF0 0) (bT 0) (aN 0) uA uZ uW uP uK uL nS_13 ++ cTold Y hT tT_8 ++ cTold Y hF0 tT_5 ++ cText Y bT xT_10 ++ cStand Y aN (hT 0) vN gS_11) H := by rw [enS_13]; exact hP
    replace hM := nm_at hM enS_13
    refine lv_iconst (v := (0 : Int32)) hx hb dX4_green_60 (by decide) ?_
    refine lv_istore_n (lv' := [(1, .int (0 : Int32)), (0, .ref (nN 0))]) hx hb dX4_green_61 rfl hl (by decide) rfl (fun ls hl => ?_)
    refine jn1_at (fun (nS_14 : GS) => ∀ (H : Heap) (locs : List Loc) (ls : Array Slot), va_P D vwCl (cMain Y nN (hT 0) (hF0 0) (bT 0) (aN 0) uA uZ uW uP uK uL nS_14 ++ cTold Y hT tT_8 ++ cTold Y hF0 tT_5 ++ cText Y bT xT_10 ++ cStand Y aN (hT 0) vN gS_11) H → va_S A s.heap H locs → lv_has ls 2 [(0, .ref (nN 0))] → W p l e (headSpec wsX4_green rmX4_green).room s m ([.ref (nN 0)] : List Value).toArray below meth c H locs 0 0 QQ (F0 m 80 ls [])) hM (fun nS_14 hM H locs ls hP hS hl => ?_) (fun k15 hJ15 hM => ?_)
    · refine lv_aload_n hx hb dX4_green_80 rfl (lv_at hl 0 rfl) ?_
      refine va_get hx hb hts hi4 hown hK hP 0 rfl rfl 2 (by decide) (hts (.fieldLink RX4 22 "NightPlots" "text" "LNightPlots$Text;") (List.mem_of_getElem? (i := 3) rfl)) (fun _ h9 => h9) rfl dX4_green_81 ?_
      refine va_get hx hb hts hi2 hown hK hP 22 rfl rfl 2 (by decide) (hts (.fieldLink RX4 93 "NightPlots$Text" "lines" "I") (List.mem_of_getElem? (i := 8) rfl)) (fun _ h9 => h9) rfl dX4_green_84 ?_
      cases hM
      rw [hQQ]
      exact W.iret hx hb hr (fun t ht hW => ⟨⟨_, (), rfl, rfl, by show va_P D vwCl _ t.heap; rw [ht]; exact hP⟩, hS.F ht⟩) hS.2.2 dX4_green_87
    · refine lq2_at (fun (x16 : Int32) (nS_17 : GS) => ∀ (H : Heap) (locs : List Loc) (ls : Array Slot), va_P D vwCl (cMain Y nN (hT 0) (hF0 0) (bT 0) (aN 0) uA uZ uW uP uK uL nS_17 ++ cTold Y hT tT_8 ++ cTold Y hF0 tT_5 ++ cText Y bT xT_10 ++ cStand Y aN (hT 0) vN gS_11) H → va_S A s.heap H locs → lv_has ls 2 [(0, .ref (nN 0)), (1, .int x16)] → W p l e (headSpec wsX4_green rmX4_green).room s m ([.ref (nN 0)] : List Value).toArray below meth c H locs 0 0 QQ (F0 m 62 ls [])) (fun rec18 x16 nS_17 ih18 hM H locs ls hP hS hl => ?_) FU (0 : Int32) nS_13 hM H locs ls hP hS (lv_sub hl [1, 0] rfl)
      unfold BX4_green_62 at hM
      refine lv_iload_n hx hb dX4_green_62 rfl (lv_at hl 1 rfl) ?_
      refine lv_iconst (v := (2 : Int32)) hx hb dX4_green_63 (by decide) ?_
      refine lv_icmp_ge (tgt := 80) hx hb dX4_green_64 (by decide) (fun c19 => ?_) (fun c19 => ?_)
      · replace hM := if_at_pos hM c19
        exact hJ15 nS_17 hM H locs ls hP hS (lv_sub hl [0] rfl)
      · replace hM := if_at_neg hM c19
        refine lv_aload_n hx hb dX4_green_67 rfl (lv_at hl 0 rfl) ?_
        refine va_get hx hb hts hi4 hown hK hP 0 rfl rfl 6 (by decide) (hts (.fieldLink RX4 42 "NightPlots" "isKept" "[Z") (List.mem_of_getElem? (i := 7) rfl)) (fun _ h9 => h9) rfl dX4_green_68 ?_
        refine lv_iload_n hx hb dX4_green_71 rfl (lv_at hl 1 rfl) ?_
        refine lv_iconst (v := (0 : Int32)) hx hb dX4_green_72 (by decide) ?_
        obtain ⟨hi_20, hM⟩ := chkI_at hM
        refine va_zast hx hb hK hP (hD.same rfl) hS 2 2 rfl rfl hi_20 dX4_green_73 (fun H locs hP _ hS => ?_)
        obtain ⟨nS_21, enS_21⟩ : ∃ z : GS, z = (upA nS_17 2 (upd (nS_17 2) x16.toNatClampNeg (vp_nar .boolean (0 : Int32)))) := ⟨_, rfl⟩
        have hP : va_P D vwCl (cMain Y nN (hT 0) (hF0 0) (bT 0) (aN 0) uA uZ uW uP uK uL nS_21 ++ cTold Y hT tT_8 ++ cTold Y hF0 tT_5 ++ cText Y bT xT_10 ++ cStand Y aN (hT 0) vN gS_11) H := by rw [enS_21]; exact hP
        replace hM := nm_at hM enS_21
        obtain ⟨x22, ex22⟩ : ∃ z : Int32, z = (x16 + 1) := ⟨_, rfl⟩
        replace hM := nm_at hM ex22
        refine lv_iinc (v := x22) (lv' := [(1, .int x22), (0, .ref (nN 0))]) hx hb dX4_green_74 hl (k := 1) rfl (by rw [ex22]; rfl) (by decide) rfl (fun ls hl => ?_)
        refine lv_goto (tgt := 62) hx hb dX4_green_77 (by decide) ?_
        exact ih18 x22 nS_21 hM H locs ls hP hS (lv_sub hl [1, 0] rfl)
  · replace hM := if_at_neg hM c7
    refine lv_bipush (v := (-4 : Int32)) hx hb dX4_green_26 (by decide) ?_
    cases hM
    rw [hQQ]
    exact W.iret hx hb hr (fun t ht hW => ⟨⟨_, (), rfl, rfl, by show va_P D vwCl _ t.heap; rw [ht]; exact hP⟩, hS.F ht⟩) hS.2.2 dX4_green_28
noncomputable def MX4_write (xT : GS) (i1 : Int64) (i2 : Int32) : Option (Int32 × GS) := jn0 (some ((-3 : Int32), xT)) (fun k1 => if i2 < (1 : Int32) then (k1) else (if i2 ≤ (8 : Int32) then (bnd2 (MX2_append xT i1 i2) fun (r4 : Int32) (xT_5 : GS) => jn1 (fun (x7 : Int32) => some (x7, xT_5)) (fun k8 => if r4 = 0 then (k8 (-5 : Int32)) else (k8 (xT_5 0 1)))) else (k1)))
abbrev rmX4_write : Room := { frames := 2, cells := 0, slots := 0, locals := 80 }
set_option maxHeartbeats 4000000 in
set_option maxRecDepth 100000 in
theorem ctX4_write (l : Launch) (D : va_G) (Y : Nat → ClassId) (nN : Nat → Nat) (bT : Nat → Nat) (uT : Nat) (uD : Nat) (uN : Nat) (uA : Nat) (uZ : Nat) (uW : Nat) (uP : Nat) (uK : Nat) (uL : Nat) (sz : Nat) (nS : GS) (xT : GS) (i1 : Int64) (i2 : Int32) (rr : Int32) (xTz : GS) (hM : MX4_write xT i1 i2 = some (rr, xTz)) : Met l yX4_write wsX4_write rmX4_write (pcW [.ref (nN 0), .long i1, .int i2] sz D Y (cMain Y nN uT uD (bT 0) uN uA uZ uW uP uK uL nS ++ cText Y bT xT)) (qiW rr D (cMain Y nN uT uD (bT 0) uN uA uZ uW uP uK uL nS ++ cText Y bT xTz) (va_A (cMain Y nN uT uD (bT 0) uN uA uZ uW uP uK uL nS ++ cText Y bT xT) sz)) 0 0 (va_A (cMain Y nN uT uD (bT 0) uN uA uZ uW uP uK uL nS ++ cText Y bT xT) sz) := by
  refine Met.ofW (cc := cX4_write) (maxL := 4) (ret := (some .int)) (by decide) rfl ?_
  intro p e s m args below meth c s₁ B hml hv
  obtain ⟨rfl, hsz, hP, hK, hD0⟩ := hv
  have hx := B.exec
  have hb := B.bytes
  have hr := B.returns
  have hts := atoms_spec (ws := wsX4_write) B.pre
  have hown : s.vm.findClass RX4 = some m.cls := findClass_of_methodNamed B.named
  have hlocks := B.notSynchronized
  subst hsz
  have hD := hD0.self (sz := s.heap.size)
  generalize hAe : va_A (cMain Y nN uT uD (bT 0) uN uA uZ uW uP uK uL nS ++ cText Y bT xT) s.heap.size = A at hD ⊢
  have hA : ∀ q : Nat, s.heap.size ≤ q → A q := fun q h => by rw [← hAe]; exact Or.inr h
  have hS : va_S A s.heap s.heap [] := va_S.rf
  have hi2 : ∀ w ∈ wsX20, w ∈ wsX4_write := fun w h => List.mem_cons_of_mem _ (List.mem_append_right _ h)
  have hi4 : ∀ w ∈ wsX40, w ∈ wsX4_write := fun w h => List.mem_cons_of_mem _ (List.mem_append_left _ (List.mem_append_right _ h))
  have hl := lv_entry ([.ref (nN 0), .long i1, .int i2]) (n := 4) (Nat.le_of_ble_eq_true rfl)
  rw [lg_entry_eq]
  generalize (lg_sl ([.ref (nN 0), .long i1, .int i2]) ++ List.replicate (4 - (lg_sl ([.ref (nN 0), .long i1, .int i2])).length) Slot.unset).toArray = ls at hl ⊢
  have hl : lv_has ls 4 [(0, .ref (nN 0)), (1, .long i1), (3, .int i2)] := hl
  obtain ⟨QQ, hQQ⟩ : ∃ Q : State → Prop, Q = MQ below (qiW rr D (cMain Y nN uT uD (bT 0) uN uA uZ uW uP uK uL nS ++ cText Y bT xTz) A) ([.ref (nN 0), .long i1, .int i2] : List Value).toArray s 0 0 A := ⟨_, rfl⟩
  rw [← hQQ]
  unfold MX4_write at hM
  suffices hI : ∀ (H : Heap) (locs : List Loc), va_P D vwCl (cMain Y nN uT uD (bT 0) uN uA uZ uW uP uK uL nS ++ cText Y bT xT) H → va_S A s.heap H locs → W p l e (headSpec wsX4_write rmX4_write).room s m ([.ref (nN 0), .long i1, .int i2] : List Value).toArray below meth c H locs 0 0 QQ (F0 m 0 ls []) from hI _ _ hP hS
  clear hP hS
  intro H locs hP hS
  refine lv_iload_n hx hb dX4_write_0 rfl (lv_at hl 2 rfl) ?_
  refine lv_iconst (v := (1 : Int32)) hx hb dX4_write_1 (by decide) ?_
  refine jn0_at (∀ (H : Heap) (locs : List Loc) (ls : Array Slot), va_P D vwCl (cMain Y nN uT uD (bT 0) uN uA uZ uW uP uK uL nS ++ cText Y bT xT) H → va_S A s.heap H locs → lv_has ls 4 [] → W p l e (headSpec wsX4_write rmX4_write).room s m ([.ref (nN 0), .long i1, .int i2] : List Value).toArray below meth c H locs 0 0 QQ (F0 m 11 ls [])) hM (fun  hM H locs ls hP hS hl => ?_) (fun k1 hJ1 hM => ?_)
  · refine lv_bipush (v := (-3 : Int32)) hx hb dX4_write_11 (by decide) ?_
    cases hM
    rw [hQQ]
    exact W.iret hx hb hr (fun t ht hW => ⟨⟨_, (), rfl, rfl, by show va_P D vwCl _ t.heap; rw [ht]; exact hP⟩, hS.F ht⟩) hS.2.2 dX4_write_13
  · refine lv_icmp_lt (tgt := 11) hx hb dX4_write_2 (by decide) (fun c2 => ?_) (fun c2 => ?_)
    · replace hM := if_at_pos hM c2
      exact hJ1 hM H locs ls hP hS (lv_sub hl [] rfl)
    · replace hM := if_at_neg hM c2
      refine lv_iload_n hx hb dX4_write_5 rfl (lv_at hl 2 rfl) ?_
      refine lv_bipush (v := (8 : Int32)) hx hb dX4_write_6 (by decide) ?_
      refine lv_icmp_le (tgt := 14) hx hb dX4_write_8 (by decide) (fun c3 => ?_) (fun c3 => ?_)
      · replace hM := if_at_pos hM c3
        refine lv_aload_n hx hb dX4_write_14 rfl (lv_at hl 0 rfl) ?_
        refine va_get hx hb hts hi4 hown hK hP 0 rfl rfl 2 (by decide) (hts (.fieldLink RX4 22 "NightPlots" "text" "LNightPlots$Text;") (List.mem_of_getElem? (i := 1) rfl)) (fun _ h9 => h9) rfl dX4_write_15 ?_
        refine lv_lload_n hx hb dX4_write_18 rfl (lv_at hl 1 rfl) ?_
        refine lv_iload_n hx hb dX4_write_19 rfl (lv_at hl 2 rfl) ?_
        obtain ⟨r4, xT_5, hc6, hM⟩ := bnd2_at hM
        refine cm_i (w2 := (cMain Y nN uT uD (bT 0) uN uA uZ uW uP uK uL nS ++ cText Y bT xT_5)) (va_runV (As := [.long i1, .int i2]) (rest := []) ⟨hx, hb, hml, hown, hts⟩ (ctX2_append l D Y bT H.size xT i1 i2 r4 xT_5 hc6) (cwV 2 hts gX4_write_X2_append rfl rfl rfl (by decide +kernel) ⟨Nat.le_of_ble_eq_true rfl, Nat.le_of_ble_eq_true rfl⟩) (pcW_V (ci := 2) (q0 := 6) hK hP (hD.same rfl) [6, 7] rfl (pc_map (pc_cons rfl (pc_cons rfl pc_nil))) rfl rfl) rfl rfl hl.1 rfl (lv_room (Nat.le_of_ble_eq_true rfl)) dX4_write_20 ⟨Nat.zero_le _, Nat.zero_le _⟩) hP (hD.same rfl) hS hA [6, 7] (pc_map (pc_cons rfl (pc_cons rfl pc_nil))) (up_old rfl rfl (up_old rfl rfl (up_old rfl rfl (up_old rfl rfl (up_old rfl rfl (up_old rfl rfl (up_new 0 rfl (up_new 1 rfl up_nil)))))))) (fun H locs hP hS => ?_)
        refine jn1_at (fun (x7 : Int32) => ∀ (H : Heap) (locs : List Loc) (ls : Array Slot), va_P D vwCl (cMain Y nN uT uD (bT 0) uN uA uZ uW uP uK uL nS ++ cText Y bT xT_5) H → va_S A s.heap H locs → lv_has ls 4 [] → W p l e (headSpec wsX4_write rmX4_write).room s m ([.ref (nN 0), .long i1, .int i2] : List Value).toArray below meth c H locs 0 0 QQ (F0 m 38 ls [.int x7])) hM (fun x7 hM H locs ls hP hS hl => ?_) (fun k8 hJ8 hM => ?_)
        · cases hM
          rw [hQQ]
          exact W.iret hx hb hr (fun t ht hW => ⟨⟨_, (), rfl, rfl, by show va_P D vwCl _ t.heap; rw [ht]; exact hP⟩, hS.F ht⟩) hS.2.2 dX4_write_38
        · refine lv_if_eq (tgt := 36) hx hb dX4_write_23 (by decide) (fun c9 => ?_) (fun c9 => ?_)
          · replace hM := if_at_pos hM c9
            refine lv_bipush (v := (-5 : Int32)) hx hb dX4_write_36 (by decide) ?_
            exact hJ8 (-5 : Int32) hM H locs ls hP hS (lv_sub hl [] rfl)
          · replace hM := if_at_neg hM c9
            refine lv_aload_n hx hb dX4_write_26 rfl (lv_at hl 0 rfl) ?_
            refine va_get hx hb hts hi4 hown hK hP 0 rfl rfl 2 (by decide) (hts (.fieldLink RX4 22 "NightPlots" "text" "LNightPlots$Text;") (List.mem_of_getElem? (i := 1) rfl)) (fun _ h9 => h9) rfl dX4_write_27 ?_
            refine va_get hx hb hts hi2 hown hK hP 6 rfl rfl 1 (by decide) (hts (.fieldLink RX4 76 "NightPlots$Text" "length" "I") (List.mem_of_getElem? (i := 2) rfl)) (fun _ h9 => h9) rfl dX4_write_30 ?_
            refine lv_goto (tgt := 38) hx hb dX4_write_33 (by decide) ?_
            exact hJ8 (xT_5 0 1) hM H locs ls hP hS (lv_sub hl [] rfl)
      · replace hM := if_at_neg hM c3
        exact hJ1 hM H locs ls hP hS (lv_sub hl [] rfl)
noncomputable def MX4_erase (xT : GS) : Option (Int32 × GS) := nm (xT 0 1) fun (x1 : Int32) => nm (up2 xT 0 1 (0 : Int32)) fun (xT_2 : GS) => some (x1, xT_2)
abbrev rmX4_erase : Room := { frames := 1, cells := 0, slots := 0, locals := 40 }
set_option maxHeartbeats 4000000 in
set_option maxRecDepth 100000 in
theorem ctX4_erase (l : Launch) (D : va_G) (Y : Nat → ClassId) (nN : Nat → Nat) (bT : Nat → Nat) (uT : Nat) (uD : Nat) (uN : Nat) (uA : Nat) (uZ : Nat) (uW : Nat) (uP : Nat) (uK : Nat) (uL : Nat) (sz : Nat) (nS : GS) (xT : GS) (rr : Int32) (xTz : GS) (hM : MX4_erase xT = some (rr, xTz)) : Met l yX4_erase wsX4_erase rmX4_erase (pcW [.ref (nN 0)] sz D Y (cMain Y nN uT uD (bT 0) uN uA uZ uW uP uK uL nS ++ cText Y bT xT)) (qiW rr D (cMain Y nN uT uD (bT 0) uN uA uZ uW uP uK uL nS ++ cText Y bT xTz) (va_A (cMain Y nN uT uD (bT 0) uN uA uZ uW uP uK uL nS ++ cText Y bT xT) sz)) 0 0 (va_A (cMain Y nN uT uD (bT 0) uN uA uZ uW uP uK uL nS ++ cText Y bT xT) sz) := by
  refine Met.ofW (cc := cX4_erase) (maxL := 2) (ret := (some .int)) (by decide) rfl ?_
  intro p e s m args below meth c s₁ B hml hv
  obtain ⟨rfl, hsz, hP, hK, hD0⟩ := hv
  have hx := B.exec
  have hb := B.bytes
  have hr := B.returns
  have hts := atoms_spec (ws := wsX4_erase) B.pre
  have hown : s.vm.findClass RX4 = some m.cls := findClass_of_methodNamed B.named
  have hlocks := B.notSynchronized
  subst hsz
  have hD := hD0.self (sz := s.heap.size)
  generalize hAe : va_A (cMain Y nN uT uD (bT 0) uN uA uZ uW uP uK uL nS ++ cText Y bT xT) s.heap.size = A at hD ⊢
  have hA : ∀ q : Nat, s.heap.size ≤ q → A q := fun q h => by rw [← hAe]; exact Or.inr h
  have hS : va_S A s.heap s.heap [] := va_S.rf
  have hi2 : ∀ w ∈ wsX20, w ∈ wsX4_erase := fun w h => List.mem_cons_of_mem _ (List.mem_append_right _ h)
  have hi4 : ∀ w ∈ wsX40, w ∈ wsX4_erase := fun w h => List.mem_cons_of_mem _ (List.mem_append_left _ (List.mem_append_right _ h))
  have hl := lv_entry ([.ref (nN 0)]) (n := 2) (Nat.le_of_ble_eq_true rfl)
  rw [lg_entry_eq]
  generalize (lg_sl ([.ref (nN 0)]) ++ List.replicate (2 - (lg_sl ([.ref (nN 0)])).length) Slot.unset).toArray = ls at hl ⊢
  have hl : lv_has ls 2 [(0, .ref (nN 0))] := hl
  obtain ⟨QQ, hQQ⟩ : ∃ Q : State → Prop, Q = MQ below (qiW rr D (cMain Y nN uT uD (bT 0) uN uA uZ uW uP uK uL nS ++ cText Y bT xTz) A) ([.ref (nN 0)] : List Value).toArray s 0 0 A := ⟨_, rfl⟩
  rw [← hQQ]
  unfold MX4_erase at hM
  suffices hI : ∀ (H : Heap) (locs : List Loc), va_P D vwCl (cMain Y nN uT uD (bT 0) uN uA uZ uW uP uK uL nS ++ cText Y bT xT) H → va_S A s.heap H locs → W p l e (headSpec wsX4_erase rmX4_erase).room s m ([.ref (nN 0)] : List Value).toArray below meth c H locs 0 0 QQ (F0 m 0 ls []) from hI _ _ hP hS
  clear hP hS
  intro H locs hP hS
  refine lv_aload_n hx hb dX4_erase_0 rfl (lv_at hl 0 rfl) ?_
  refine va_get hx hb hts hi4 hown hK hP 0 rfl rfl 2 (by decide) (hts (.fieldLink RX4 22 "NightPlots" "text" "LNightPlots$Text;") (List.mem_of_getElem? (i := 1) rfl)) (fun _ h9 => h9) rfl dX4_erase_1 ?_
  refine va_get hx hb hts hi2 hown hK hP 6 rfl rfl 1 (by decide) (hts (.fieldLink RX4 76 "NightPlots$Text" "length" "I") (List.mem_of_getElem? (i := 2) rfl)) (fun _ h9 => h9) rfl dX4_erase_4 ?_
  refine lv_topi (fun x1 ex1 => ?_)
  replace hM := nm_at hM ex1
  refine lv_istore_n (lv' := [(1, .int x1), (0, .ref (nN 0))]) hx hb dX4_erase_7 rfl hl (by decide) rfl (fun ls hl => ?_)
  refine lv_aload_n hx hb dX4_erase_8 rfl (lv_at hl 1 rfl) ?_
  refine va_get hx hb hts hi4 hown hK hP 0 rfl rfl 2 (by decide) (hts (.fieldLink RX4 22 "NightPlots" "text" "LNightPlots$Text;") (List.mem_of_getElem? (i := 1) rfl)) (fun _ h9 => h9) rfl dX4_erase_9 ?_
  refine lv_iconst (v := (0 : Int32)) hx hb dX4_erase_12 (by decide) ?_
  refine va_put (ty := .int) hx hb hts hi2 tyX2 tyX2_ok nmX2 hown hK hP (hD.same rfl) hS 6 rfl rfl 1 (by decide) (hts (.fieldLink RX4 76 "NightPlots$Text" "length" "I") (List.mem_of_getElem? (i := 2) rfl)) (fun _ h9 => h9) rfl (by decide +kernel) rfl rfl (Nat.le_of_ble_eq_true rfl) dX4_erase_13 (fun H locs hP _ hS => ?_)
  obtain ⟨xT_2, exT_2⟩ : ∃ z : GS, z = (up2 xT 0 1 (0 : Int32)) := ⟨_, rfl⟩
  have hP : va_P D vwCl (cMain Y nN uT uD (bT 0) uN uA uZ uW uP uK uL nS ++ cText Y bT xT_2) H := by rw [exT_2]; exact hP
  replace hM := nm_at hM exT_2
  refine lv_iload_n hx hb dX4_erase_16 rfl (lv_at hl 0 rfl) ?_
  cases hM
  rw [hQQ]
  exact W.iret hx hb hr (fun t ht hW => ⟨⟨_, (), rfl, rfl, by show va_P D vwCl _ t.heap; rw [ht]; exact hP⟩, hS.F ht⟩) hS.2.2 dX4_erase_17
noncomputable def MX4_isPlot (tT : GS) (i1 : Int32) : Option (Int32) := jn1 (fun (x1 : Int32) => chkB x1 (some (x1))) (fun k2 => jn0 (k2 (0 : Int32)) (fun k4 => if i1 < 0 then (k4) else (if (tT 0 0) ≤ i1 then (k4) else (k2 (1 : Int32)))))
abbrev rmX4_isPlot : Room := { frames := 1, cells := 0, slots := 0, locals := 40 }
set_option maxHeartbeats 4000000 in
set_option maxRecDepth 100000 in
theorem ctX4_isPlot (l : Launch) (D : va_G) (Y : Nat → ClassId) (nN : Nat → Nat) (hT : Nat → Nat) (uD : Nat) (uX : Nat) (uN : Nat) (uA : Nat) (uZ : Nat) (uW : Nat) (uP : Nat) (uK : Nat) (uL : Nat) (sz : Nat) (nS : GS) (tT : GS) (i1 : Int32) (rr : Int32) (hM : MX4_isPlot tT i1 = some (rr)) : Met l yX4_isPlot wsX4_isPlot rmX4_isPlot (pcW [.ref (nN 0), .int i1] sz D Y (cMain Y nN (hT 0) uD uX uN uA uZ uW uP uK uL nS ++ cTold Y hT tT)) (qiW rr D (cMain Y nN (hT 0) uD uX uN uA uZ uW uP uK uL nS ++ cTold Y hT tT) (va_A (cMain Y nN (hT 0) uD uX uN uA uZ uW uP uK uL nS ++ cTold Y hT tT) sz)) 0 0 (va_A (cMain Y nN (hT 0) uD uX uN uA uZ uW uP uK uL nS ++ cTold Y hT tT) sz) := by
  refine Met.ofW (cc := cX4_isPlot) (maxL := 2) (ret := (some .boolean)) (by decide) rfl ?_
  intro p e s m args below meth c s₁ B hml hv
  obtain ⟨rfl, hsz, hP, hK, hD0⟩ := hv
  have hx := B.exec
  have hb := B.bytes
  have hr := B.returns
  have hts := atoms_spec (ws := wsX4_isPlot) B.pre
  have hown : s.vm.findClass RX4 = some m.cls := findClass_of_methodNamed B.named
  have hlocks := B.notSynchronized
  subst hsz
  have hD := hD0.self (sz := s.heap.size)
  generalize hAe : va_A (cMain Y nN (hT 0) uD uX uN uA uZ uW uP uK uL nS ++ cTold Y hT tT) s.heap.size = A at hD ⊢
  have hA : ∀ q : Nat, s.heap.size ≤ q → A q := fun q h => by rw [← hAe]; exact Or.inr h
  have hS : va_S A s.heap s.heap [] := va_S.rf
  have hi3 : ∀ w ∈ wsX30, w ∈ wsX4_isPlot := fun w h => List.mem_cons_of_mem _ (List.mem_append_right _ h)
  have hi4 : ∀ w ∈ wsX40, w ∈ wsX4_isPlot := fun w h => List.mem_cons_of_mem _ (List.mem_append_left _ (List.mem_append_right _ h))
  have hl := lv_entry ([.ref (nN 0), .int i1]) (n := 2) (Nat.le_of_ble_eq_true rfl)
  rw [lg_entry_eq]
  generalize (lg_sl ([.ref (nN 0), .int i1]) ++ List.replicate (2 - (lg_sl ([.ref (nN 0), .int i1])).length) Slot.unset).toArray = ls at hl ⊢
  have hl : lv_has ls 2 [(0, .ref (nN 0)), (1, .int i1)] := hl
  obtain ⟨QQ, hQQ⟩ : ∃ Q : State → Prop, Q = MQ below (qiW rr D (cMain Y nN (hT 0) uD uX uN uA uZ uW uP uK uL nS ++ cTold Y hT tT) A) ([.ref (nN 0), .int i1] : List Value).toArray s 0 0 A := ⟨_, rfl⟩
  rw [← hQQ]
  unfold MX4_isPlot at hM
  suffices hI : ∀ (H : Heap) (locs : List Loc), va_P D vwCl (cMain Y nN (hT 0) uD uX uN uA uZ uW uP uK uL nS ++ cTold Y hT tT) H → va_S A s.heap H locs → W p l e (headSpec wsX4_isPlot rmX4_isPlot).room s m ([.ref (nN 0), .int i1] : List Value).toArray below meth c H locs 0 0 QQ (F0 m 0 ls []) from hI _ _ hP hS
  clear hP hS
  intro H locs hP hS
  refine lv_iload_n hx hb dX4_isPlot_0 rfl (lv_at hl 1 rfl) ?_
  refine jn1_at (fun (x1 : Int32) => ∀ (H : Heap) (locs : List Loc) (ls : Array Slot), va_P D vwCl (cMain Y nN (hT 0) uD uX uN uA uZ uW uP uK uL nS ++ cTold Y hT tT) H → va_S A s.heap H locs → lv_has ls 2 [] → W p l e (headSpec wsX4_isPlot rmX4_isPlot).room s m ([.ref (nN 0), .int i1] : List Value).toArray below meth c H locs 0 0 QQ (F0 m 20 ls [.int x1])) hM (fun x1 hM H locs ls hP hS hl => ?_) (fun k2 hJ2 hM => ?_)
  · obtain ⟨hz3, hM⟩ := chkB_at hM
    cases hM
    rw [hQQ]
    exact W.zret (ty := .boolean) hx hb hr hz3 (fun t ht hW => ⟨⟨_, (), rfl, rfl, by show va_P D vwCl _ t.heap; rw [ht]; exact hP⟩, hS.F ht⟩) hS.2.2 dX4_isPlot_20
  · refine jn0_at (∀ (H : Heap) (locs : List Loc) (ls : Array Slot), va_P D vwCl (cMain Y nN (hT 0) uD uX uN uA uZ uW uP uK uL nS ++ cTold Y hT tT) H → va_S A s.heap H locs → lv_has ls 2 [] → W p l e (headSpec wsX4_isPlot rmX4_isPlot).room s m ([.ref (nN 0), .int i1] : List Value).toArray below meth c H locs 0 0 QQ (F0 m 19 ls [])) hM (fun  hM H locs ls hP hS hl => ?_) (fun k4 hJ4 hM => ?_)
    · refine lv_iconst (v := (0 : Int32)) hx hb dX4_isPlot_19 (by decide) ?_
      exact hJ2 (0 : Int32) hM H locs ls hP hS (lv_sub hl [] rfl)
    · refine lv_if_lt (tgt := 19) hx hb dX4_isPlot_1 (by decide) (fun c5 => ?_) (fun c5 => ?_)
      · replace hM := if_at_pos hM c5
        exact hJ4 hM H locs ls hP hS (lv_sub hl [] rfl)
      · replace hM := if_at_neg hM c5
        refine lv_iload_n hx hb dX4_isPlot_4 rfl (lv_at hl 1 rfl) ?_
        refine lv_aload_n hx hb dX4_isPlot_5 rfl (lv_at hl 0 rfl) ?_
        refine va_get hx hb hts hi4 hown hK hP 0 rfl rfl 0 (by decide) (hts (.fieldLink RX4 12 "NightPlots" "told" "LNightPlots$Told;") (List.mem_of_getElem? (i := 1) rfl)) (fun _ h9 => h9) rfl dX4_isPlot_6 ?_
        refine va_get hx hb hts hi3 hown hK hP 6 rfl rfl 0 (by decide) (hts (.fieldLink RX4 203 "NightPlots$Told" "plots" "I") (List.mem_of_getElem? (i := 2) rfl)) (fun _ h9 => h9) rfl dX4_isPlot_9 ?_
        refine lv_icmp_ge (tgt := 19) hx hb dX4_isPlot_12 (by decide) (fun c6 => ?_) (fun c6 => ?_)
        · replace hM := if_at_pos hM c6
          exact hJ4 hM H locs ls hP hS (lv_sub hl [] rfl)
        · replace hM := if_at_neg hM c6
          refine lv_iconst (v := (1 : Int32)) hx hb dX4_isPlot_15 (by decide) ?_
          refine lv_goto (tgt := 20) hx hb dX4_isPlot_16 (by decide) ?_
          exact hJ2 (1 : Int32) hM H locs ls hP hS (lv_sub hl [] rfl)
noncomputable def MX4_isHouse (tT : GS) (i1 : Int32) : Option (Int32) := jn1 (fun (x1 : Int32) => chkB x1 (some (x1))) (fun k2 => jn0 (k2 (0 : Int32)) (fun k4 => if i1 < 0 then (k4) else (if (tT 0 1) ≤ i1 then (k4) else (k2 (1 : Int32)))))
abbrev rmX4_isHouse : Room := { frames := 1, cells := 0, slots := 0, locals := 40 }
set_option maxHeartbeats 4000000 in
set_option maxRecDepth 100000 in
theorem ctX4_isHouse (l : Launch) (D : va_G) (Y : Nat → ClassId) (nN : Nat → Nat) (hT : Nat → Nat) (uD : Nat) (uX : Nat) (uN : Nat) (uA : Nat) (uZ : Nat) (uW : Nat) (uP : Nat) (uK : Nat) (uL : Nat) (sz : Nat) (nS : GS) (tT : GS) (i1 : Int32) (rr : Int32) (hM : MX4_isHouse tT i1 = some (rr)) : Met l yX4_isHouse wsX4_isHouse rmX4_isHouse (pcW [.ref (nN 0), .int i1] sz D Y (cMain Y nN (hT 0) uD uX uN uA uZ uW uP uK uL nS ++ cTold Y hT tT)) (qiW rr D (cMain Y nN (hT 0) uD uX uN uA uZ uW uP uK uL nS ++ cTold Y hT tT) (va_A (cMain Y nN (hT 0) uD uX uN uA uZ uW uP uK uL nS ++ cTold Y hT tT) sz)) 0 0 (va_A (cMain Y nN (hT 0) uD uX uN uA uZ uW uP uK uL nS ++ cTold Y hT tT) sz) := by
  refine Met.ofW (cc := cX4_isHouse) (maxL := 2) (ret := (some .boolean)) (by decide) rfl ?_
  intro p e s m args below meth c s₁ B hml hv
  obtain ⟨rfl, hsz, hP, hK, hD0⟩ := hv
  have hx := B.exec
  have hb := B.bytes
  have hr := B.returns
  have hts := atoms_spec (ws := wsX4_isHouse) B.pre
  have hown : s.vm.findClass RX4 = some m.cls := findClass_of_methodNamed B.named
  have hlocks := B.notSynchronized
  subst hsz
  have hD := hD0.self (sz := s.heap.size)
  generalize hAe : va_A (cMain Y nN (hT 0) uD uX uN uA uZ uW uP uK uL nS ++ cTold Y hT tT) s.heap.size = A at hD ⊢
  have hA : ∀ q : Nat, s.heap.size ≤ q → A q := fun q h => by rw [← hAe]; exact Or.inr h
  have hS : va_S A s.heap s.heap [] := va_S.rf
  have hi3 : ∀ w ∈ wsX30, w ∈ wsX4_isHouse := fun w h => List.mem_cons_of_mem _ (List.mem_append_right _ h)
  have hi4 : ∀ w ∈ wsX40, w ∈ wsX4_isHouse := fun w h => List.mem_cons_of_mem _ (List.mem_append_left _ (List.mem_append_right _ h))
  have hl := lv_entry ([.ref (nN 0), .int i1]) (n := 2) (Nat.le_of_ble_eq_true rfl)
  rw [lg_entry_eq]
  generalize (lg_sl ([.ref (nN 0), .int i1]) ++ List.replicate (2 - (lg_sl ([.ref (nN 0), .int i1])).length) Slot.unset).toArray = ls at hl ⊢
  have hl : lv_has ls 2 [(0, .ref (nN 0)), (1, .int i1)] := hl
  obtain ⟨QQ, hQQ⟩ : ∃ Q : State → Prop, Q = MQ below (qiW rr D (cMain Y nN (hT 0) uD uX uN uA uZ uW uP uK uL nS ++ cTold Y hT tT) A) ([.ref (nN 0), .int i1] : List Value).toArray s 0 0 A := ⟨_, rfl⟩
  rw [← hQQ]
  unfold MX4_isHouse at hM
  suffices hI : ∀ (H : Heap) (locs : List Loc), va_P D vwCl (cMain Y nN (hT 0) uD uX uN uA uZ uW uP uK uL nS ++ cTold Y hT tT) H → va_S A s.heap H locs → W p l e (headSpec wsX4_isHouse rmX4_isHouse).room s m ([.ref (nN 0), .int i1] : List Value).toArray below meth c H locs 0 0 QQ (F0 m 0 ls []) from hI _ _ hP hS
  clear hP hS
  intro H locs hP hS
  refine lv_iload_n hx hb dX4_isHouse_0 rfl (lv_at hl 1 rfl) ?_
  refine jn1_at (fun (x1 : Int32) => ∀ (H : Heap) (locs : List Loc) (ls : Array Slot), va_P D vwCl (cMain Y nN (hT 0) uD uX uN uA uZ uW uP uK uL nS ++ cTold Y hT tT) H → va_S A s.heap H locs → lv_has ls 2 [] → W p l e (headSpec wsX4_isHouse rmX4_isHouse).room s m ([.ref (nN 0), .int i1] : List Value).toArray below meth c H locs 0 0 QQ (F0 m 20 ls [.int x1])) hM (fun x1 hM H locs ls hP hS hl => ?_) (fun k2 hJ2 hM => ?_)
  · obtain ⟨hz3, hM⟩ := chkB_at hM
    cases hM
    rw [hQQ]
    exact W.zret (ty := .boolean) hx hb hr hz3 (fun t ht hW => ⟨⟨_, (), rfl, rfl, by show va_P D vwCl _ t.heap; rw [ht]; exact hP⟩, hS.F ht⟩) hS.2.2 dX4_isHouse_20
  · refine jn0_at (∀ (H : Heap) (locs : List Loc) (ls : Array Slot), va_P D vwCl (cMain Y nN (hT 0) uD uX uN uA uZ uW uP uK uL nS ++ cTold Y hT tT) H → va_S A s.heap H locs → lv_has ls 2 [] → W p l e (headSpec wsX4_isHouse rmX4_isHouse).room s m ([.ref (nN 0), .int i1] : List Value).toArray below meth c H locs 0 0 QQ (F0 m 19 ls [])) hM (fun  hM H locs ls hP hS hl => ?_) (fun k4 hJ4 hM => ?_)
    · refine lv_iconst (v := (0 : Int32)) hx hb dX4_isHouse_19 (by decide) ?_
      exact hJ2 (0 : Int32) hM H locs ls hP hS (lv_sub hl [] rfl)
    · refine lv_if_lt (tgt := 19) hx hb dX4_isHouse_1 (by decide) (fun c5 => ?_) (fun c5 => ?_)
      · replace hM := if_at_pos hM c5
        exact hJ4 hM H locs ls hP hS (lv_sub hl [] rfl)
      · replace hM := if_at_neg hM c5
        refine lv_iload_n hx hb dX4_isHouse_4 rfl (lv_at hl 1 rfl) ?_
        refine lv_aload_n hx hb dX4_isHouse_5 rfl (lv_at hl 0 rfl) ?_
        refine va_get hx hb hts hi4 hown hK hP 0 rfl rfl 0 (by decide) (hts (.fieldLink RX4 12 "NightPlots" "told" "LNightPlots$Told;") (List.mem_of_getElem? (i := 1) rfl)) (fun _ h9 => h9) rfl dX4_isHouse_6 ?_
        refine va_get hx hb hts hi3 hown hK hP 6 rfl rfl 1 (by decide) (hts (.fieldLink RX4 206 "NightPlots$Told" "houses" "I") (List.mem_of_getElem? (i := 2) rfl)) (fun _ h9 => h9) rfl dX4_isHouse_9 ?_
        refine lv_icmp_ge (tgt := 19) hx hb dX4_isHouse_12 (by decide) (fun c6 => ?_) (fun c6 => ?_)
        · replace hM := if_at_pos hM c6
          exact hJ4 hM H locs ls hP hS (lv_sub hl [] rfl)
        · replace hM := if_at_neg hM c6
          refine lv_iconst (v := (1 : Int32)) hx hb dX4_isHouse_15 (by decide) ?_
          refine lv_goto (tgt := 20) hx hb dX4_isHouse_16 (by decide) ?_
          exact hJ2 (1 : Int32) hM H locs ls hP hS (lv_sub hl [] rfl)
noncomputable def MX4_areDays (i1 : Int32) : Option (Int32) := jn1 (fun (x1 : Int32) => chkB x1 (some (x1))) (fun k2 => jn0 (k2 (0 : Int32)) (fun k4 => if i1 < (1 : Int32) then (k4) else (if (99 : Int32) < i1 then (k4) else (k2 (1 : Int32)))))
abbrev rmX4_areDays : Room := { frames := 1, cells := 0, slots := 0, locals := 40 }
set_option maxHeartbeats 4000000 in
set_option maxRecDepth 100000 in
theorem ctX4_areDays (l : Launch) (D : va_G) (Y : Nat → ClassId) (sz : Nat) (i1 : Int32) (rr : Int32) (hM : MX4_areDays i1 = some (rr)) : Met l yX4_areDays wsX4_areDays rmX4_areDays (pcW [.int i1] sz D Y (([] : va_W))) (qiW rr D (([] : va_W)) (va_A (([] : va_W)) sz)) 0 0 (va_A (([] : va_W)) sz) := by
  refine Met.ofW (cc := cX4_areDays) (maxL := 1) (ret := (some .boolean)) (by decide) rfl ?_
  intro p e s m args below meth c s₁ B hml hv
  obtain ⟨rfl, hsz, hP, hK, hD0⟩ := hv
  have hx := B.exec
  have hb := B.bytes
  have hr := B.returns
  have hts := atoms_spec (ws := wsX4_areDays) B.pre
  have hown : s.vm.findClass RX4 = some m.cls := findClass_of_methodNamed B.named
  have hlocks := B.notSynchronized
  subst hsz
  have hD := hD0.self (sz := s.heap.size)
  generalize hAe : va_A (([] : va_W)) s.heap.size = A at hD ⊢
  have hA : ∀ q : Nat, s.heap.size ≤ q → A q := fun q h => by rw [← hAe]; exact Or.inr h
  have hS : va_S A s.heap s.heap [] := va_S.rf
  have hl := lv_entry ([.int i1]) (n := 1) (Nat.le_of_ble_eq_true rfl)
  rw [lg_entry_eq]
  generalize (lg_sl ([.int i1]) ++ List.replicate (1 - (lg_sl ([.int i1])).length) Slot.unset).toArray = ls at hl ⊢
  have hl : lv_has ls 1 [(0, .int i1)] := hl
  obtain ⟨QQ, hQQ⟩ : ∃ Q : State → Prop, Q = MQ below (qiW rr D (([] : va_W)) A) ([.int i1] : List Value).toArray s 0 0 A := ⟨_, rfl⟩
  rw [← hQQ]
  unfold MX4_areDays at hM
  suffices hI : ∀ (H : Heap) (locs : List Loc), va_P D vwCl (([] : va_W)) H → va_S A s.heap H locs → W p l e (headSpec wsX4_areDays rmX4_areDays).room s m ([.int i1] : List Value).toArray below meth c H locs 0 0 QQ (F0 m 0 ls []) from hI _ _ hP hS
  clear hP hS
  intro H locs hP hS
  refine lv_iload_n hx hb dX4_areDays_0 rfl (lv_at hl 0 rfl) ?_
  refine lv_iconst (v := (1 : Int32)) hx hb dX4_areDays_1 (by decide) ?_
  refine jn1_at (fun (x1 : Int32) => ∀ (H : Heap) (locs : List Loc) (ls : Array Slot), va_P D vwCl (([] : va_W)) H → va_S A s.heap H locs → lv_has ls 1 [] → W p l e (headSpec wsX4_areDays rmX4_areDays).room s m ([.int i1] : List Value).toArray below meth c H locs 0 0 QQ (F0 m 16 ls [.int x1])) hM (fun x1 hM H locs ls hP hS hl => ?_) (fun k2 hJ2 hM => ?_)
  · obtain ⟨hz3, hM⟩ := chkB_at hM
    cases hM
    rw [hQQ]
    exact W.zret (ty := .boolean) hx hb hr hz3 (fun t ht hW => ⟨⟨_, (), rfl, rfl, by show va_P D vwCl _ t.heap; rw [ht]; exact hP⟩, hS.F ht⟩) hS.2.2 dX4_areDays_16
  · refine jn0_at (∀ (H : Heap) (locs : List Loc) (ls : Array Slot), va_P D vwCl (([] : va_W)) H → va_S A s.heap H locs → lv_has ls 1 [] → W p l e (headSpec wsX4_areDays rmX4_areDays).room s m ([.int i1] : List Value).toArray below meth c H locs 0 0 QQ (F0 m 15 ls [])) hM (fun  hM H locs ls hP hS hl => ?_) (fun k4 hJ4 hM => ?_)
    · refine lv_iconst (v := (0 : Int32)) hx hb dX4_areDays_15 (by decide) ?_
      exact hJ2 (0 : Int32) hM H locs ls hP hS (lv_sub hl [] rfl)
    · refine lv_icmp_lt (tgt := 15) hx hb dX4_areDays_2 (by decide) (fun c5 => ?_) (fun c5 => ?_)
      · replace hM := if_at_pos hM c5
        exact hJ4 hM H locs ls hP hS (lv_sub hl [] rfl)
      · replace hM := if_at_neg hM c5
        refine lv_iload_n hx hb dX4_areDays_5 rfl (lv_at hl 0 rfl) ?_
        refine lv_bipush (v := (99 : Int32)) hx hb dX4_areDays_6 (by decide) ?_
        refine lv_icmp_gt (tgt := 15) hx hb dX4_areDays_8 (by decide) (fun c6 => ?_) (fun c6 => ?_)
        · replace hM := if_at_pos hM c6
          exact hJ4 hM H locs ls hP hS (lv_sub hl [] rfl)
        · replace hM := if_at_neg hM c6
          refine lv_iconst (v := (1 : Int32)) hx hb dX4_areDays_11 (by decide) ?_
          refine lv_goto (tgt := 16) hx hb dX4_areDays_12 (by decide) ?_
          exact hJ2 (1 : Int32) hM H locs ls hP hS (lv_sub hl [] rfl)
noncomputable def MX4_refusePair (tT : GS) (i1 : Int32) (i2 : Int32) (i3 : Int32) : Option (Int32) := bnd1 (MX4_isHouse tT i1) fun (r1 : Int32) => jn0 (some ((-2 : Int32))) (fun k3 => if r1 = 0 then (k3) else (bnd1 (MX4_isHouse tT i2) fun (r5 : Int32) => if r5 = 0 then (k3) else (jn1 (fun (x8 : Int32) => some (x8)) (fun k9 => jn0 (k9 (-3 : Int32)) (fun k10 => if i3 < 0 then (k10) else (if (1 : Int32) < i3 then (k10) else (if i1 = i2 then (k10) else (k9 (0 : Int32)))))))))
abbrev rmX4_refusePair : Room := { frames := 2, cells := 0, slots := 0, locals := 80 }
set_option maxHeartbeats 4000000 in
set_option maxRecDepth 100000 in
theorem ctX4_refusePair (l : Launch) (D : va_G) (Y : Nat → ClassId) (nN : Nat → Nat) (hT : Nat → Nat) (uD : Nat) (uX : Nat) (uN : Nat) (uA : Nat) (uZ : Nat) (uW : Nat) (uP : Nat) (uK : Nat) (uL : Nat) (sz : Nat) (nS : GS) (tT : GS) (i1 : Int32) (i2 : Int32) (i3 : Int32) (rr : Int32) (hM : MX4_refusePair tT i1 i2 i3 = some (rr)) : Met l yX4_refusePair wsX4_refusePair rmX4_refusePair (pcW [.ref (nN 0), .int i1, .int i2, .int i3] sz D Y (cMain Y nN (hT 0) uD uX uN uA uZ uW uP uK uL nS ++ cTold Y hT tT)) (qiW rr D (cMain Y nN (hT 0) uD uX uN uA uZ uW uP uK uL nS ++ cTold Y hT tT) (va_A (cMain Y nN (hT 0) uD uX uN uA uZ uW uP uK uL nS ++ cTold Y hT tT) sz)) 0 0 (va_A (cMain Y nN (hT 0) uD uX uN uA uZ uW uP uK uL nS ++ cTold Y hT tT) sz) := by
  refine Met.ofW (cc := cX4_refusePair) (maxL := 4) (ret := (some .int)) (by decide) rfl ?_
  intro p e s m args below meth c s₁ B hml hv
  obtain ⟨rfl, hsz, hP, hK, hD0⟩ := hv
  have hx := B.exec
  have hb := B.bytes
  have hr := B.returns
  have hts := atoms_spec (ws := wsX4_refusePair) B.pre
  have hown : s.vm.findClass RX4 = some m.cls := findClass_of_methodNamed B.named
  have hlocks := B.notSynchronized
  subst hsz
  have hD := hD0.self (sz := s.heap.size)
  generalize hAe : va_A (cMain Y nN (hT 0) uD uX uN uA uZ uW uP uK uL nS ++ cTold Y hT tT) s.heap.size = A at hD ⊢
  have hA : ∀ q : Nat, s.heap.size ≤ q → A q := fun q h => by rw [← hAe]; exact Or.inr h
  have hS : va_S A s.heap s.heap [] := va_S.rf
  have hl := lv_entry ([.ref (nN 0), .int i1, .int i2, .int i3]) (n := 4) (Nat.le_of_ble_eq_true rfl)
  rw [lg_entry_eq]
  generalize (lg_sl ([.ref (nN 0), .int i1, .int i2, .int i3]) ++ List.replicate (4 - (lg_sl ([.ref (nN 0), .int i1, .int i2, .int i3])).length) Slot.unset).toArray = ls at hl ⊢
  have hl : lv_has ls 4 [(0, .ref (nN 0)), (1, .int i1), (2, .int i2), (3, .int i3)] := hl
  obtain ⟨QQ, hQQ⟩ : ∃ Q : State → Prop, Q = MQ below (qiW rr D (cMain Y nN (hT 0) uD uX uN uA uZ uW uP uK uL nS ++ cTold Y hT tT) A) ([.ref (nN 0), .int i1, .int i2, .int i3] : List Value).toArray s 0 0 A := ⟨_, rfl⟩
  rw [← hQQ]
  unfold MX4_refusePair at hM
  suffices hI : ∀ (H : Heap) (locs : List Loc), va_P D vwCl (cMain Y nN (hT 0) uD uX uN uA uZ uW uP uK uL nS ++ cTold Y hT tT) H → va_S A s.heap H locs → W p l e (headSpec wsX4_refusePair rmX4_refusePair).room s m ([.ref (nN 0), .int i1, .int i2, .int i3] : List Value).toArray below meth c H locs 0 0 QQ (F0 m 0 ls []) from hI _ _ hP hS
  clear hP hS
  intro H locs hP hS
  refine lv_aload_n hx hb dX4_refusePair_0 rfl (lv_at hl 0 rfl) ?_
  refine lv_iload_n hx hb dX4_refusePair_1 rfl (lv_at hl 1 rfl) ?_
  obtain ⟨r1, hc2, hM⟩ := bnd1_at hM
  refine co_i (va_runV (As := [.int i1]) (rest := []) ⟨hx, hb, hml, hown, hts⟩ (ctX4_isHouse l D Y nN hT uD uX uN uA uZ uW uP uK uL H.size nS tT i1 r1 hc2) (cwV 1 hts gX4_refusePair_X4_isHouse rfl rfl rfl (by decide +kernel) ⟨Nat.le_of_ble_eq_true rfl, Nat.le_of_ble_eq_true rfl⟩) (pcW_V0 (ci := 4) (q0 := 0) hK hP (hD.same rfl) rfl rfl) rfl rfl hl.1 rfl (lv_room (Nat.le_of_ble_eq_true rfl)) dX4_refusePair_2 ⟨Nat.zero_le _, Nat.zero_le _⟩) (hD.same rfl) hS hA (fun H locs hP hS => ?_)
  refine jn0_at (∀ (H : Heap) (locs : List Loc) (ls : Array Slot), va_P D vwCl (cMain Y nN (hT 0) uD uX uN uA uZ uW uP uK uL nS ++ cTold Y hT tT) H → va_S A s.heap H locs → lv_has ls 4 [] → W p l e (headSpec wsX4_refusePair rmX4_refusePair).room s m ([.ref (nN 0), .int i1, .int i2, .int i3] : List Value).toArray below meth c H locs 0 0 QQ (F0 m 16 ls [])) hM (fun  hM H locs ls hP hS hl => ?_) (fun k3 hJ3 hM => ?_)
  · refine lv_bipush (v := (-2 : Int32)) hx hb dX4_refusePair_16 (by decide) ?_
    cases hM
    rw [hQQ]
    exact W.iret hx hb hr (fun t ht hW => ⟨⟨_, (), rfl, rfl, by show va_P D vwCl _ t.heap; rw [ht]; exact hP⟩, hS.F ht⟩) hS.2.2 dX4_refusePair_18
  · refine lv_if_eq (tgt := 16) hx hb dX4_refusePair_5 (by decide) (fun c4 => ?_) (fun c4 => ?_)
    · replace hM := if_at_pos hM c4
      exact hJ3 hM H locs ls hP hS (lv_sub hl [] rfl)
    · replace hM := if_at_neg hM c4
      refine lv_aload_n hx hb dX4_refusePair_8 rfl (lv_at hl 0 rfl) ?_
      refine lv_iload_n hx hb dX4_refusePair_9 rfl (lv_at hl 2 rfl) ?_
      obtain ⟨r5, hc6, hM⟩ := bnd1_at hM
      refine co_i (va_runV (As := [.int i2]) (rest := []) ⟨hx, hb, hml, hown, hts⟩ (ctX4_isHouse l D Y nN hT uD uX uN uA uZ uW uP uK uL H.size nS tT i2 r5 hc6) (cwV 1 hts gX4_refusePair_X4_isHouse rfl rfl rfl (by decide +kernel) ⟨Nat.le_of_ble_eq_true rfl, Nat.le_of_ble_eq_true rfl⟩) (pcW_V0 (ci := 4) (q0 := 0) hK hP (hD.same rfl) rfl rfl) rfl rfl hl.1 rfl (lv_room (Nat.le_of_ble_eq_true rfl)) dX4_refusePair_10 ⟨Nat.zero_le _, Nat.zero_le _⟩) (hD.same rfl) hS hA (fun H locs hP hS => ?_)
      refine lv_if_ne (tgt := 19) hx hb dX4_refusePair_13 (by decide) (fun c7 => ?_) (fun c7 => ?_)
      · replace hM := if_at_neg hM c7
        refine lv_iload_n hx hb dX4_refusePair_19 rfl (lv_at hl 3 rfl) ?_
        refine jn1_at (fun (x8 : Int32) => ∀ (H : Heap) (locs : List Loc) (ls : Array Slot), va_P D vwCl (cMain Y nN (hT 0) uD uX uN uA uZ uW uP uK uL nS ++ cTold Y hT tT) H → va_S A s.heap H locs → lv_has ls 4 [] → W p l e (headSpec wsX4_refusePair rmX4_refusePair).room s m ([.ref (nN 0), .int i1, .int i2, .int i3] : List Value).toArray below meth c H locs 0 0 QQ (F0 m 39 ls [.int x8])) hM (fun x8 hM H locs ls hP hS hl => ?_) (fun k9 hJ9 hM => ?_)
        · cases hM
          rw [hQQ]
          exact W.iret hx hb hr (fun t ht hW => ⟨⟨_, (), rfl, rfl, by show va_P D vwCl _ t.heap; rw [ht]; exact hP⟩, hS.F ht⟩) hS.2.2 dX4_refusePair_39
        · refine jn0_at (∀ (H : Heap) (locs : List Loc) (ls : Array Slot), va_P D vwCl (cMain Y nN (hT 0) uD uX uN uA uZ uW uP uK uL nS ++ cTold Y hT tT) H → va_S A s.heap H locs → lv_has ls 4 [] → W p l e (headSpec wsX4_refusePair rmX4_refusePair).room s m ([.ref (nN 0), .int i1, .int i2, .int i3] : List Value).toArray below meth c H locs 0 0 QQ (F0 m 33 ls [])) hM (fun  hM H locs ls hP hS hl => ?_) (fun k10 hJ10 hM => ?_)
          · refine lv_bipush (v := (-3 : Int32)) hx hb dX4_refusePair_33 (by decide) ?_
            refine lv_goto (tgt := 39) hx hb dX4_refusePair_35 (by decide) ?_
            exact hJ9 (-3 : Int32) hM H locs ls hP hS (lv_sub hl [] rfl)
          · refine lv_if_lt (tgt := 33) hx hb dX4_refusePair_20 (by decide) (fun c11 => ?_) (fun c11 => ?_)
            · replace hM := if_at_pos hM c11
              exact hJ10 hM H locs ls hP hS (lv_sub hl [] rfl)
            · replace hM := if_at_neg hM c11
              refine lv_iload_n hx hb dX4_refusePair_23 rfl (lv_at hl 3 rfl) ?_
              refine lv_iconst (v := (1 : Int32)) hx hb dX4_refusePair_24 (by decide) ?_
              refine lv_icmp_gt (tgt := 33) hx hb dX4_refusePair_25 (by decide) (fun c12 => ?_) (fun c12 => ?_)
              · replace hM := if_at_pos hM c12
                exact hJ10 hM H locs ls hP hS (lv_sub hl [] rfl)
              · replace hM := if_at_neg hM c12
                refine lv_iload_n hx hb dX4_refusePair_28 rfl (lv_at hl 1 rfl) ?_
                refine lv_iload_n hx hb dX4_refusePair_29 rfl (lv_at hl 2 rfl) ?_
                refine lv_icmp_ne (tgt := 38) hx hb dX4_refusePair_30 (by decide) (fun c13 => ?_) (fun c13 => ?_)
                · replace hM := if_at_neg hM c13
                  refine lv_iconst (v := (0 : Int32)) hx hb dX4_refusePair_38 (by decide) ?_
                  exact hJ9 (0 : Int32) hM H locs ls hP hS (lv_sub hl [] rfl)
                · replace hM := if_at_pos hM c13
                  exact hJ10 hM H locs ls hP hS (lv_sub hl [] rfl)
      · replace hM := if_at_pos hM c7
        exact hJ3 hM H locs ls hP hS (lv_sub hl [] rfl)
