noncomputable def MX2_readCrop (xT : GS) (tT : GS) : Option (Int32 × GS × GS) := bnd2 (MX2_readNumber xT (0 : Int32) ((tT 0 0) - (1 : Int32)) (2 : Int32)) fun (r1 : Int32) (xT_2 : GS) => if r1 = (-1 : Int32) then (some ((0 : Int32), xT_2, tT)) else (bnd2 (MX2_readNumber xT_2 (0 : Int32) (9 : Int32) (2 : Int32)) fun (r5 : Int32) (xT_6 : GS) => if r5 = (-1 : Int32) then (some ((0 : Int32), xT_6, tT)) else (chkI r1 12 (nm (upA tT 1 (upd (tT 1) r1.toNatClampNeg r5)) fun (tT_10 : GS) => some ((1 : Int32), xT_6, tT_10))))
abbrev rmX2_readCrop : Room := { frames := 4, cells := 0, slots := 0, locals := 160 }
set_option maxHeartbeats 4000000 in
set_option maxRecDepth 100000 in
theorem ctX2_readCrop (l : Launch) (D : va_G) (Y : Nat → ClassId) (bT : Nat → Nat) (hT : Nat → Nat) (sz : Nat) (xT : GS) (tT : GS) (rr : Int32) (xTz : GS) (tTz : GS) (hM : MX2_readCrop xT tT = some (rr, xTz, tTz)) : Met l yX2_readCrop wsX2_readCrop rmX2_readCrop (pcW [.ref (bT 0), .ref (hT 0)] sz D Y (cText Y bT xT ++ cTold Y hT tT)) (qiW rr D (cText Y bT xTz ++ cTold Y hT tTz) (va_A (cText Y bT xT ++ cTold Y hT tT) sz)) 0 0 (va_A (cText Y bT xT ++ cTold Y hT tT) sz) := by
  refine Met.ofW (cc := cX2_readCrop) (maxL := 4) (ret := (some .boolean)) (by decide) rfl ?_
  intro p e s m args below meth c s₁ B hml hv
  obtain ⟨rfl, hsz, hP, hK, hD0⟩ := hv
  have hx := B.exec
  have hb := B.bytes
  have hr := B.returns
  have hts := atoms_spec (ws := wsX2_readCrop) B.pre
  have hown : s.vm.findClass RX2 = some m.cls := findClass_of_methodNamed B.named
  have hlocks := B.notSynchronized
  subst hsz
  have hD := hD0.self (sz := s.heap.size)
  generalize hAe : va_A (cText Y bT xT ++ cTold Y hT tT) s.heap.size = A at hD ⊢
  have hA : ∀ q : Nat, s.heap.size ≤ q → A q := fun q h => by rw [← hAe]; exact Or.inr h
  have hS : va_S A s.heap s.heap [] := va_S.rf
  have hi3 : ∀ w ∈ wsX30, w ∈ wsX2_readCrop := fun w h => List.mem_cons_of_mem _ (List.mem_append_left _ (List.mem_append_right _ h))
  have hl := lv_entry ([.ref (bT 0), .ref (hT 0)]) (n := 4) (Nat.le_of_ble_eq_true rfl)
  rw [lg_entry_eq]
  generalize (lg_sl ([.ref (bT 0), .ref (hT 0)]) ++ List.replicate (4 - (lg_sl ([.ref (bT 0), .ref (hT 0)])).length) Slot.unset).toArray = ls at hl ⊢
  have hl : lv_has ls 4 [(0, .ref (bT 0)), (1, .ref (hT 0))] := hl
  obtain ⟨QQ, hQQ⟩ : ∃ Q : State → Prop, Q = MQ below (qiW rr D (cText Y bT xTz ++ cTold Y hT tTz) A) ([.ref (bT 0), .ref (hT 0)] : List Value).toArray s 0 0 A := ⟨_, rfl⟩
  rw [← hQQ]
  unfold MX2_readCrop at hM
  suffices hI : ∀ (H : Heap) (locs : List Loc), va_P D vwCl (cText Y bT xT ++ cTold Y hT tT) H → va_S A s.heap H locs → W p l e (headSpec wsX2_readCrop rmX2_readCrop).room s m ([.ref (bT 0), .ref (hT 0)] : List Value).toArray below meth c H locs 0 0 QQ (F0 m 0 ls []) from hI _ _ hP hS
  clear hP hS
  intro H locs hP hS
  refine lv_aload_n hx hb dX2_readCrop_0 rfl (lv_at hl 0 rfl) ?_
  refine lv_iconst (v := (0 : Int32)) hx hb dX2_readCrop_1 (by decide) ?_
  refine lv_aload_n hx hb dX2_readCrop_2 rfl (lv_at hl 1 rfl) ?_
  refine va_get hx hb hts hi3 hown hK hP 2 rfl rfl 0 (by decide) (hts (.fieldLink RX2 92 "NightPlots$Told" "plots" "I") (List.mem_of_getElem? (i := 1) rfl)) (fun _ h9 => h9) rfl dX2_readCrop_3 ?_
  refine lv_iconst (v := (1 : Int32)) hx hb dX2_readCrop_6 (by decide) ?_
  refine lv_isub hx hb dX2_readCrop_7 ?_
  refine lv_iconst (v := (2 : Int32)) hx hb dX2_readCrop_8 (by decide) ?_
  obtain ⟨r1, xT_2, hc3, hM⟩ := bnd2_at hM
  refine cm_i (w2 := (cText Y bT xT_2 ++ cTold Y hT tT)) (va_runV (As := [.int (0 : Int32), .int ((tT 0 0) - (1 : Int32)), .int (2 : Int32)]) (rest := []) ⟨hx, hb, hml, hown, hts⟩ (ctX2_readNumber l D Y bT H.size xT (0 : Int32) ((tT 0 0) - (1 : Int32)) (2 : Int32) r1 xT_2 hc3) (cwV 3 hts gX2_readCrop_X2_readNumber rfl rfl rfl (by decide +kernel) ⟨Nat.le_of_ble_eq_true rfl, Nat.le_of_ble_eq_true rfl⟩) (pcW_V (ci := 2) (q0 := 0) hK hP (hD.same rfl) [0, 1] rfl (pc_map (pc_cons rfl (pc_cons rfl pc_nil))) rfl rfl) rfl rfl hl.1 rfl (lv_room (Nat.le_of_ble_eq_true rfl)) dX2_readCrop_9 ⟨Nat.zero_le _, Nat.zero_le _⟩) hP (hD.same rfl) hS hA [0, 1] (pc_map (pc_cons rfl (pc_cons rfl pc_nil))) (up_new 0 rfl (up_new 1 rfl (up_old rfl rfl (up_old rfl rfl (up_old rfl rfl (up_old rfl rfl (up_old rfl rfl (up_old rfl rfl (up_old rfl rfl (up_old rfl rfl up_nil)))))))))) (fun H locs hP hS => ?_)
  refine lv_istore_n (lv' := [(2, .int r1), (0, .ref (bT 0)), (1, .ref (hT 0))]) hx hb dX2_readCrop_12 rfl hl (by decide) rfl (fun ls hl => ?_)
  refine lv_iload_n hx hb dX2_readCrop_13 rfl (lv_at hl 0 rfl) ?_
  refine lv_iconst (v := (-1 : Int32)) hx hb dX2_readCrop_14 (by decide) ?_
  refine lv_icmp_ne (tgt := 20) hx hb dX2_readCrop_15 (by decide) (fun c4 => ?_) (fun c4 => ?_)
  · replace hM := if_at_neg hM c4
    refine lv_aload_n hx hb dX2_readCrop_20 rfl (lv_at hl 1 rfl) ?_
    refine lv_iconst (v := (0 : Int32)) hx hb dX2_readCrop_21 (by decide) ?_
    refine lv_bipush (v := (9 : Int32)) hx hb dX2_readCrop_22 (by decide) ?_
    refine lv_iconst (v := (2 : Int32)) hx hb dX2_readCrop_24 (by decide) ?_
    obtain ⟨r5, xT_6, hc7, hM⟩ := bnd2_at hM
    refine cm_i (w2 := (cText Y bT xT_6 ++ cTold Y hT tT)) (va_runV (As := [.int (0 : Int32), .int (9 : Int32), .int (2 : Int32)]) (rest := []) ⟨hx, hb, hml, hown, hts⟩ (ctX2_readNumber l D Y bT H.size xT_2 (0 : Int32) (9 : Int32) (2 : Int32) r5 xT_6 hc7) (cwV 3 hts gX2_readCrop_X2_readNumber rfl rfl rfl (by decide +kernel) ⟨Nat.le_of_ble_eq_true rfl, Nat.le_of_ble_eq_true rfl⟩) (pcW_V (ci := 2) (q0 := 0) hK hP (hD.same rfl) [0, 1] rfl (pc_map (pc_cons rfl (pc_cons rfl pc_nil))) rfl rfl) rfl rfl hl.1 rfl (lv_room (Nat.le_of_ble_eq_true rfl)) dX2_readCrop_25 ⟨Nat.zero_le _, Nat.zero_le _⟩) hP (hD.same rfl) hS hA [0, 1] (pc_map (pc_cons rfl (pc_cons rfl pc_nil))) (up_new 0 rfl (up_new 1 rfl (up_old rfl rfl (up_old rfl rfl (up_old rfl rfl (up_old rfl rfl (up_old rfl rfl (up_old rfl rfl (up_old rfl rfl (up_old rfl rfl up_nil)))))))))) (fun H locs hP hS => ?_)
    refine lv_istore_n (lv' := [(3, .int r5), (2, .int r1), (0, .ref (bT 0)), (1, .ref (hT 0))]) hx hb dX2_readCrop_28 rfl hl (by decide) rfl (fun ls hl => ?_)
    refine lv_iload_n hx hb dX2_readCrop_29 rfl (lv_at hl 0 rfl) ?_
    refine lv_iconst (v := (-1 : Int32)) hx hb dX2_readCrop_30 (by decide) ?_
    refine lv_icmp_ne (tgt := 36) hx hb dX2_readCrop_31 (by decide) (fun c8 => ?_) (fun c8 => ?_)
    · replace hM := if_at_neg hM c8
      refine lv_aload_n hx hb dX2_readCrop_36 rfl (lv_at hl 3 rfl) ?_
      refine va_get hx hb hts hi3 hown hK hP 2 rfl rfl 7 (by decide) (hts (.fieldLink RX2 95 "NightPlots$Told" "crop" "[I") (List.mem_of_getElem? (i := 2) rfl)) (fun _ h9 => h9) rfl dX2_readCrop_37 ?_
      refine lv_iload_n hx hb dX2_readCrop_40 rfl (lv_at hl 1 rfl) ?_
      refine lv_iload_n hx hb dX2_readCrop_41 rfl (lv_at hl 0 rfl) ?_
      obtain ⟨hi_9, hM⟩ := chkI_at hM
      refine va_iast hx hb hK hP (hD.same rfl) hS 3 0 rfl rfl hi_9 dX2_readCrop_42 (fun H locs hP _ hS => ?_)
      obtain ⟨tT_10, etT_10⟩ : ∃ z : GS, z = (upA tT 1 (upd (tT 1) r1.toNatClampNeg r5)) := ⟨_, rfl⟩
      have hP : va_P D vwCl (cText Y bT xT_6 ++ cTold Y hT tT_10) H := by rw [etT_10]; exact hP
      replace hM := nm_at hM etT_10
      refine lv_iconst (v := (1 : Int32)) hx hb dX2_readCrop_43 (by decide) ?_
      cases hM
      rw [hQQ]
      exact W.zret (ty := .boolean) hx hb hr rfl (fun t ht hW => ⟨⟨_, (), rfl, rfl, by show va_P D vwCl _ t.heap; rw [ht]; exact hP⟩, hS.F ht⟩) hS.2.2 dX2_readCrop_44
    · replace hM := if_at_pos hM c8
      refine lv_iconst (v := (0 : Int32)) hx hb dX2_readCrop_34 (by decide) ?_
      cases hM
      rw [hQQ]
      exact W.zret (ty := .boolean) hx hb hr rfl (fun t ht hW => ⟨⟨_, (), rfl, rfl, by show va_P D vwCl _ t.heap; rw [ht]; exact hP⟩, hS.F ht⟩) hS.2.2 dX2_readCrop_35
  · replace hM := if_at_pos hM c4
    refine lv_iconst (v := (0 : Int32)) hx hb dX2_readCrop_18 (by decide) ?_
    cases hM
    rw [hQQ]
    exact W.zret (ty := .boolean) hx hb hr rfl (fun t ht hW => ⟨⟨_, (), rfl, rfl, by show va_P D vwCl _ t.heap; rw [ht]; exact hP⟩, hS.F ht⟩) hS.2.2 dX2_readCrop_19
noncomputable def MX2_readGreen (xT : GS) (tT : GS) : Option (Int32 × GS × GS) := bnd2 (MX2_readNumber xT (3 : Int32) (12 : Int32) (2 : Int32)) fun (r1 : Int32) (xT_2 : GS) => if r1 = (-1 : Int32) then (some ((0 : Int32), xT_2, tT)) else (bnd1 (MX3_layOut tT r1) fun (tT_5 : GS) => some ((1 : Int32), xT_2, tT_5))
abbrev rmX2_readGreen : Room := { frames := 4, cells := 0, slots := 0, locals := 160 }
set_option maxHeartbeats 4000000 in
set_option maxRecDepth 100000 in
theorem ctX2_readGreen (l : Launch) (D : va_G) (Y : Nat → ClassId) (bT : Nat → Nat) (hT : Nat → Nat) (sz : Nat) (xT : GS) (tT : GS) (rr : Int32) (xTz : GS) (tTz : GS) (hM : MX2_readGreen xT tT = some (rr, xTz, tTz)) : Met l yX2_readGreen wsX2_readGreen rmX2_readGreen (pcW [.ref (bT 0), .ref (hT 0)] sz D Y (cText Y bT xT ++ cTold Y hT tT)) (qiW rr D (cText Y bT xTz ++ cTold Y hT tTz) (va_A (cText Y bT xT ++ cTold Y hT tT) sz)) 0 0 (va_A (cText Y bT xT ++ cTold Y hT tT) sz) := by
  refine Met.ofW (cc := cX2_readGreen) (maxL := 3) (ret := (some .boolean)) (by decide) rfl ?_
  intro p e s m args below meth c s₁ B hml hv
  obtain ⟨rfl, hsz, hP, hK, hD0⟩ := hv
  have hx := B.exec
  have hb := B.bytes
  have hr := B.returns
  have hts := atoms_spec (ws := wsX2_readGreen) B.pre
  have hown : s.vm.findClass RX2 = some m.cls := findClass_of_methodNamed B.named
  have hlocks := B.notSynchronized
  subst hsz
  have hD := hD0.self (sz := s.heap.size)
  generalize hAe : va_A (cText Y bT xT ++ cTold Y hT tT) s.heap.size = A at hD ⊢
  have hA : ∀ q : Nat, s.heap.size ≤ q → A q := fun q h => by rw [← hAe]; exact Or.inr h
  have hS : va_S A s.heap s.heap [] := va_S.rf
  have hl := lv_entry ([.ref (bT 0), .ref (hT 0)]) (n := 3) (Nat.le_of_ble_eq_true rfl)
  rw [lg_entry_eq]
  generalize (lg_sl ([.ref (bT 0), .ref (hT 0)]) ++ List.replicate (3 - (lg_sl ([.ref (bT 0), .ref (hT 0)])).length) Slot.unset).toArray = ls at hl ⊢
  have hl : lv_has ls 3 [(0, .ref (bT 0)), (1, .ref (hT 0))] := hl
  obtain ⟨QQ, hQQ⟩ : ∃ Q : State → Prop, Q = MQ below (qiW rr D (cText Y bT xTz ++ cTold Y hT tTz) A) ([.ref (bT 0), .ref (hT 0)] : List Value).toArray s 0 0 A := ⟨_, rfl⟩
  rw [← hQQ]
  unfold MX2_readGreen at hM
  suffices hI : ∀ (H : Heap) (locs : List Loc), va_P D vwCl (cText Y bT xT ++ cTold Y hT tT) H → va_S A s.heap H locs → W p l e (headSpec wsX2_readGreen rmX2_readGreen).room s m ([.ref (bT 0), .ref (hT 0)] : List Value).toArray below meth c H locs 0 0 QQ (F0 m 0 ls []) from hI _ _ hP hS
  clear hP hS
  intro H locs hP hS
  refine lv_aload_n hx hb dX2_readGreen_0 rfl (lv_at hl 0 rfl) ?_
  refine lv_iconst (v := (3 : Int32)) hx hb dX2_readGreen_1 (by decide) ?_
  refine lv_bipush (v := (12 : Int32)) hx hb dX2_readGreen_2 (by decide) ?_
  refine lv_iconst (v := (2 : Int32)) hx hb dX2_readGreen_4 (by decide) ?_
  obtain ⟨r1, xT_2, hc3, hM⟩ := bnd2_at hM
  refine cm_i (w2 := (cText Y bT xT_2 ++ cTold Y hT tT)) (va_runV (As := [.int (3 : Int32), .int (12 : Int32), .int (2 : Int32)]) (rest := []) ⟨hx, hb, hml, hown, hts⟩ (ctX2_readNumber l D Y bT H.size xT (3 : Int32) (12 : Int32) (2 : Int32) r1 xT_2 hc3) (cwV 3 hts gX2_readGreen_X2_readNumber rfl rfl rfl (by decide +kernel) ⟨Nat.le_of_ble_eq_true rfl, Nat.le_of_ble_eq_true rfl⟩) (pcW_V (ci := 2) (q0 := 0) hK hP (hD.same rfl) [0, 1] rfl (pc_map (pc_cons rfl (pc_cons rfl pc_nil))) rfl rfl) rfl rfl hl.1 rfl (lv_room (Nat.le_of_ble_eq_true rfl)) dX2_readGreen_5 ⟨Nat.zero_le _, Nat.zero_le _⟩) hP (hD.same rfl) hS hA [0, 1] (pc_map (pc_cons rfl (pc_cons rfl pc_nil))) (up_new 0 rfl (up_new 1 rfl (up_old rfl rfl (up_old rfl rfl (up_old rfl rfl (up_old rfl rfl (up_old rfl rfl (up_old rfl rfl (up_old rfl rfl (up_old rfl rfl up_nil)))))))))) (fun H locs hP hS => ?_)
  refine lv_istore_n (lv' := [(2, .int r1), (0, .ref (bT 0)), (1, .ref (hT 0))]) hx hb dX2_readGreen_8 rfl hl (by decide) rfl (fun ls hl => ?_)
  refine lv_iload_n hx hb dX2_readGreen_9 rfl (lv_at hl 0 rfl) ?_
  refine lv_iconst (v := (-1 : Int32)) hx hb dX2_readGreen_10 (by decide) ?_
  refine lv_icmp_ne (tgt := 16) hx hb dX2_readGreen_11 (by decide) (fun c4 => ?_) (fun c4 => ?_)
  · replace hM := if_at_neg hM c4
    refine lv_aload_n hx hb dX2_readGreen_16 rfl (lv_at hl 2 rfl) ?_
    refine lv_iload_n hx hb dX2_readGreen_17 rfl (lv_at hl 0 rfl) ?_
    obtain ⟨tT_5, hc6, hM⟩ := bnd1_at hM
    refine cm_v (w2 := (cText Y bT xT_2 ++ cTold Y hT tT_5)) (va_runV (As := [.int r1]) (rest := []) ⟨hx, hb, hml, hown, hts⟩ (ctX3_layOut l D Y hT H.size tT r1 tT_5 hc6) (cwV 1 hts gX2_readGreen_X3_layOut rfl rfl rfl (by decide +kernel) ⟨Nat.le_of_ble_eq_true rfl, Nat.le_of_ble_eq_true rfl⟩) (pcW_V (ci := 3) (q0 := 2) hK hP (hD.same rfl) [2, 3, 4, 5, 6, 7, 8, 9] rfl (pc_map (pc_cons rfl (pc_cons rfl (pc_cons rfl (pc_cons rfl (pc_cons rfl (pc_cons rfl (pc_cons rfl (pc_cons rfl pc_nil))))))))) rfl rfl) rfl rfl hl.1 rfl (lv_room (Nat.le_of_ble_eq_true rfl)) dX2_readGreen_18 ⟨Nat.zero_le _, Nat.zero_le _⟩) hP (hD.same rfl) hS hA [2, 3, 4, 5, 6, 7, 8, 9] (pc_map (pc_cons rfl (pc_cons rfl (pc_cons rfl (pc_cons rfl (pc_cons rfl (pc_cons rfl (pc_cons rfl (pc_cons rfl pc_nil))))))))) (up_old rfl rfl (up_old rfl rfl (up_new 0 rfl (up_new 1 rfl (up_new 2 rfl (up_new 3 rfl (up_new 4 rfl (up_new 5 rfl (up_new 6 rfl (up_new 7 rfl up_nil)))))))))) (fun H locs hP hS => ?_)
    refine lv_iconst (v := (1 : Int32)) hx hb dX2_readGreen_21 (by decide) ?_
    cases hM
    rw [hQQ]
    exact W.zret (ty := .boolean) hx hb hr rfl (fun t ht hW => ⟨⟨_, (), rfl, rfl, by show va_P D vwCl _ t.heap; rw [ht]; exact hP⟩, hS.F ht⟩) hS.2.2 dX2_readGreen_22
  · replace hM := if_at_pos hM c4
    refine lv_iconst (v := (0 : Int32)) hx hb dX2_readGreen_14 (by decide) ?_
    cases hM
    rw [hQQ]
    exact W.zret (ty := .boolean) hx hb hr rfl (fun t ht hW => ⟨⟨_, (), rfl, rfl, by show va_P D vwCl _ t.heap; rw [ht]; exact hP⟩, hS.F ht⟩) hS.2.2 dX2_readGreen_15
noncomputable def MX2_readLine (xT : GS) (tT : GS) : Option (Int32 × GS × GS) := bnd1 (MX2_isWord (wL 0) (wB 0) xT) fun (r1 : Int32) => if r1 = 0 then (bnd1 (MX2_isWord (wL 1) (wB 1) xT) fun (r4 : Int32) => if r4 = 0 then (bnd1 (MX2_kindHere xT) fun (r7 : Int32) => if r7 = (-1 : Int32) then (bnd1 (MX2_isWord (wL 6) (wB 6) xT) fun (r10 : Int32) => if r10 = 0 then (bnd1 (MX2_isWord (wL 7) (wB 7) xT) fun (r13 : Int32) => if r13 = 0 then (bnd1 (MX2_isWord (wL 8) (wB 8) xT) fun (r16 : Int32) => if r16 = 0 then (bnd1 (MX2_isWord (wL 9) (wB 9) xT) fun (r19 : Int32) => if r19 = 0 then (bnd2 (MX2_readPlainLaw xT tT) fun (r22 : Int32) (tT_23 : GS) => chkB r22 (some (r22, xT, tT_23))) else (bnd1 (MX3_removeHouses tT) fun (tT_26 : GS) => some ((1 : Int32), xT, tT_26))) else (bnd3 (MX2_readLot xT tT) fun (r28 : Int32) (xT_29 : GS) (tT_30 : GS) => chkB r28 (some (r28, xT_29, tT_30)))) else (bnd3 (MX2_readFeud xT tT) fun (r33 : Int32) (xT_34 : GS) (tT_35 : GS) => chkB r33 (some (r33, xT_34, tT_35)))) else (bnd3 (MX2_readPath xT tT) fun (r38 : Int32) (xT_39 : GS) (tT_40 : GS) => chkB r38 (some (r38, xT_39, tT_40)))) else (bnd3 (MX2_readHouse xT tT r7) fun (r43 : Int32) (xT_44 : GS) (tT_45 : GS) => chkB r43 (some (r43, xT_44, tT_45)))) else (bnd3 (MX2_readCrop xT tT) fun (r48 : Int32) (xT_49 : GS) (tT_50 : GS) => chkB r48 (some (r48, xT_49, tT_50)))) else (bnd3 (MX2_readGreen xT tT) fun (r53 : Int32) (xT_54 : GS) (tT_55 : GS) => chkB r53 (some (r53, xT_54, tT_55)))
abbrev rmX2_readLine : Room := { frames := 8, cells := 0, slots := 0, locals := 320 }
set_option maxHeartbeats 4000000 in
set_option maxRecDepth 100000 in
theorem ctX2_readLine (l : Launch) (D : va_G) (Y : Nat → ClassId) (bT : Nat → Nat) (hT : Nat → Nat) (adK adV : Nat → Nat) (sz : Nat) (xT : GS) (tT : GS) (rr : Int32) (xTz : GS) (tTz : GS) (hM : MX2_readLine xT tT = some (rr, xTz, tTz)) : Met l yX2_readLine wsX2_readLine rmX2_readLine (pcE [.ref (bT 0), .ref (hT 0)] sz D Y (cText Y bT xT ++ cTold Y hT tT) (sAll adK adV (va_A (cText Y bT xT ++ cTold Y hT tT) sz))) (qiW rr D (cText Y bT xTz ++ cTold Y hT tTz) (va_A (cText Y bT xT ++ cTold Y hT tT) sz)) 0 0 (va_A (cText Y bT xT ++ cTold Y hT tT) sz) := by
  refine Met.ofW (cc := cX2_readLine) (maxL := 3) (ret := (some .boolean)) (by decide) rfl ?_
  intro p e s m args below meth c s₁ B hml hv
  obtain ⟨⟨rfl, hsz, hP, hK, hD0⟩, hE⟩ := hv
  have hx := B.exec
  have hb := B.bytes
  have hr := B.returns
  have hts := atoms_spec (ws := wsX2_readLine) B.pre
  have hown : s.vm.findClass RX2 = some m.cls := findClass_of_methodNamed B.named
  have hlocks := B.notSynchronized
  subst hsz
  have hD := hD0.self (sz := s.heap.size)
  generalize hAe : va_A (cText Y bT xT ++ cTold Y hT tT) s.heap.size = A at hD hE ⊢
  have hA : ∀ q : Nat, s.heap.size ≤ q → A q := fun q h => by rw [← hAe]; exact Or.inr h
  have hS : va_S A s.heap s.heap [] := va_S.rf
  have hl := lv_entry ([.ref (bT 0), .ref (hT 0)]) (n := 3) (Nat.le_of_ble_eq_true rfl)
  rw [lg_entry_eq]
  generalize (lg_sl ([.ref (bT 0), .ref (hT 0)]) ++ List.replicate (3 - (lg_sl ([.ref (bT 0), .ref (hT 0)])).length) Slot.unset).toArray = ls at hl ⊢
  have hl : lv_has ls 3 [(0, .ref (bT 0)), (1, .ref (hT 0))] := hl
  obtain ⟨QQ, hQQ⟩ : ∃ Q : State → Prop, Q = MQ below (qiW rr D (cText Y bT xTz ++ cTold Y hT tTz) A) ([.ref (bT 0), .ref (hT 0)] : List Value).toArray s 0 0 A := ⟨_, rfl⟩
  rw [← hQQ]
  unfold MX2_readLine at hM
  suffices hI : ∀ (H : Heap) (locs : List Loc), va_P D vwCl (cText Y bT xT ++ cTold Y hT tT) H → va_S A s.heap H locs → W p l e (headSpec wsX2_readLine rmX2_readLine).room s m ([.ref (bT 0), .ref (hT 0)] : List Value).toArray below meth c H locs 0 0 QQ (F0 m 0 ls []) from hI _ _ hP hS
  clear hP hS
  intro H locs hP hS
  refine lv_aload_n hx hb dX2_readLine_0 rfl (lv_at hl 0 rfl) ?_
  refine va_ldcS hx hb hown (hE.2.1 0 (by decide)) dX2_readLine_1 ?_
  obtain ⟨r1, hc2, hM⟩ := bnd1_at hM
  refine cm_i (w2 := (cText Y bT xT ++ cTold Y hT tT)) (va_runV (As := [.ref (adK 0)]) (rest := []) ⟨hx, hb, hml, hown, hts⟩ (ctX2_isWord l D Y bT (adK 0) (adV 0) (wL 0) (wB 0) H.size xT r1 hc2) (cwV 1 hts gX2_readLine_X2_isWord rfl rfl rfl (by decide +kernel) ⟨Nat.le_of_ble_eq_true rfl, Nat.le_of_ble_eq_true rfl⟩) (pcE_V (fun U g mk a h => sE_blind U g mk a h) (fun U hU hW => sE_go (sAll_E hE (k := 0) (by decide)) hS (va_free (ws := (cText Y bT xT ++ cTold Y hT tT)) (hD.same rfl) hS hA [0, 1] (pc_map (pc_cons rfl (pc_cons rfl pc_nil)))) hU hW.alike) (pcW_V (ci := 2) (q0 := 0) hK hP (hD.same rfl) [0, 1] rfl (pc_map (pc_cons rfl (pc_cons rfl pc_nil))) rfl rfl)) rfl rfl hl.1 rfl (lv_room (Nat.le_of_ble_eq_true rfl)) dX2_readLine_3 ⟨Nat.zero_le _, Nat.zero_le _⟩) hP (hD.same rfl) hS hA [0, 1] (pc_map (pc_cons rfl (pc_cons rfl pc_nil))) (up_new 0 rfl (up_new 1 rfl (up_old rfl rfl (up_old rfl rfl (up_old rfl rfl (up_old rfl rfl (up_old rfl rfl (up_old rfl rfl (up_old rfl rfl (up_old rfl rfl up_nil)))))))))) (fun H locs hP hS => ?_)
  refine lv_if_eq (tgt := 15) hx hb dX2_readLine_6 (by decide) (fun c3 => ?_) (fun c3 => ?_)
  · replace hM := if_at_pos hM c3
    refine lv_aload_n hx hb dX2_readLine_15 rfl (lv_at hl 0 rfl) ?_
    refine va_ldcS hx hb hown (hE.2.1 1 (by decide)) dX2_readLine_16 ?_
    obtain ⟨r4, hc5, hM⟩ := bnd1_at hM
    refine cm_i (w2 := (cText Y bT xT ++ cTold Y hT tT)) (va_runV (As := [.ref (adK 1)]) (rest := []) ⟨hx, hb, hml, hown, hts⟩ (ctX2_isWord l D Y bT (adK 1) (adV 1) (wL 1) (wB 1) H.size xT r4 hc5) (cwV 1 hts gX2_readLine_X2_isWord rfl rfl rfl (by decide +kernel) ⟨Nat.le_of_ble_eq_true rfl, Nat.le_of_ble_eq_true rfl⟩) (pcE_V (fun U g mk a h => sE_blind U g mk a h) (fun U hU hW => sE_go (sAll_E hE (k := 1) (by decide)) hS (va_free (ws := (cText Y bT xT ++ cTold Y hT tT)) (hD.same rfl) hS hA [0, 1] (pc_map (pc_cons rfl (pc_cons rfl pc_nil)))) hU hW.alike) (pcW_V (ci := 2) (q0 := 0) hK hP (hD.same rfl) [0, 1] rfl (pc_map (pc_cons rfl (pc_cons rfl pc_nil))) rfl rfl)) rfl rfl hl.1 rfl (lv_room (Nat.le_of_ble_eq_true rfl)) dX2_readLine_18 ⟨Nat.zero_le _, Nat.zero_le _⟩) hP (hD.same rfl) hS hA [0, 1] (pc_map (pc_cons rfl (pc_cons rfl pc_nil))) (up_new 0 rfl (up_new 1 rfl (up_old rfl rfl (up_old rfl rfl (up_old rfl rfl (up_old rfl rfl (up_old rfl rfl (up_old rfl rfl (up_old rfl rfl (up_old rfl rfl up_nil)))))))))) (fun H locs hP hS => ?_)
    refine lv_if_eq (tgt := 30) hx hb dX2_readLine_21 (by decide) (fun c6 => ?_) (fun c6 => ?_)
    · replace hM := if_at_pos hM c6
      refine lv_aload_n hx hb dX2_readLine_30 rfl (lv_at hl 0 rfl) ?_
      obtain ⟨r7, hc8, hM⟩ := bnd1_at hM
      refine cm_i (w2 := (cText Y bT xT ++ cTold Y hT tT)) (va_runV (As := []) (rest := []) ⟨hx, hb, hml, hown, hts⟩ (ctX2_kindHere l D Y bT adK adV H.size xT r7 hc8) (cwV 0 hts gX2_readLine_X2_kindHere rfl rfl rfl (by decide +kernel) ⟨Nat.le_of_ble_eq_true rfl, Nat.le_of_ble_eq_true rfl⟩) (pcE_V (fun U g mk a h => sAll_blind U g mk a h) (fun U hU hW => sAll_go hE hS (va_free (ws := (cText Y bT xT ++ cTold Y hT tT)) (hD.same rfl) hS hA [0, 1] (pc_map (pc_cons rfl (pc_cons rfl pc_nil)))) hU hW) (pcW_V (ci := 2) (q0 := 0) hK hP (hD.same rfl) [0, 1] rfl (pc_map (pc_cons rfl (pc_cons rfl pc_nil))) rfl rfl)) rfl rfl hl.1 rfl (lv_room (Nat.le_of_ble_eq_true rfl)) dX2_readLine_31 ⟨Nat.zero_le _, Nat.zero_le _⟩) hP (hD.same rfl) hS hA [0, 1] (pc_map (pc_cons rfl (pc_cons rfl pc_nil))) (up_new 0 rfl (up_new 1 rfl (up_old rfl rfl (up_old rfl rfl (up_old rfl rfl (up_old rfl rfl (up_old rfl rfl (up_old rfl rfl (up_old rfl rfl (up_old rfl rfl up_nil)))))))))) (fun H locs hP hS => ?_)
      refine lv_istore_n (lv' := [(2, .int r7), (0, .ref (bT 0)), (1, .ref (hT 0))]) hx hb dX2_readLine_34 rfl hl (by decide) rfl (fun ls hl => ?_)
      refine lv_iload_n hx hb dX2_readLine_35 rfl (lv_at hl 0 rfl) ?_
      refine lv_iconst (v := (-1 : Int32)) hx hb dX2_readLine_36 (by decide) ?_
      refine lv_icmp_eq (tgt := 47) hx hb dX2_readLine_37 (by decide) (fun c9 => ?_) (fun c9 => ?_)
      · replace hM := if_at_pos hM c9
        refine lv_aload_n hx hb dX2_readLine_47 rfl (lv_at hl 1 rfl) ?_
        refine va_ldcS hx hb hown (hE.2.1 6 (by decide)) dX2_readLine_48 ?_
        obtain ⟨r10, hc11, hM⟩ := bnd1_at hM
        refine cm_i (w2 := (cText Y bT xT ++ cTold Y hT tT)) (va_runV (As := [.ref (adK 6)]) (rest := []) ⟨hx, hb, hml, hown, hts⟩ (ctX2_isWord l D Y bT (adK 6) (adV 6) (wL 6) (wB 6) H.size xT r10 hc11) (cwV 1 hts gX2_readLine_X2_isWord rfl rfl rfl (by decide +kernel) ⟨Nat.le_of_ble_eq_true rfl, Nat.le_of_ble_eq_true rfl⟩) (pcE_V (fun U g mk a h => sE_blind U g mk a h) (fun U hU hW => sE_go (sAll_E hE (k := 6) (by decide)) hS (va_free (ws := (cText Y bT xT ++ cTold Y hT tT)) (hD.same rfl) hS hA [0, 1] (pc_map (pc_cons rfl (pc_cons rfl pc_nil)))) hU hW.alike) (pcW_V (ci := 2) (q0 := 0) hK hP (hD.same rfl) [0, 1] rfl (pc_map (pc_cons rfl (pc_cons rfl pc_nil))) rfl rfl)) rfl rfl hl.1 rfl (lv_room (Nat.le_of_ble_eq_true rfl)) dX2_readLine_50 ⟨Nat.zero_le _, Nat.zero_le _⟩) hP (hD.same rfl) hS hA [0, 1] (pc_map (pc_cons rfl (pc_cons rfl pc_nil))) (up_new 0 rfl (up_new 1 rfl (up_old rfl rfl (up_old rfl rfl (up_old rfl rfl (up_old rfl rfl (up_old rfl rfl (up_old rfl rfl (up_old rfl rfl (up_old rfl rfl up_nil)))))))))) (fun H locs hP hS => ?_)
        refine lv_if_eq (tgt := 62) hx hb dX2_readLine_53 (by decide) (fun c12 => ?_) (fun c12 => ?_)
        · replace hM := if_at_pos hM c12
          refine lv_aload_n hx hb dX2_readLine_62 rfl (lv_at hl 1 rfl) ?_
          refine va_ldcS hx hb hown (hE.2.1 7 (by decide)) dX2_readLine_63 ?_
          obtain ⟨r13, hc14, hM⟩ := bnd1_at hM
          refine cm_i (w2 := (cText Y bT xT ++ cTold Y hT tT)) (va_runV (As := [.ref (adK 7)]) (rest := []) ⟨hx, hb, hml, hown, hts⟩ (ctX2_isWord l D Y bT (adK 7) (adV 7) (wL 7) (wB 7) H.size xT r13 hc14) (cwV 1 hts gX2_readLine_X2_isWord rfl rfl rfl (by decide +kernel) ⟨Nat.le_of_ble_eq_true rfl, Nat.le_of_ble_eq_true rfl⟩) (pcE_V (fun U g mk a h => sE_blind U g mk a h) (fun U hU hW => sE_go (sAll_E hE (k := 7) (by decide)) hS (va_free (ws := (cText Y bT xT ++ cTold Y hT tT)) (hD.same rfl) hS hA [0, 1] (pc_map (pc_cons rfl (pc_cons rfl pc_nil)))) hU hW.alike) (pcW_V (ci := 2) (q0 := 0) hK hP (hD.same rfl) [0, 1] rfl (pc_map (pc_cons rfl (pc_cons rfl pc_nil))) rfl rfl)) rfl rfl hl.1 rfl (lv_room (Nat.le_of_ble_eq_true rfl)) dX2_readLine_65 ⟨Nat.zero_le _, Nat.zero_le _⟩) hP (hD.same rfl) hS hA [0, 1] (pc_map (pc_cons rfl (pc_cons rfl pc_nil))) (up_new 0 rfl (up_new 1 rfl (up_old rfl rfl (up_old rfl rfl (up_old rfl rfl (up_old rfl rfl (up_old rfl rfl (up_old rfl rfl (up_old rfl rfl (up_old rfl rfl up_nil)))))))))) (fun H locs hP hS => ?_)
          refine lv_if_eq (tgt := 77) hx hb dX2_readLine_68 (by decide) (fun c15 => ?_) (fun c15 => ?_)
          · replace hM := if_at_pos hM c15
            refine lv_aload_n hx hb dX2_readLine_77 rfl (lv_at hl 1 rfl) ?_
            refine va_ldcS hx hb hown (hE.2.1 8 (by decide)) dX2_readLine_78 ?_
            obtain ⟨r16, hc17, hM⟩ := bnd1_at hM
            refine cm_i (w2 := (cText Y bT xT ++ cTold Y hT tT)) (va_runV (As := [.ref (adK 8)]) (rest := []) ⟨hx, hb, hml, hown, hts⟩ (ctX2_isWord l D Y bT (adK 8) (adV 8) (wL 8) (wB 8) H.size xT r16 hc17) (cwV 1 hts gX2_readLine_X2_isWord rfl rfl rfl (by decide +kernel) ⟨Nat.le_of_ble_eq_true rfl, Nat.le_of_ble_eq_true rfl⟩) (pcE_V (fun U g mk a h => sE_blind U g mk a h) (fun U hU hW => sE_go (sAll_E hE (k := 8) (by decide)) hS (va_free (ws := (cText Y bT xT ++ cTold Y hT tT)) (hD.same rfl) hS hA [0, 1] (pc_map (pc_cons rfl (pc_cons rfl pc_nil)))) hU hW.alike) (pcW_V (ci := 2) (q0 := 0) hK hP (hD.same rfl) [0, 1] rfl (pc_map (pc_cons rfl (pc_cons rfl pc_nil))) rfl rfl)) rfl rfl hl.1 rfl (lv_room (Nat.le_of_ble_eq_true rfl)) dX2_readLine_80 ⟨Nat.zero_le _, Nat.zero_le _⟩) hP (hD.same rfl) hS hA [0, 1] (pc_map (pc_cons rfl (pc_cons rfl pc_nil))) (up_new 0 rfl (up_new 1 rfl (up_old rfl rfl (up_old rfl rfl (up_old rfl rfl (up_old rfl rfl (up_old rfl rfl (up_old rfl rfl (up_old rfl rfl (up_old rfl rfl up_nil)))))))))) (fun H locs hP hS => ?_)
            refine lv_if_eq (tgt := 92) hx hb dX2_readLine_83 (by decide) (fun c18 => ?_) (fun c18 => ?_)
            · replace hM := if_at_pos hM c18
              refine lv_aload_n hx hb dX2_readLine_92 rfl (lv_at hl 1 rfl) ?_
              refine va_ldcS hx hb hown (hE.2.1 9 (by decide)) dX2_readLine_93 ?_
              obtain ⟨r19, hc20, hM⟩ := bnd1_at hM
              refine cm_i (w2 := (cText Y bT xT ++ cTold Y hT tT)) (va_runV (As := [.ref (adK 9)]) (rest := []) ⟨hx, hb, hml, hown, hts⟩ (ctX2_isWord l D Y bT (adK 9) (adV 9) (wL 9) (wB 9) H.size xT r19 hc20) (cwV 1 hts gX2_readLine_X2_isWord rfl rfl rfl (by decide +kernel) ⟨Nat.le_of_ble_eq_true rfl, Nat.le_of_ble_eq_true rfl⟩) (pcE_V (fun U g mk a h => sE_blind U g mk a h) (fun U hU hW => sE_go (sAll_E hE (k := 9) (by decide)) hS (va_free (ws := (cText Y bT xT ++ cTold Y hT tT)) (hD.same rfl) hS hA [0, 1] (pc_map (pc_cons rfl (pc_cons rfl pc_nil)))) hU hW.alike) (pcW_V (ci := 2) (q0 := 0) hK hP (hD.same rfl) [0, 1] rfl (pc_map (pc_cons rfl (pc_cons rfl pc_nil))) rfl rfl)) rfl rfl hl.1 rfl (lv_room (Nat.le_of_ble_eq_true rfl)) dX2_readLine_95 ⟨Nat.zero_le _, Nat.zero_le _⟩) hP (hD.same rfl) hS hA [0, 1] (pc_map (pc_cons rfl (pc_cons rfl pc_nil))) (up_new 0 rfl (up_new 1 rfl (up_old rfl rfl (up_old rfl rfl (up_old rfl rfl (up_old rfl rfl (up_old rfl rfl (up_old rfl rfl (up_old rfl rfl (up_old rfl rfl up_nil)))))))))) (fun H locs hP hS => ?_)
              refine lv_if_eq (tgt := 107) hx hb dX2_readLine_98 (by decide) (fun c21 => ?_) (fun c21 => ?_)
              · replace hM := if_at_pos hM c21
                refine lv_aload_n hx hb dX2_readLine_107 rfl (lv_at hl 1 rfl) ?_
                refine lv_aload_n hx hb dX2_readLine_108 rfl (lv_at hl 2 rfl) ?_
                obtain ⟨r22, tT_23, hc24, hM⟩ := bnd2_at hM
                refine co_i (va_runV (As := [.ref (hT 0)]) (rest := []) ⟨hx, hb, hml, hown, hts⟩ (ctX2_readPlainLaw l D Y bT hT adK adV H.size xT tT r22 tT_23 hc24) (cwV 1 hts gX2_readLine_X2_readPlainLaw rfl rfl rfl (by decide +kernel) ⟨Nat.le_of_ble_eq_true rfl, Nat.le_of_ble_eq_true rfl⟩) (pcE_V (fun U g mk a h => sAll_blind U g mk a h) (fun U hU hW => sAll_go hE hS (own_A (hD.same rfl) hS hA) hU hW) (pcW_V0 (ci := 2) (q0 := 0) hK hP (hD.same rfl) rfl rfl)) rfl rfl hl.1 rfl (lv_room (Nat.le_of_ble_eq_true rfl)) dX2_readLine_109 ⟨Nat.zero_le _, Nat.zero_le _⟩) (hD.same rfl) hS hA (fun H locs hP hS => ?_)
                obtain ⟨hz25, hM⟩ := chkB_at hM
                cases hM
                rw [hQQ]
                exact W.zret (ty := .boolean) hx hb hr hz25 (fun t ht hW => ⟨⟨_, (), rfl, rfl, by show va_P D vwCl _ t.heap; rw [ht]; exact hP⟩, hS.F ht⟩) hS.2.2 dX2_readLine_112
              · replace hM := if_at_neg hM c21
                refine lv_aload_n hx hb dX2_readLine_101 rfl (lv_at hl 2 rfl) ?_
                obtain ⟨tT_26, hc27, hM⟩ := bnd1_at hM
                refine cm_v (w2 := (cText Y bT xT ++ cTold Y hT tT_26)) (va_runV (As := []) (rest := []) ⟨hx, hb, hml, hown, hts⟩ (ctX3_removeHouses l D Y hT H.size tT tT_26 hc27) (cwV 0 hts gX2_readLine_X3_removeHouses rfl rfl rfl (by decide +kernel) ⟨Nat.le_of_ble_eq_true rfl, Nat.le_of_ble_eq_true rfl⟩) (pcW_V (ci := 3) (q0 := 2) hK hP (hD.same rfl) [2, 3, 4, 5, 6, 7, 8, 9] rfl (pc_map (pc_cons rfl (pc_cons rfl (pc_cons rfl (pc_cons rfl (pc_cons rfl (pc_cons rfl (pc_cons rfl (pc_cons rfl pc_nil))))))))) rfl rfl) rfl rfl hl.1 rfl (lv_room (Nat.le_of_ble_eq_true rfl)) dX2_readLine_102 ⟨Nat.zero_le _, Nat.zero_le _⟩) hP (hD.same rfl) hS hA [2, 3, 4, 5, 6, 7, 8, 9] (pc_map (pc_cons rfl (pc_cons rfl (pc_cons rfl (pc_cons rfl (pc_cons rfl (pc_cons rfl (pc_cons rfl (pc_cons rfl pc_nil))))))))) (up_old rfl rfl (up_old rfl rfl (up_new 0 rfl (up_new 1 rfl (up_new 2 rfl (up_new 3 rfl (up_new 4 rfl (up_new 5 rfl (up_new 6 rfl (up_new 7 rfl up_nil)))))))))) (fun H locs hP hS => ?_)
                refine lv_iconst (v := (1 : Int32)) hx hb dX2_readLine_105 (by decide) ?_
                cases hM
                rw [hQQ]
                exact W.zret (ty := .boolean) hx hb hr rfl (fun t ht hW => ⟨⟨_, (), rfl, rfl, by show va_P D vwCl _ t.heap; rw [ht]; exact hP⟩, hS.F ht⟩) hS.2.2 dX2_readLine_106
            · replace hM := if_at_neg hM c18
              refine lv_aload_n hx hb dX2_readLine_86 rfl (lv_at hl 1 rfl) ?_
              refine lv_aload_n hx hb dX2_readLine_87 rfl (lv_at hl 2 rfl) ?_
              obtain ⟨r28, xT_29, tT_30, hc31, hM⟩ := bnd3_at hM
              refine co_i (va_runV (As := [.ref (hT 0)]) (rest := []) ⟨hx, hb, hml, hown, hts⟩ (ctX2_readLot l D Y bT hT H.size xT tT r28 xT_29 tT_30 hc31) (cwV 1 hts gX2_readLine_X2_readLot rfl rfl rfl (by decide +kernel) ⟨Nat.le_of_ble_eq_true rfl, Nat.le_of_ble_eq_true rfl⟩) (pcW_V0 (ci := 2) (q0 := 0) hK hP (hD.same rfl) rfl rfl) rfl rfl hl.1 rfl (lv_room (Nat.le_of_ble_eq_true rfl)) dX2_readLine_88 ⟨Nat.zero_le _, Nat.zero_le _⟩) (hD.same rfl) hS hA (fun H locs hP hS => ?_)
              obtain ⟨hz32, hM⟩ := chkB_at hM
              cases hM
              rw [hQQ]
              exact W.zret (ty := .boolean) hx hb hr hz32 (fun t ht hW => ⟨⟨_, (), rfl, rfl, by show va_P D vwCl _ t.heap; rw [ht]; exact hP⟩, hS.F ht⟩) hS.2.2 dX2_readLine_91
          · replace hM := if_at_neg hM c15
            refine lv_aload_n hx hb dX2_readLine_71 rfl (lv_at hl 1 rfl) ?_
            refine lv_aload_n hx hb dX2_readLine_72 rfl (lv_at hl 2 rfl) ?_
            obtain ⟨r33, xT_34, tT_35, hc36, hM⟩ := bnd3_at hM
            refine co_i (va_runV (As := [.ref (hT 0)]) (rest := []) ⟨hx, hb, hml, hown, hts⟩ (ctX2_readFeud l D Y bT hT H.size xT tT r33 xT_34 tT_35 hc36) (cwV 1 hts gX2_readLine_X2_readFeud rfl rfl rfl (by decide +kernel) ⟨Nat.le_of_ble_eq_true rfl, Nat.le_of_ble_eq_true rfl⟩) (pcW_V0 (ci := 2) (q0 := 0) hK hP (hD.same rfl) rfl rfl) rfl rfl hl.1 rfl (lv_room (Nat.le_of_ble_eq_true rfl)) dX2_readLine_73 ⟨Nat.zero_le _, Nat.zero_le _⟩) (hD.same rfl) hS hA (fun H locs hP hS => ?_)
            obtain ⟨hz37, hM⟩ := chkB_at hM
            cases hM
            rw [hQQ]
            exact W.zret (ty := .boolean) hx hb hr hz37 (fun t ht hW => ⟨⟨_, (), rfl, rfl, by show va_P D vwCl _ t.heap; rw [ht]; exact hP⟩, hS.F ht⟩) hS.2.2 dX2_readLine_76
        · replace hM := if_at_neg hM c12
          refine lv_aload_n hx hb dX2_readLine_56 rfl (lv_at hl 1 rfl) ?_
          refine lv_aload_n hx hb dX2_readLine_57 rfl (lv_at hl 2 rfl) ?_
          obtain ⟨r38, xT_39, tT_40, hc41, hM⟩ := bnd3_at hM
          refine co_i (va_runV (As := [.ref (hT 0)]) (rest := []) ⟨hx, hb, hml, hown, hts⟩ (ctX2_readPath l D Y bT hT H.size xT tT r38 xT_39 tT_40 hc41) (cwV 1 hts gX2_readLine_X2_readPath rfl rfl rfl (by decide +kernel) ⟨Nat.le_of_ble_eq_true rfl, Nat.le_of_ble_eq_true rfl⟩) (pcW_V0 (ci := 2) (q0 := 0) hK hP (hD.same rfl) rfl rfl) rfl rfl hl.1 rfl (lv_room (Nat.le_of_ble_eq_true rfl)) dX2_readLine_58 ⟨Nat.zero_le _, Nat.zero_le _⟩) (hD.same rfl) hS hA (fun H locs hP hS => ?_)
          obtain ⟨hz42, hM⟩ := chkB_at hM
          cases hM
          rw [hQQ]
          exact W.zret (ty := .boolean) hx hb hr hz42 (fun t ht hW => ⟨⟨_, (), rfl, rfl, by show va_P D vwCl _ t.heap; rw [ht]; exact hP⟩, hS.F ht⟩) hS.2.2 dX2_readLine_61
      · replace hM := if_at_neg hM c9
        refine lv_aload_n hx hb dX2_readLine_40 rfl (lv_at hl 1 rfl) ?_
        refine lv_aload_n hx hb dX2_readLine_41 rfl (lv_at hl 2 rfl) ?_
        refine lv_iload_n hx hb dX2_readLine_42 rfl (lv_at hl 0 rfl) ?_
        obtain ⟨r43, xT_44, tT_45, hc46, hM⟩ := bnd3_at hM
        refine co_i (va_runV (As := [.ref (hT 0), .int r7]) (rest := []) ⟨hx, hb, hml, hown, hts⟩ (ctX2_readHouse l D Y bT hT H.size xT tT r7 r43 xT_44 tT_45 hc46) (cwV 2 hts gX2_readLine_X2_readHouse rfl rfl rfl (by decide +kernel) ⟨Nat.le_of_ble_eq_true rfl, Nat.le_of_ble_eq_true rfl⟩) (pcW_V0 (ci := 2) (q0 := 0) hK hP (hD.same rfl) rfl rfl) rfl rfl hl.1 rfl (lv_room (Nat.le_of_ble_eq_true rfl)) dX2_readLine_43 ⟨Nat.zero_le _, Nat.zero_le _⟩) (hD.same rfl) hS hA (fun H locs hP hS => ?_)
        obtain ⟨hz47, hM⟩ := chkB_at hM
        cases hM
        rw [hQQ]
        exact W.zret (ty := .boolean) hx hb hr hz47 (fun t ht hW => ⟨⟨_, (), rfl, rfl, by show va_P D vwCl _ t.heap; rw [ht]; exact hP⟩, hS.F ht⟩) hS.2.2 dX2_readLine_46
    · replace hM := if_at_neg hM c6
      refine lv_aload_n hx hb dX2_readLine_24 rfl (lv_at hl 0 rfl) ?_
      refine lv_aload_n hx hb dX2_readLine_25 rfl (lv_at hl 1 rfl) ?_
      obtain ⟨r48, xT_49, tT_50, hc51, hM⟩ := bnd3_at hM
      refine co_i (va_runV (As := [.ref (hT 0)]) (rest := []) ⟨hx, hb, hml, hown, hts⟩ (ctX2_readCrop l D Y bT hT H.size xT tT r48 xT_49 tT_50 hc51) (cwV 1 hts gX2_readLine_X2_readCrop rfl rfl rfl (by decide +kernel) ⟨Nat.le_of_ble_eq_true rfl, Nat.le_of_ble_eq_true rfl⟩) (pcW_V0 (ci := 2) (q0 := 0) hK hP (hD.same rfl) rfl rfl) rfl rfl hl.1 rfl (lv_room (Nat.le_of_ble_eq_true rfl)) dX2_readLine_26 ⟨Nat.zero_le _, Nat.zero_le _⟩) (hD.same rfl) hS hA (fun H locs hP hS => ?_)
      obtain ⟨hz52, hM⟩ := chkB_at hM
      cases hM
      rw [hQQ]
      exact W.zret (ty := .boolean) hx hb hr hz52 (fun t ht hW => ⟨⟨_, (), rfl, rfl, by show va_P D vwCl _ t.heap; rw [ht]; exact hP⟩, hS.F ht⟩) hS.2.2 dX2_readLine_29
  · replace hM := if_at_neg hM c3
    refine lv_aload_n hx hb dX2_readLine_9 rfl (lv_at hl 0 rfl) ?_
    refine lv_aload_n hx hb dX2_readLine_10 rfl (lv_at hl 1 rfl) ?_
    obtain ⟨r53, xT_54, tT_55, hc56, hM⟩ := bnd3_at hM
    refine co_i (va_runV (As := [.ref (hT 0)]) (rest := []) ⟨hx, hb, hml, hown, hts⟩ (ctX2_readGreen l D Y bT hT H.size xT tT r53 xT_54 tT_55 hc56) (cwV 1 hts gX2_readLine_X2_readGreen rfl rfl rfl (by decide +kernel) ⟨Nat.le_of_ble_eq_true rfl, Nat.le_of_ble_eq_true rfl⟩) (pcW_V0 (ci := 2) (q0 := 0) hK hP (hD.same rfl) rfl rfl) rfl rfl hl.1 rfl (lv_room (Nat.le_of_ble_eq_true rfl)) dX2_readLine_11 ⟨Nat.zero_le _, Nat.zero_le _⟩) (hD.same rfl) hS hA (fun H locs hP hS => ?_)
    obtain ⟨hz57, hM⟩ := chkB_at hM
    cases hM
    rw [hQQ]
    exact W.zret (ty := .boolean) hx hb hr hz57 (fun t ht hW => ⟨⟨_, (), rfl, rfl, by show va_P D vwCl _ t.heap; rw [ht]; exact hP⟩, hS.F ht⟩) hS.2.2 dX2_readLine_14
noncomputable def BX2_readInto_10 (k5 : GS → GS → Option (Int32 × GS × GS)) (k14 : GS → GS → Option (Int32 × GS × GS)) (k8 : GS → GS → Option (Int32 × GS × GS)) (k11 : GS → GS → Option (Int32 × GS × GS)) (rec17 : GS → GS → Option (Int32 × GS × GS)) (xT_15 : GS) (tT_16 : GS) : Option (Int32 × GS × GS) := if (12 : Int32) < (xT_15 0 2) then (k5 xT_15 tT_16) else (bnd1 (MX2_stepToToken xT_15) fun (xT_19 : GS) => bnd3 (MX2_readLine xT_19 tT_16) fun (r21 : Int32) (xT_22 : GS) (tT_23 : GS) => if r21 = 0 then (k14 xT_22 tT_23) else (bnd1 (MX2_stepToToken xT_22) fun (xT_26 : GS) => if (xT_26 0 3) < (xT_26 0 1) then (chkI (xT_26 0 3) 200 (if (xT_26 1 (xT_26 0 3).toNatClampNeg) = (59 : Int32) then (nm ((xT_26 0 2) + (1 : Int32)) fun (x31 : Int32) => nm (up2 xT_26 0 2 x31) fun (xT_32 : GS) => rec17 xT_32 tT_23) else (k8 xT_26 tT_23))) else (k11 xT_26 tT_23)))
noncomputable def MX2_readInto (xT : GS) (tT : GS) : Option (Int32 × GS × GS) := nm (up2 xT 0 4 (0 : Int32)) fun (xT_1 : GS) => nm (up2 xT_1 0 2 (1 : Int32)) fun (xT_2 : GS) => jn2 (fun (xT_3 : GS) (tT_4 : GS) => some ((xT_3 0 3), xT_3, tT_4)) (fun k5 => jn2 (fun (xT_6 : GS) (tT_7 : GS) => some ((xT_6 0 3), xT_6, tT_7)) (fun k8 => jn2 (fun (xT_9 : GS) (tT_10 : GS) => some ((-1 : Int32), xT_9, tT_10)) (fun k11 => jn2 (fun (xT_12 : GS) (tT_13 : GS) => some ((xT_12 0 3), xT_12, tT_13)) (fun k14 => lq2 (BX2_readInto_10 k5 k14 k8 k11) FU xT_2 tT))))
abbrev rmX2_readInto : Room := { frames := 9, cells := 0, slots := 0, locals := 360 }
set_option maxHeartbeats 4000000 in
set_option maxRecDepth 100000 in
theorem ctX2_readInto (l : Launch) (D : va_G) (Y : Nat → ClassId) (bT : Nat → Nat) (hT : Nat → Nat) (adK adV : Nat → Nat) (sz : Nat) (xT : GS) (tT : GS) (rr : Int32) (xTz : GS) (tTz : GS) (hM : MX2_readInto xT tT = some (rr, xTz, tTz)) : Met l yX2_readInto wsX2_readInto rmX2_readInto (pcE [.ref (bT 0), .ref (hT 0)] sz D Y (cText Y bT xT ++ cTold Y hT tT) (sAll adK adV (va_A (cText Y bT xT ++ cTold Y hT tT) sz))) (qiW rr D (cText Y bT xTz ++ cTold Y hT tTz) (va_A (cText Y bT xT ++ cTold Y hT tT) sz)) 0 0 (va_A (cText Y bT xT ++ cTold Y hT tT) sz) := by
  refine Met.ofW (cc := cX2_readInto) (maxL := 2) (ret := (some .int)) (by decide) rfl ?_
  intro p e s m args below meth c s₁ B hml hv
  obtain ⟨⟨rfl, hsz, hP, hK, hD0⟩, hE⟩ := hv
  have hx := B.exec
  have hb := B.bytes
  have hr := B.returns
  have hts := atoms_spec (ws := wsX2_readInto) B.pre
  have hown : s.vm.findClass RX2 = some m.cls := findClass_of_methodNamed B.named
  have hlocks := B.notSynchronized
  subst hsz
  have hD := hD0.self (sz := s.heap.size)
  generalize hAe : va_A (cText Y bT xT ++ cTold Y hT tT) s.heap.size = A at hD hE ⊢
  have hA : ∀ q : Nat, s.heap.size ≤ q → A q := fun q h => by rw [← hAe]; exact Or.inr h
  have hS : va_S A s.heap s.heap [] := va_S.rf
  have hi2 : ∀ w ∈ wsX20, w ∈ wsX2_readInto := fun w h => List.mem_cons_of_mem _ (List.mem_append_left _ (List.mem_append_right _ h))
  have hl := lv_entry ([.ref (bT 0), .ref (hT 0)]) (n := 2) (Nat.le_of_ble_eq_true rfl)
  rw [lg_entry_eq]
  generalize (lg_sl ([.ref (bT 0), .ref (hT 0)]) ++ List.replicate (2 - (lg_sl ([.ref (bT 0), .ref (hT 0)])).length) Slot.unset).toArray = ls at hl ⊢
  have hl : lv_has ls 2 [(0, .ref (bT 0)), (1, .ref (hT 0))] := hl
  obtain ⟨QQ, hQQ⟩ : ∃ Q : State → Prop, Q = MQ below (qiW rr D (cText Y bT xTz ++ cTold Y hT tTz) A) ([.ref (bT 0), .ref (hT 0)] : List Value).toArray s 0 0 A := ⟨_, rfl⟩
  rw [← hQQ]
  unfold MX2_readInto at hM
  suffices hI : ∀ (H : Heap) (locs : List Loc), va_P D vwCl (cText Y bT xT ++ cTold Y hT tT) H → va_S A s.heap H locs → W p l e (headSpec wsX2_readInto rmX2_readInto).room s m ([.ref (bT 0), .ref (hT 0)] : List Value).toArray below meth c H locs 0 0 QQ (F0 m 0 ls []) from hI _ _ hP hS
  clear hP hS
  intro H locs hP hS
  refine lv_aload_n hx hb dX2_readInto_0 rfl (lv_at hl 0 rfl) ?_
  refine lv_iconst (v := (0 : Int32)) hx hb dX2_readInto_1 (by decide) ?_
  refine va_put (ty := .int) hx hb hts hi2 tyX2 tyX2_ok nmX2 hown hK hP (hD.same rfl) hS 0 rfl rfl 4 (by decide) (hts (.fieldLink RX2 21 "NightPlots$Text" "tokenEnd" "I") (List.mem_of_getElem? (i := 1) rfl)) (fun _ h9 => h9) rfl (by decide +kernel) rfl rfl (Nat.le_of_ble_eq_true rfl) dX2_readInto_2 (fun H locs hP _ hS => ?_)
  obtain ⟨xT_1, exT_1⟩ : ∃ z : GS, z = (up2 xT 0 4 (0 : Int32)) := ⟨_, rfl⟩
  have hP : va_P D vwCl (cText Y bT xT_1 ++ cTold Y hT tT) H := by rw [exT_1]; exact hP
  replace hM := nm_at hM exT_1
  refine lv_aload_n hx hb dX2_readInto_5 rfl (lv_at hl 0 rfl) ?_
  refine lv_iconst (v := (1 : Int32)) hx hb dX2_readInto_6 (by decide) ?_
  refine va_put (ty := .int) hx hb hts hi2 tyX2 tyX2_ok nmX2 hown hK hP (hD.same rfl) hS 0 rfl rfl 2 (by decide) (hts (.fieldLink RX2 24 "NightPlots$Text" "lines" "I") (List.mem_of_getElem? (i := 2) rfl)) (fun _ h9 => h9) rfl (by decide +kernel) rfl rfl (Nat.le_of_ble_eq_true rfl) dX2_readInto_7 (fun H locs hP _ hS => ?_)
  obtain ⟨xT_2, exT_2⟩ : ∃ z : GS, z = (up2 xT_1 0 2 (1 : Int32)) := ⟨_, rfl⟩
  have hP : va_P D vwCl (cText Y bT xT_2 ++ cTold Y hT tT) H := by rw [exT_2]; exact hP
  replace hM := nm_at hM exT_2
  refine jn2_at (fun (xT_3 : GS) (tT_4 : GS) => ∀ (H : Heap) (locs : List Loc) (ls : Array Slot), va_P D vwCl (cText Y bT xT_3 ++ cTold Y hT tT_4) H → va_S A s.heap H locs → lv_has ls 2 [(0, .ref (bT 0))] → W p l e (headSpec wsX2_readInto rmX2_readInto).room s m ([.ref (bT 0), .ref (hT 0)] : List Value).toArray below meth c H locs 0 0 QQ (F0 m 85 ls [])) hM (fun xT_3 tT_4 hM H locs ls hP hS hl => ?_) (fun k5 hJ5 hM => ?_)
  · refine lv_aload_n hx hb dX2_readInto_85 rfl (lv_at hl 0 rfl) ?_
    refine va_get hx hb hts hi2 hown hK hP 0 rfl rfl 3 (by decide) (hts (.fieldLink RX2 34 "NightPlots$Text" "tokenBegin" "I") (List.mem_of_getElem? (i := 3) rfl)) (fun _ h9 => h9) rfl dX2_readInto_86 ?_
    cases hM
    rw [hQQ]
    exact W.iret hx hb hr (fun t ht hW => ⟨⟨_, (), rfl, rfl, by show va_P D vwCl _ t.heap; rw [ht]; exact hP⟩, hS.F ht⟩) hS.2.2 dX2_readInto_89
  · refine jn2_at (fun (xT_6 : GS) (tT_7 : GS) => ∀ (H : Heap) (locs : List Loc) (ls : Array Slot), va_P D vwCl (cText Y bT xT_6 ++ cTold Y hT tT_7) H → va_S A s.heap H locs → lv_has ls 2 [(0, .ref (bT 0))] → W p l e (headSpec wsX2_readInto rmX2_readInto).room s m ([.ref (bT 0), .ref (hT 0)] : List Value).toArray below meth c H locs 0 0 QQ (F0 m 67 ls [])) hM (fun xT_6 tT_7 hM H locs ls hP hS hl => ?_) (fun k8 hJ8 hM => ?_)
    · refine lv_aload_n hx hb dX2_readInto_67 rfl (lv_at hl 0 rfl) ?_
      refine va_get hx hb hts hi2 hown hK hP 0 rfl rfl 3 (by decide) (hts (.fieldLink RX2 34 "NightPlots$Text" "tokenBegin" "I") (List.mem_of_getElem? (i := 3) rfl)) (fun _ h9 => h9) rfl dX2_readInto_68 ?_
      cases hM
      rw [hQQ]
      exact W.iret hx hb hr (fun t ht hW => ⟨⟨_, (), rfl, rfl, by show va_P D vwCl _ t.heap; rw [ht]; exact hP⟩, hS.F ht⟩) hS.2.2 dX2_readInto_71
    · refine jn2_at (fun (xT_9 : GS) (tT_10 : GS) => ∀ (H : Heap) (locs : List Loc) (ls : Array Slot), va_P D vwCl (cText Y bT xT_9 ++ cTold Y hT tT_10) H → va_S A s.heap H locs → lv_has ls 2 [] → W p l e (headSpec wsX2_readInto rmX2_readInto).room s m ([.ref (bT 0), .ref (hT 0)] : List Value).toArray below meth c H locs 0 0 QQ (F0 m 51 ls [])) hM (fun xT_9 tT_10 hM H locs ls hP hS hl => ?_) (fun k11 hJ11 hM => ?_)
      · refine lv_iconst (v := (-1 : Int32)) hx hb dX2_readInto_51 (by decide) ?_
        cases hM
        rw [hQQ]
        exact W.iret hx hb hr (fun t ht hW => ⟨⟨_, (), rfl, rfl, by show va_P D vwCl _ t.heap; rw [ht]; exact hP⟩, hS.F ht⟩) hS.2.2 dX2_readInto_52
      · refine jn2_at (fun (xT_12 : GS) (tT_13 : GS) => ∀ (H : Heap) (locs : List Loc) (ls : Array Slot), va_P D vwCl (cText Y bT xT_12 ++ cTold Y hT tT_13) H → va_S A s.heap H locs → lv_has ls 2 [(0, .ref (bT 0))] → W p l e (headSpec wsX2_readInto rmX2_readInto).room s m ([.ref (bT 0), .ref (hT 0)] : List Value).toArray below meth c H locs 0 0 QQ (F0 m 31 ls [])) hM (fun xT_12 tT_13 hM H locs ls hP hS hl => ?_) (fun k14 hJ14 hM => ?_)
        · refine lv_aload_n hx hb dX2_readInto_31 rfl (lv_at hl 0 rfl) ?_
          refine va_get hx hb hts hi2 hown hK hP 0 rfl rfl 3 (by decide) (hts (.fieldLink RX2 34 "NightPlots$Text" "tokenBegin" "I") (List.mem_of_getElem? (i := 3) rfl)) (fun _ h9 => h9) rfl dX2_readInto_32 ?_
          cases hM
          rw [hQQ]
          exact W.iret hx hb hr (fun t ht hW => ⟨⟨_, (), rfl, rfl, by show va_P D vwCl _ t.heap; rw [ht]; exact hP⟩, hS.F ht⟩) hS.2.2 dX2_readInto_35
        · refine lq2_at (fun (xT_15 : GS) (tT_16 : GS) => ∀ (H : Heap) (locs : List Loc) (ls : Array Slot), va_P D vwCl (cText Y bT xT_15 ++ cTold Y hT tT_16) H → va_S A s.heap H locs → lv_has ls 2 [(0, .ref (bT 0)), (1, .ref (hT 0))] → W p l e (headSpec wsX2_readInto rmX2_readInto).room s m ([.ref (bT 0), .ref (hT 0)] : List Value).toArray below meth c H locs 0 0 QQ (F0 m 10 ls [])) (fun rec17 xT_15 tT_16 ih17 hM H locs ls hP hS hl => ?_) FU xT_2 tT hM H locs ls hP hS (lv_sub hl [0, 1] rfl)
          unfold BX2_readInto_10 at hM
          refine lv_aload_n hx hb dX2_readInto_10 rfl (lv_at hl 0 rfl) ?_
          refine va_get hx hb hts hi2 hown hK hP 0 rfl rfl 2 (by decide) (hts (.fieldLink RX2 24 "NightPlots$Text" "lines" "I") (List.mem_of_getElem? (i := 2) rfl)) (fun _ h9 => h9) rfl dX2_readInto_11 ?_
          refine lv_bipush (v := (12 : Int32)) hx hb dX2_readInto_14 (by decide) ?_
          refine lv_icmp_gt (tgt := 85) hx hb dX2_readInto_16 (by decide) (fun c18 => ?_) (fun c18 => ?_)
          · replace hM := if_at_pos hM c18
            exact hJ5 xT_15 tT_16 hM H locs ls hP hS (lv_sub hl [0] rfl)
          · replace hM := if_at_neg hM c18
            refine lv_aload_n hx hb dX2_readInto_19 rfl (lv_at hl 0 rfl) ?_
            obtain ⟨xT_19, hc20, hM⟩ := bnd1_at hM
            refine cm_v (w2 := (cText Y bT xT_19 ++ cTold Y hT tT_16)) (va_runV (As := []) (rest := []) ⟨hx, hb, hml, hown, hts⟩ (ctX2_stepToToken l D Y bT H.size xT_15 xT_19 hc20) (cwV 0 hts gX2_readInto_X2_stepToToken rfl rfl rfl (by decide +kernel) ⟨Nat.le_of_ble_eq_true rfl, Nat.le_of_ble_eq_true rfl⟩) (pcW_V (ci := 2) (q0 := 0) hK hP (hD.same rfl) [0, 1] rfl (pc_map (pc_cons rfl (pc_cons rfl pc_nil))) rfl rfl) rfl rfl hl.1 rfl (lv_room (Nat.le_of_ble_eq_true rfl)) dX2_readInto_20 ⟨Nat.zero_le _, Nat.zero_le _⟩) hP (hD.same rfl) hS hA [0, 1] (pc_map (pc_cons rfl (pc_cons rfl pc_nil))) (up_new 0 rfl (up_new 1 rfl (up_old rfl rfl (up_old rfl rfl (up_old rfl rfl (up_old rfl rfl (up_old rfl rfl (up_old rfl rfl (up_old rfl rfl (up_old rfl rfl up_nil)))))))))) (fun H locs hP hS => ?_)
            refine lv_aload_n hx hb dX2_readInto_23 rfl (lv_at hl 0 rfl) ?_
            refine lv_aload_n hx hb dX2_readInto_24 rfl (lv_at hl 1 rfl) ?_
            obtain ⟨r21, xT_22, tT_23, hc24, hM⟩ := bnd3_at hM
            refine co_i (va_runV (As := [.ref (hT 0)]) (rest := []) ⟨hx, hb, hml, hown, hts⟩ (ctX2_readLine l D Y bT hT adK adV H.size xT_19 tT_16 r21 xT_22 tT_23 hc24) (cwV 1 hts gX2_readInto_X2_readLine rfl rfl rfl (by decide +kernel) ⟨Nat.le_of_ble_eq_true rfl, Nat.le_of_ble_eq_true rfl⟩) (pcE_V (fun U g mk a h => sAll_blind U g mk a h) (fun U hU hW => sAll_go hE hS (own_A (hD.same rfl) hS hA) hU hW) (pcW_V0 (ci := 2) (q0 := 0) hK hP (hD.same rfl) rfl rfl)) rfl rfl hl.1 rfl (lv_room (Nat.le_of_ble_eq_true rfl)) dX2_readInto_25 ⟨Nat.zero_le _, Nat.zero_le _⟩) (hD.same rfl) hS hA (fun H locs hP hS => ?_)
            refine lv_if_ne (tgt := 36) hx hb dX2_readInto_28 (by decide) (fun c25 => ?_) (fun c25 => ?_)
            · replace hM := if_at_neg hM c25
              refine lv_aload_n hx hb dX2_readInto_36 rfl (lv_at hl 0 rfl) ?_
              obtain ⟨xT_26, hc27, hM⟩ := bnd1_at hM
              refine cm_v (w2 := (cText Y bT xT_26 ++ cTold Y hT tT_23)) (va_runV (As := []) (rest := []) ⟨hx, hb, hml, hown, hts⟩ (ctX2_stepToToken l D Y bT H.size xT_22 xT_26 hc27) (cwV 0 hts gX2_readInto_X2_stepToToken rfl rfl rfl (by decide +kernel) ⟨Nat.le_of_ble_eq_true rfl, Nat.le_of_ble_eq_true rfl⟩) (pcW_V (ci := 2) (q0 := 0) hK hP (hD.same rfl) [0, 1] rfl (pc_map (pc_cons rfl (pc_cons rfl pc_nil))) rfl rfl) rfl rfl hl.1 rfl (lv_room (Nat.le_of_ble_eq_true rfl)) dX2_readInto_37 ⟨Nat.zero_le _, Nat.zero_le _⟩) hP (hD.same rfl) hS hA [0, 1] (pc_map (pc_cons rfl (pc_cons rfl pc_nil))) (up_new 0 rfl (up_new 1 rfl (up_old rfl rfl (up_old rfl rfl (up_old rfl rfl (up_old rfl rfl (up_old rfl rfl (up_old rfl rfl (up_old rfl rfl (up_old rfl rfl up_nil)))))))))) (fun H locs hP hS => ?_)
              refine lv_aload_n hx hb dX2_readInto_40 rfl (lv_at hl 0 rfl) ?_
              refine va_get hx hb hts hi2 hown hK hP 0 rfl rfl 3 (by decide) (hts (.fieldLink RX2 34 "NightPlots$Text" "tokenBegin" "I") (List.mem_of_getElem? (i := 3) rfl)) (fun _ h9 => h9) rfl dX2_readInto_41 ?_
              refine lv_aload_n hx hb dX2_readInto_44 rfl (lv_at hl 0 rfl) ?_
              refine va_get hx hb hts hi2 hown hK hP 0 rfl rfl 1 (by decide) (hts (.fieldLink RX2 15 "NightPlots$Text" "length" "I") (List.mem_of_getElem? (i := 4) rfl)) (fun _ h9 => h9) rfl dX2_readInto_45 ?_
              refine lv_icmp_lt (tgt := 53) hx hb dX2_readInto_48 (by decide) (fun c28 => ?_) (fun c28 => ?_)
              · replace hM := if_at_pos hM c28
                refine lv_aload_n hx hb dX2_readInto_53 rfl (lv_at hl 0 rfl) ?_
                refine va_get hx hb hts hi2 hown hK hP 0 rfl rfl 0 (by decide) (hts (.fieldLink RX2 9 "NightPlots$Text" "bytes" "[I") (List.mem_of_getElem? (i := 5) rfl)) (fun _ h9 => h9) rfl dX2_readInto_54 ?_
                refine lv_aload_n hx hb dX2_readInto_57 rfl (lv_at hl 0 rfl) ?_
                refine va_get hx hb hts hi2 hown hK hP 0 rfl rfl 3 (by decide) (hts (.fieldLink RX2 34 "NightPlots$Text" "tokenBegin" "I") (List.mem_of_getElem? (i := 3) rfl)) (fun _ h9 => h9) rfl dX2_readInto_58 ?_
                obtain ⟨hi_29, hM⟩ := chkI_at hM
                refine va_iald hx hb hK hP 1 0 rfl rfl hi_29 dX2_readInto_61 ?_
                refine lv_bipush (v := (59 : Int32)) hx hb dX2_readInto_62 (by decide) ?_
                refine lv_icmp_eq (tgt := 72) hx hb dX2_readInto_64 (by decide) (fun c30 => ?_) (fun c30 => ?_)
                · replace hM := if_at_pos hM c30
                  refine lv_aload_n hx hb dX2_readInto_72 rfl (lv_at hl 0 rfl) ?_
                  refine lv_dup hx hb dX2_readInto_73 rfl ?_
                  refine va_get hx hb hts hi2 hown hK hP 0 rfl rfl 2 (by decide) (hts (.fieldLink RX2 24 "NightPlots$Text" "lines" "I") (List.mem_of_getElem? (i := 2) rfl)) (fun _ h9 => h9) rfl dX2_readInto_74 ?_
                  refine lv_iconst (v := (1 : Int32)) hx hb dX2_readInto_77 (by decide) ?_
                  refine lv_iadd hx hb dX2_readInto_78 ?_
                  refine lv_topi (fun x31 ex31 => ?_)
                  replace hM := nm_at hM ex31
                  refine va_put (ty := .int) hx hb hts hi2 tyX2 tyX2_ok nmX2 hown hK hP (hD.same rfl) hS 0 rfl rfl 2 (by decide) (hts (.fieldLink RX2 24 "NightPlots$Text" "lines" "I") (List.mem_of_getElem? (i := 2) rfl)) (fun _ h9 => h9) rfl (by decide +kernel) rfl rfl (Nat.le_of_ble_eq_true rfl) dX2_readInto_79 (fun H locs hP _ hS => ?_)
                  obtain ⟨xT_32, exT_32⟩ : ∃ z : GS, z = (up2 xT_26 0 2 x31) := ⟨_, rfl⟩
                  have hP : va_P D vwCl (cText Y bT xT_32 ++ cTold Y hT tT_23) H := by rw [exT_32]; exact hP
                  replace hM := nm_at hM exT_32
                  refine lv_goto (tgt := 10) hx hb dX2_readInto_82 (by decide) ?_
                  exact ih17 xT_32 tT_23 hM H locs ls hP hS (lv_sub hl [0, 1] rfl)
                · replace hM := if_at_neg hM c30
                  exact hJ8 xT_26 tT_23 hM H locs ls hP hS (lv_sub hl [0] rfl)
              · replace hM := if_at_neg hM c28
                exact hJ11 xT_26 tT_23 hM H locs ls hP hS (lv_sub hl [] rfl)
            · replace hM := if_at_pos hM c25
              exact hJ14 xT_22 tT_23 hM H locs ls hP hS (lv_sub hl [0] rfl)
