noncomputable def MX2_plainLawHere (xT : GS) : Option (Int32) := bnd1 (MX2_isWord (wL 10) (wB 10) xT) fun (r1 : Int32) => if r1 = 0 then (bnd1 (MX2_isWord (wL 11) (wB 11) xT) fun (r4 : Int32) => if r4 = 0 then (bnd1 (MX2_isWord (wL 12) (wB 12) xT) fun (r7 : Int32) => jn1 (fun (x9 : Int32) => some (x9)) (fun k10 => if r7 = 0 then (k10 (-1 : Int32)) else (k10 (2 : Int32)))) else (some ((1 : Int32)))) else (some ((0 : Int32)))
abbrev rmX2_plainLawHere : Room := { frames := 6, cells := 0, slots := 0, locals := 240 }
set_option maxHeartbeats 4000000 in
set_option maxRecDepth 100000 in
theorem ctX2_plainLawHere (l : Launch) (D : va_G) (Y : Nat → ClassId) (bT : Nat → Nat) (adK adV : Nat → Nat) (sz : Nat) (xT : GS) (rr : Int32) (hM : MX2_plainLawHere xT = some (rr)) : Met l yX2_plainLawHere wsX2_plainLawHere rmX2_plainLawHere (pcE [.ref (bT 0)] sz D Y (cText Y bT xT) (sAll adK adV (va_A (cText Y bT xT) sz))) (qiW rr D (cText Y bT xT) (va_A (cText Y bT xT) sz)) 0 0 (va_A (cText Y bT xT) sz) := by
  refine Met.ofW (cc := cX2_plainLawHere) (maxL := 1) (ret := (some .int)) (by decide) rfl ?_
  intro p e s m args below meth c s₁ B hml hv
  obtain ⟨⟨rfl, hsz, hP, hK, hD0⟩, hE⟩ := hv
  have hx := B.exec
  have hb := B.bytes
  have hr := B.returns
  have hts := atoms_spec (ws := wsX2_plainLawHere) B.pre
  have hown : s.vm.findClass RX2 = some m.cls := findClass_of_methodNamed B.named
  have hlocks := B.notSynchronized
  subst hsz
  have hD := hD0.self (sz := s.heap.size)
  generalize hAe : va_A (cText Y bT xT) s.heap.size = A at hD hE ⊢
  have hA : ∀ q : Nat, s.heap.size ≤ q → A q := fun q h => by rw [← hAe]; exact Or.inr h
  have hS : va_S A s.heap s.heap [] := va_S.rf
  have hl := lv_entry ([.ref (bT 0)]) (n := 1) (Nat.le_of_ble_eq_true rfl)
  rw [lg_entry_eq]
  generalize (lg_sl ([.ref (bT 0)]) ++ List.replicate (1 - (lg_sl ([.ref (bT 0)])).length) Slot.unset).toArray = ls at hl ⊢
  have hl : lv_has ls 1 [(0, .ref (bT 0))] := hl
  obtain ⟨QQ, hQQ⟩ : ∃ Q : State → Prop, Q = MQ below (qiW rr D (cText Y bT xT) A) ([.ref (bT 0)] : List Value).toArray s 0 0 A := ⟨_, rfl⟩
  rw [← hQQ]
  unfold MX2_plainLawHere at hM
  suffices hI : ∀ (H : Heap) (locs : List Loc), va_P D vwCl (cText Y bT xT) H → va_S A s.heap H locs → W p l e (headSpec wsX2_plainLawHere rmX2_plainLawHere).room s m ([.ref (bT 0)] : List Value).toArray below meth c H locs 0 0 QQ (F0 m 0 ls []) from hI _ _ hP hS
  clear hP hS
  intro H locs hP hS
  refine lv_aload_n hx hb dX2_plainLawHere_0 rfl (lv_at hl 0 rfl) ?_
  refine va_ldcS hx hb hown (hE.2.1 10 (by decide)) dX2_plainLawHere_1 ?_
  obtain ⟨r1, hc2, hM⟩ := bnd1_at hM
  refine co_i (va_runV (As := [.ref (adK 10)]) (rest := []) ⟨hx, hb, hml, hown, hts⟩ (ctX2_isWord l D Y bT (adK 10) (adV 10) (wL 10) (wB 10) H.size xT r1 hc2) (cwV 1 hts gX2_plainLawHere_X2_isWord rfl rfl rfl (by decide +kernel) ⟨Nat.le_of_ble_eq_true rfl, Nat.le_of_ble_eq_true rfl⟩) (pcE_V (fun U g mk a h => sE_blind U g mk a h) (fun U hU hW => sE_go (sAll_E hE (k := 10) (by decide)) hS (own_A (hD.same rfl) hS hA) hU hW.alike) (pcW_V0 (ci := 2) (q0 := 0) hK hP (hD.same rfl) rfl rfl)) rfl rfl hl.1 rfl (lv_room (Nat.le_of_ble_eq_true rfl)) dX2_plainLawHere_3 ⟨Nat.zero_le _, Nat.zero_le _⟩) (hD.same rfl) hS hA (fun H locs hP hS => ?_)
  refine lv_if_eq (tgt := 11) hx hb dX2_plainLawHere_6 (by decide) (fun c3 => ?_) (fun c3 => ?_)
  · replace hM := if_at_pos hM c3
    refine lv_aload_n hx hb dX2_plainLawHere_11 rfl (lv_at hl 0 rfl) ?_
    refine va_ldcS hx hb hown (hE.2.1 11 (by decide)) dX2_plainLawHere_12 ?_
    obtain ⟨r4, hc5, hM⟩ := bnd1_at hM
    refine co_i (va_runV (As := [.ref (adK 11)]) (rest := []) ⟨hx, hb, hml, hown, hts⟩ (ctX2_isWord l D Y bT (adK 11) (adV 11) (wL 11) (wB 11) H.size xT r4 hc5) (cwV 1 hts gX2_plainLawHere_X2_isWord rfl rfl rfl (by decide +kernel) ⟨Nat.le_of_ble_eq_true rfl, Nat.le_of_ble_eq_true rfl⟩) (pcE_V (fun U g mk a h => sE_blind U g mk a h) (fun U hU hW => sE_go (sAll_E hE (k := 11) (by decide)) hS (own_A (hD.same rfl) hS hA) hU hW.alike) (pcW_V0 (ci := 2) (q0 := 0) hK hP (hD.same rfl) rfl rfl)) rfl rfl hl.1 rfl (lv_room (Nat.le_of_ble_eq_true rfl)) dX2_plainLawHere_14 ⟨Nat.zero_le _, Nat.zero_le _⟩) (hD.same rfl) hS hA (fun H locs hP hS => ?_)
    refine lv_if_eq (tgt := 22) hx hb dX2_plainLawHere_17 (by decide) (fun c6 => ?_) (fun c6 => ?_)
    · replace hM := if_at_pos hM c6
      refine lv_aload_n hx hb dX2_plainLawHere_22 rfl (lv_at hl 0 rfl) ?_
      refine va_ldcS hx hb hown (hE.2.1 12 (by decide)) dX2_plainLawHere_23 ?_
      obtain ⟨r7, hc8, hM⟩ := bnd1_at hM
      refine co_i (va_runV (As := [.ref (adK 12)]) (rest := []) ⟨hx, hb, hml, hown, hts⟩ (ctX2_isWord l D Y bT (adK 12) (adV 12) (wL 12) (wB 12) H.size xT r7 hc8) (cwV 1 hts gX2_plainLawHere_X2_isWord rfl rfl rfl (by decide +kernel) ⟨Nat.le_of_ble_eq_true rfl, Nat.le_of_ble_eq_true rfl⟩) (pcE_V (fun U g mk a h => sE_blind U g mk a h) (fun U hU hW => sE_go (sAll_E hE (k := 12) (by decide)) hS (own_A (hD.same rfl) hS hA) hU hW.alike) (pcW_V0 (ci := 2) (q0 := 0) hK hP (hD.same rfl) rfl rfl)) rfl rfl hl.1 rfl (lv_room (Nat.le_of_ble_eq_true rfl)) dX2_plainLawHere_25 ⟨Nat.zero_le _, Nat.zero_le _⟩) (hD.same rfl) hS hA (fun H locs hP hS => ?_)
      refine jn1_at (fun (x9 : Int32) => ∀ (H : Heap) (locs : List Loc) (ls : Array Slot), va_P D vwCl (cText Y bT xT) H → va_S A s.heap H locs → lv_has ls 1 [] → W p l e (headSpec wsX2_plainLawHere rmX2_plainLawHere).room s m ([.ref (bT 0)] : List Value).toArray below meth c H locs 0 0 QQ (F0 m 36 ls [.int x9])) hM (fun x9 hM H locs ls hP hS hl => ?_) (fun k10 hJ10 hM => ?_)
      · cases hM
        rw [hQQ]
        exact W.iret hx hb hr (fun t ht hW => ⟨⟨_, (), rfl, rfl, by show va_P D vwCl _ t.heap; rw [ht]; exact hP⟩, hS.F ht⟩) hS.2.2 dX2_plainLawHere_36
      · refine lv_if_eq (tgt := 35) hx hb dX2_plainLawHere_28 (by decide) (fun c11 => ?_) (fun c11 => ?_)
        · replace hM := if_at_pos hM c11
          refine lv_iconst (v := (-1 : Int32)) hx hb dX2_plainLawHere_35 (by decide) ?_
          exact hJ10 (-1 : Int32) hM H locs ls hP hS (lv_sub hl [] rfl)
        · replace hM := if_at_neg hM c11
          refine lv_iconst (v := (2 : Int32)) hx hb dX2_plainLawHere_31 (by decide) ?_
          refine lv_goto (tgt := 36) hx hb dX2_plainLawHere_32 (by decide) ?_
          exact hJ10 (2 : Int32) hM H locs ls hP hS (lv_sub hl [] rfl)
    · replace hM := if_at_neg hM c6
      refine lv_iconst (v := (1 : Int32)) hx hb dX2_plainLawHere_20 (by decide) ?_
      cases hM
      rw [hQQ]
      exact W.iret hx hb hr (fun t ht hW => ⟨⟨_, (), rfl, rfl, by show va_P D vwCl _ t.heap; rw [ht]; exact hP⟩, hS.F ht⟩) hS.2.2 dX2_plainLawHere_21
  · replace hM := if_at_neg hM c3
    refine lv_iconst (v := (0 : Int32)) hx hb dX2_plainLawHere_9 (by decide) ?_
    cases hM
    rw [hQQ]
    exact W.iret hx hb hr (fun t ht hW => ⟨⟨_, (), rfl, rfl, by show va_P D vwCl _ t.heap; rw [ht]; exact hP⟩, hS.F ht⟩) hS.2.2 dX2_plainLawHere_10
noncomputable def MX2_readPlainLaw (xT : GS) (tT : GS) : Option (Int32 × GS) := bnd1 (MX2_plainLawHere xT) fun (r1 : Int32) => if r1 = (-1 : Int32) then (some ((0 : Int32), tT)) else (nm (up2 tT 0 4 r1) fun (tT_4 : GS) => some ((1 : Int32), tT_4))
abbrev rmX2_readPlainLaw : Room := { frames := 7, cells := 0, slots := 0, locals := 280 }
set_option maxHeartbeats 4000000 in
set_option maxRecDepth 100000 in
theorem ctX2_readPlainLaw (l : Launch) (D : va_G) (Y : Nat → ClassId) (bT : Nat → Nat) (hT : Nat → Nat) (adK adV : Nat → Nat) (sz : Nat) (xT : GS) (tT : GS) (rr : Int32) (tTz : GS) (hM : MX2_readPlainLaw xT tT = some (rr, tTz)) : Met l yX2_readPlainLaw wsX2_readPlainLaw rmX2_readPlainLaw (pcE [.ref (bT 0), .ref (hT 0)] sz D Y (cText Y bT xT ++ cTold Y hT tT) (sAll adK adV (va_A (cText Y bT xT ++ cTold Y hT tT) sz))) (qiW rr D (cText Y bT xT ++ cTold Y hT tTz) (va_A (cText Y bT xT ++ cTold Y hT tT) sz)) 0 0 (va_A (cText Y bT xT ++ cTold Y hT tT) sz) := by
  refine Met.ofW (cc := cX2_readPlainLaw) (maxL := 3) (ret := (some .boolean)) (by decide) rfl ?_
  intro p e s m args below meth c s₁ B hml hv
  obtain ⟨⟨rfl, hsz, hP, hK, hD0⟩, hE⟩ := hv
  have hx := B.exec
  have hb := B.bytes
  have hr := B.returns
  have hts := atoms_spec (ws := wsX2_readPlainLaw) B.pre
  have hown : s.vm.findClass RX2 = some m.cls := findClass_of_methodNamed B.named
  have hlocks := B.notSynchronized
  subst hsz
  have hD := hD0.self (sz := s.heap.size)
  generalize hAe : va_A (cText Y bT xT ++ cTold Y hT tT) s.heap.size = A at hD hE ⊢
  have hA : ∀ q : Nat, s.heap.size ≤ q → A q := fun q h => by rw [← hAe]; exact Or.inr h
  have hS : va_S A s.heap s.heap [] := va_S.rf
  have hi3 : ∀ w ∈ wsX30, w ∈ wsX2_readPlainLaw := fun w h => List.mem_cons_of_mem _ (List.mem_append_left _ (List.mem_append_right _ h))
  have hl := lv_entry ([.ref (bT 0), .ref (hT 0)]) (n := 3) (Nat.le_of_ble_eq_true rfl)
  rw [lg_entry_eq]
  generalize (lg_sl ([.ref (bT 0), .ref (hT 0)]) ++ List.replicate (3 - (lg_sl ([.ref (bT 0), .ref (hT 0)])).length) Slot.unset).toArray = ls at hl ⊢
  have hl : lv_has ls 3 [(0, .ref (bT 0)), (1, .ref (hT 0))] := hl
  obtain ⟨QQ, hQQ⟩ : ∃ Q : State → Prop, Q = MQ below (qiW rr D (cText Y bT xT ++ cTold Y hT tTz) A) ([.ref (bT 0), .ref (hT 0)] : List Value).toArray s 0 0 A := ⟨_, rfl⟩
  rw [← hQQ]
  unfold MX2_readPlainLaw at hM
  suffices hI : ∀ (H : Heap) (locs : List Loc), va_P D vwCl (cText Y bT xT ++ cTold Y hT tT) H → va_S A s.heap H locs → W p l e (headSpec wsX2_readPlainLaw rmX2_readPlainLaw).room s m ([.ref (bT 0), .ref (hT 0)] : List Value).toArray below meth c H locs 0 0 QQ (F0 m 0 ls []) from hI _ _ hP hS
  clear hP hS
  intro H locs hP hS
  refine lv_aload_n hx hb dX2_readPlainLaw_0 rfl (lv_at hl 0 rfl) ?_
  obtain ⟨r1, hc2, hM⟩ := bnd1_at hM
  refine cm_i (w2 := (cText Y bT xT ++ cTold Y hT tT)) (va_runV (As := []) (rest := []) ⟨hx, hb, hml, hown, hts⟩ (ctX2_plainLawHere l D Y bT adK adV H.size xT r1 hc2) (cwV 0 hts gX2_readPlainLaw_X2_plainLawHere rfl rfl rfl (by decide +kernel) ⟨Nat.le_of_ble_eq_true rfl, Nat.le_of_ble_eq_true rfl⟩) (pcE_V (fun U g mk a h => sAll_blind U g mk a h) (fun U hU hW => sAll_go hE hS (va_free (ws := (cText Y bT xT ++ cTold Y hT tT)) (hD.same rfl) hS hA [0, 1] (pc_map (pc_cons rfl (pc_cons rfl pc_nil)))) hU hW) (pcW_V (ci := 2) (q0 := 0) hK hP (hD.same rfl) [0, 1] rfl (pc_map (pc_cons rfl (pc_cons rfl pc_nil))) rfl rfl)) rfl rfl hl.1 rfl (lv_room (Nat.le_of_ble_eq_true rfl)) dX2_readPlainLaw_1 ⟨Nat.zero_le _, Nat.zero_le _⟩) hP (hD.same rfl) hS hA [0, 1] (pc_map (pc_cons rfl (pc_cons rfl pc_nil))) (up_new 0 rfl (up_new 1 rfl (up_old rfl rfl (up_old rfl rfl (up_old rfl rfl (up_old rfl rfl (up_old rfl rfl (up_old rfl rfl (up_old rfl rfl (up_old rfl rfl up_nil)))))))))) (fun H locs hP hS => ?_)
  refine lv_istore_n (lv' := [(2, .int r1), (0, .ref (bT 0)), (1, .ref (hT 0))]) hx hb dX2_readPlainLaw_4 rfl hl (by decide) rfl (fun ls hl => ?_)
  refine lv_iload_n hx hb dX2_readPlainLaw_5 rfl (lv_at hl 0 rfl) ?_
  refine lv_iconst (v := (-1 : Int32)) hx hb dX2_readPlainLaw_6 (by decide) ?_
  refine lv_icmp_ne (tgt := 12) hx hb dX2_readPlainLaw_7 (by decide) (fun c3 => ?_) (fun c3 => ?_)
  · replace hM := if_at_neg hM c3
    refine lv_aload_n hx hb dX2_readPlainLaw_12 rfl (lv_at hl 2 rfl) ?_
    refine lv_iload_n hx hb dX2_readPlainLaw_13 rfl (lv_at hl 0 rfl) ?_
    refine va_put (ty := .int) hx hb hts hi3 tyX3 tyX3_ok nmX3 hown hK hP (hD.same rfl) hS 2 rfl rfl 4 (by decide) (hts (.fieldLink RX2 116 "NightPlots$Told" "law" "I") (List.mem_of_getElem? (i := 1) rfl)) (fun _ h9 => h9) rfl (by decide +kernel) rfl rfl (Nat.le_of_ble_eq_true rfl) dX2_readPlainLaw_14 (fun H locs hP _ hS => ?_)
    obtain ⟨tT_4, etT_4⟩ : ∃ z : GS, z = (up2 tT 0 4 r1) := ⟨_, rfl⟩
    have hP : va_P D vwCl (cText Y bT xT ++ cTold Y hT tT_4) H := by rw [etT_4]; exact hP
    replace hM := nm_at hM etT_4
    refine lv_iconst (v := (1 : Int32)) hx hb dX2_readPlainLaw_17 (by decide) ?_
    cases hM
    rw [hQQ]
    exact W.zret (ty := .boolean) hx hb hr rfl (fun t ht hW => ⟨⟨_, (), rfl, rfl, by show va_P D vwCl _ t.heap; rw [ht]; exact hP⟩, hS.F ht⟩) hS.2.2 dX2_readPlainLaw_18
  · replace hM := if_at_pos hM c3
    refine lv_iconst (v := (0 : Int32)) hx hb dX2_readPlainLaw_10 (by decide) ?_
    cases hM
    rw [hQQ]
    exact W.zret (ty := .boolean) hx hb hr rfl (fun t ht hW => ⟨⟨_, (), rfl, rfl, by show va_P D vwCl _ t.heap; rw [ht]; exact hP⟩, hS.F ht⟩) hS.2.2 dX2_readPlainLaw_11
noncomputable def MX2_readLot (xT : GS) (tT : GS) : Option (Int32 × GS × GS) := bnd2 (MX2_readNumber xT (1 : Int32) (9999 : Int32) (4 : Int32)) fun (r1 : Int32) (xT_2 : GS) => if r1 = (-1 : Int32) then (some ((0 : Int32), xT_2, tT)) else (nm (up2 tT 0 4 (3 : Int32)) fun (tT_5 : GS) => nm (up2 tT_5 0 5 r1) fun (tT_6 : GS) => some ((1 : Int32), xT_2, tT_6))
abbrev rmX2_readLot : Room := { frames := 4, cells := 0, slots := 0, locals := 160 }
set_option maxHeartbeats 4000000 in
set_option maxRecDepth 100000 in
theorem ctX2_readLot (l : Launch) (D : va_G) (Y : Nat → ClassId) (bT : Nat → Nat) (hT : Nat → Nat) (sz : Nat) (xT : GS) (tT : GS) (rr : Int32) (xTz : GS) (tTz : GS) (hM : MX2_readLot xT tT = some (rr, xTz, tTz)) : Met l yX2_readLot wsX2_readLot rmX2_readLot (pcW [.ref (bT 0), .ref (hT 0)] sz D Y (cText Y bT xT ++ cTold Y hT tT)) (qiW rr D (cText Y bT xTz ++ cTold Y hT tTz) (va_A (cText Y bT xT ++ cTold Y hT tT) sz)) 0 0 (va_A (cText Y bT xT ++ cTold Y hT tT) sz) := by
  refine Met.ofW (cc := cX2_readLot) (maxL := 3) (ret := (some .boolean)) (by decide) rfl ?_
  intro p e s m args below meth c s₁ B hml hv
  obtain ⟨rfl, hsz, hP, hK, hD0⟩ := hv
  have hx := B.exec
  have hb := B.bytes
  have hr := B.returns
  have hts := atoms_spec (ws := wsX2_readLot) B.pre
  have hown : s.vm.findClass RX2 = some m.cls := findClass_of_methodNamed B.named
  have hlocks := B.notSynchronized
  subst hsz
  have hD := hD0.self (sz := s.heap.size)
  generalize hAe : va_A (cText Y bT xT ++ cTold Y hT tT) s.heap.size = A at hD ⊢
  have hA : ∀ q : Nat, s.heap.size ≤ q → A q := fun q h => by rw [← hAe]; exact Or.inr h
  have hS : va_S A s.heap s.heap [] := va_S.rf
  have hi3 : ∀ w ∈ wsX30, w ∈ wsX2_readLot := fun w h => List.mem_cons_of_mem _ (List.mem_append_left _ (List.mem_append_right _ h))
  have hl := lv_entry ([.ref (bT 0), .ref (hT 0)]) (n := 3) (Nat.le_of_ble_eq_true rfl)
  rw [lg_entry_eq]
  generalize (lg_sl ([.ref (bT 0), .ref (hT 0)]) ++ List.replicate (3 - (lg_sl ([.ref (bT 0), .ref (hT 0)])).length) Slot.unset).toArray = ls at hl ⊢
  have hl : lv_has ls 3 [(0, .ref (bT 0)), (1, .ref (hT 0))] := hl
  obtain ⟨QQ, hQQ⟩ : ∃ Q : State → Prop, Q = MQ below (qiW rr D (cText Y bT xTz ++ cTold Y hT tTz) A) ([.ref (bT 0), .ref (hT 0)] : List Value).toArray s 0 0 A := ⟨_, rfl⟩
  rw [← hQQ]
  unfold MX2_readLot at hM
  suffices hI : ∀ (H : Heap) (locs : List Loc), va_P D vwCl (cText Y bT xT ++ cTold Y hT tT) H → va_S A s.heap H locs → W p l e (headSpec wsX2_readLot rmX2_readLot).room s m ([.ref (bT 0), .ref (hT 0)] : List Value).toArray below meth c H locs 0 0 QQ (F0 m 0 ls []) from hI _ _ hP hS
  clear hP hS
  intro H locs hP hS
  refine lv_aload_n hx hb dX2_readLot_0 rfl (lv_at hl 0 rfl) ?_
  refine lv_iconst (v := (1 : Int32)) hx hb dX2_readLot_1 (by decide) ?_
  refine lv_sipush (v := (9999 : Int32)) hx hb dX2_readLot_2 (by decide) ?_
  refine lv_iconst (v := (4 : Int32)) hx hb dX2_readLot_5 (by decide) ?_
  obtain ⟨r1, xT_2, hc3, hM⟩ := bnd2_at hM
  refine cm_i (w2 := (cText Y bT xT_2 ++ cTold Y hT tT)) (va_runV (As := [.int (1 : Int32), .int (9999 : Int32), .int (4 : Int32)]) (rest := []) ⟨hx, hb, hml, hown, hts⟩ (ctX2_readNumber l D Y bT H.size xT (1 : Int32) (9999 : Int32) (4 : Int32) r1 xT_2 hc3) (cwV 3 hts gX2_readLot_X2_readNumber rfl rfl rfl (by decide +kernel) ⟨Nat.le_of_ble_eq_true rfl, Nat.le_of_ble_eq_true rfl⟩) (pcW_V (ci := 2) (q0 := 0) hK hP (hD.same rfl) [0, 1] rfl (pc_map (pc_cons rfl (pc_cons rfl pc_nil))) rfl rfl) rfl rfl hl.1 rfl (lv_room (Nat.le_of_ble_eq_true rfl)) dX2_readLot_6 ⟨Nat.zero_le _, Nat.zero_le _⟩) hP (hD.same rfl) hS hA [0, 1] (pc_map (pc_cons rfl (pc_cons rfl pc_nil))) (up_new 0 rfl (up_new 1 rfl (up_old rfl rfl (up_old rfl rfl (up_old rfl rfl (up_old rfl rfl (up_old rfl rfl (up_old rfl rfl (up_old rfl rfl (up_old rfl rfl up_nil)))))))))) (fun H locs hP hS => ?_)
  refine lv_istore_n (lv' := [(2, .int r1), (0, .ref (bT 0)), (1, .ref (hT 0))]) hx hb dX2_readLot_9 rfl hl (by decide) rfl (fun ls hl => ?_)
  refine lv_iload_n hx hb dX2_readLot_10 rfl (lv_at hl 0 rfl) ?_
  refine lv_iconst (v := (-1 : Int32)) hx hb dX2_readLot_11 (by decide) ?_
  refine lv_icmp_ne (tgt := 17) hx hb dX2_readLot_12 (by decide) (fun c4 => ?_) (fun c4 => ?_)
  · replace hM := if_at_neg hM c4
    refine lv_aload_n hx hb dX2_readLot_17 rfl (lv_at hl 2 rfl) ?_
    refine lv_iconst (v := (3 : Int32)) hx hb dX2_readLot_18 (by decide) ?_
    refine va_put (ty := .int) hx hb hts hi3 tyX3 tyX3_ok nmX3 hown hK hP (hD.same rfl) hS 2 rfl rfl 4 (by decide) (hts (.fieldLink RX2 116 "NightPlots$Told" "law" "I") (List.mem_of_getElem? (i := 1) rfl)) (fun _ h9 => h9) rfl (by decide +kernel) rfl rfl (Nat.le_of_ble_eq_true rfl) dX2_readLot_19 (fun H locs hP _ hS => ?_)
    obtain ⟨tT_5, etT_5⟩ : ∃ z : GS, z = (up2 tT 0 4 (3 : Int32)) := ⟨_, rfl⟩
    have hP : va_P D vwCl (cText Y bT xT_2 ++ cTold Y hT tT_5) H := by rw [etT_5]; exact hP
    replace hM := nm_at hM etT_5
    refine lv_aload_n hx hb dX2_readLot_22 rfl (lv_at hl 2 rfl) ?_
    refine lv_iload_n hx hb dX2_readLot_23 rfl (lv_at hl 0 rfl) ?_
    refine va_put (ty := .int) hx hb hts hi3 tyX3 tyX3_ok nmX3 hown hK hP (hD.same rfl) hS 2 rfl rfl 5 (by decide) (hts (.fieldLink RX2 119 "NightPlots$Told" "seed" "I") (List.mem_of_getElem? (i := 2) rfl)) (fun _ h9 => h9) rfl (by decide +kernel) rfl rfl (Nat.le_of_ble_eq_true rfl) dX2_readLot_24 (fun H locs hP _ hS => ?_)
    obtain ⟨tT_6, etT_6⟩ : ∃ z : GS, z = (up2 tT_5 0 5 r1) := ⟨_, rfl⟩
    have hP : va_P D vwCl (cText Y bT xT_2 ++ cTold Y hT tT_6) H := by rw [etT_6]; exact hP
    replace hM := nm_at hM etT_6
    refine lv_iconst (v := (1 : Int32)) hx hb dX2_readLot_27 (by decide) ?_
    cases hM
    rw [hQQ]
    exact W.zret (ty := .boolean) hx hb hr rfl (fun t ht hW => ⟨⟨_, (), rfl, rfl, by show va_P D vwCl _ t.heap; rw [ht]; exact hP⟩, hS.F ht⟩) hS.2.2 dX2_readLot_28
  · replace hM := if_at_pos hM c4
    refine lv_iconst (v := (0 : Int32)) hx hb dX2_readLot_15 (by decide) ?_
    cases hM
    rw [hQQ]
    exact W.zret (ty := .boolean) hx hb hr rfl (fun t ht hW => ⟨⟨_, (), rfl, rfl, by show va_P D vwCl _ t.heap; rw [ht]; exact hP⟩, hS.F ht⟩) hS.2.2 dX2_readLot_16
noncomputable def MX2_readFeud (xT : GS) (tT : GS) : Option (Int32 × GS × GS) := if (tT 0 3) < (6 : Int32) then (bnd2 (MX2_readNumber xT (0 : Int32) ((tT 0 1) - (1 : Int32)) (2 : Int32)) fun (r2 : Int32) (xT_3 : GS) => if r2 = (-1 : Int32) then (some ((0 : Int32), xT_3, tT)) else (bnd2 (MX2_readNumber xT_3 (0 : Int32) ((tT 0 1) - (1 : Int32)) (2 : Int32)) fun (r6 : Int32) (xT_7 : GS) => jn2 (fun (tT_9 : GS) (x10 : Int32) => chkB x10 (some (x10, xT_7, tT_9))) (fun k11 => jn1 (fun (tT_13 : GS) => k11 tT_13 (0 : Int32)) (fun k14 => if r6 = (-1 : Int32) then (k14 tT) else (bnd2 (MX3_addFeud tT r2 r6) fun (r16 : Int32) (tT_17 : GS) => if r16 = 0 then (k14 tT_17) else (k11 tT_17 (1 : Int32))))))) else (some ((0 : Int32), xT, tT))
abbrev rmX2_readFeud : Room := { frames := 4, cells := 0, slots := 0, locals := 160 }
set_option maxHeartbeats 4000000 in
set_option maxRecDepth 100000 in
theorem ctX2_readFeud (l : Launch) (D : va_G) (Y : Nat → ClassId) (bT : Nat → Nat) (hT : Nat → Nat) (sz : Nat) (xT : GS) (tT : GS) (rr : Int32) (xTz : GS) (tTz : GS) (hM : MX2_readFeud xT tT = some (rr, xTz, tTz)) : Met l yX2_readFeud wsX2_readFeud rmX2_readFeud (pcW [.ref (bT 0), .ref (hT 0)] sz D Y (cText Y bT xT ++ cTold Y hT tT)) (qiW rr D (cText Y bT xTz ++ cTold Y hT tTz) (va_A (cText Y bT xT ++ cTold Y hT tT) sz)) 0 0 (va_A (cText Y bT xT ++ cTold Y hT tT) sz) := by
  refine Met.ofW (cc := cX2_readFeud) (maxL := 4) (ret := (some .boolean)) (by decide) rfl ?_
  intro p e s m args below meth c s₁ B hml hv
  obtain ⟨rfl, hsz, hP, hK, hD0⟩ := hv
  have hx := B.exec
  have hb := B.bytes
  have hr := B.returns
  have hts := atoms_spec (ws := wsX2_readFeud) B.pre
  have hown : s.vm.findClass RX2 = some m.cls := findClass_of_methodNamed B.named
  have hlocks := B.notSynchronized
  subst hsz
  have hD := hD0.self (sz := s.heap.size)
  generalize hAe : va_A (cText Y bT xT ++ cTold Y hT tT) s.heap.size = A at hD ⊢
  have hA : ∀ q : Nat, s.heap.size ≤ q → A q := fun q h => by rw [← hAe]; exact Or.inr h
  have hS : va_S A s.heap s.heap [] := va_S.rf
  have hi3 : ∀ w ∈ wsX30, w ∈ wsX2_readFeud := fun w h => List.mem_cons_of_mem _ (List.mem_append_left _ (List.mem_append_right _ h))
  have hl := lv_entry ([.ref (bT 0), .ref (hT 0)]) (n := 4) (Nat.le_of_ble_eq_true rfl)
  rw [lg_entry_eq]
  generalize (lg_sl ([.ref (bT 0), .ref (hT 0)]) ++ List.replicate (4 - (lg_sl ([.ref (bT 0), .ref (hT 0)])).length) Slot.unset).toArray = ls at hl ⊢
  have hl : lv_has ls 4 [(0, .ref (bT 0)), (1, .ref (hT 0))] := hl
  obtain ⟨QQ, hQQ⟩ : ∃ Q : State → Prop, Q = MQ below (qiW rr D (cText Y bT xTz ++ cTold Y hT tTz) A) ([.ref (bT 0), .ref (hT 0)] : List Value).toArray s 0 0 A := ⟨_, rfl⟩
  rw [← hQQ]
  unfold MX2_readFeud at hM
  suffices hI : ∀ (H : Heap) (locs : List Loc), va_P D vwCl (cText Y bT xT ++ cTold Y hT tT) H → va_S A s.heap H locs → W p l e (headSpec wsX2_readFeud rmX2_readFeud).room s m ([.ref (bT 0), .ref (hT 0)] : List Value).toArray below meth c H locs 0 0 QQ (F0 m 0 ls []) from hI _ _ hP hS
  clear hP hS
  intro H locs hP hS
  refine lv_aload_n hx hb dX2_readFeud_0 rfl (lv_at hl 1 rfl) ?_
  refine va_get hx hb hts hi3 hown hK hP 2 rfl rfl 3 (by decide) (hts (.fieldLink RX2 110 "NightPlots$Told" "feuds" "I") (List.mem_of_getElem? (i := 1) rfl)) (fun _ h9 => h9) rfl dX2_readFeud_1 ?_
  refine lv_bipush (v := (6 : Int32)) hx hb dX2_readFeud_4 (by decide) ?_
  refine lv_icmp_lt (tgt := 11) hx hb dX2_readFeud_6 (by decide) (fun c1 => ?_) (fun c1 => ?_)
  · replace hM := if_at_pos hM c1
    refine lv_aload_n hx hb dX2_readFeud_11 rfl (lv_at hl 0 rfl) ?_
    refine lv_iconst (v := (0 : Int32)) hx hb dX2_readFeud_12 (by decide) ?_
    refine lv_aload_n hx hb dX2_readFeud_13 rfl (lv_at hl 1 rfl) ?_
    refine va_get hx hb hts hi3 hown hK hP 2 rfl rfl 1 (by decide) (hts (.fieldLink RX2 97 "NightPlots$Told" "houses" "I") (List.mem_of_getElem? (i := 2) rfl)) (fun _ h9 => h9) rfl dX2_readFeud_14 ?_
    refine lv_iconst (v := (1 : Int32)) hx hb dX2_readFeud_17 (by decide) ?_
    refine lv_isub hx hb dX2_readFeud_18 ?_
    refine lv_iconst (v := (2 : Int32)) hx hb dX2_readFeud_19 (by decide) ?_
    obtain ⟨r2, xT_3, hc4, hM⟩ := bnd2_at hM
    refine cm_i (w2 := (cText Y bT xT_3 ++ cTold Y hT tT)) (va_runV (As := [.int (0 : Int32), .int ((tT 0 1) - (1 : Int32)), .int (2 : Int32)]) (rest := []) ⟨hx, hb, hml, hown, hts⟩ (ctX2_readNumber l D Y bT H.size xT (0 : Int32) ((tT 0 1) - (1 : Int32)) (2 : Int32) r2 xT_3 hc4) (cwV 3 hts gX2_readFeud_X2_readNumber rfl rfl rfl (by decide +kernel) ⟨Nat.le_of_ble_eq_true rfl, Nat.le_of_ble_eq_true rfl⟩) (pcW_V (ci := 2) (q0 := 0) hK hP (hD.same rfl) [0, 1] rfl (pc_map (pc_cons rfl (pc_cons rfl pc_nil))) rfl rfl) rfl rfl hl.1 rfl (lv_room (Nat.le_of_ble_eq_true rfl)) dX2_readFeud_20 ⟨Nat.zero_le _, Nat.zero_le _⟩) hP (hD.same rfl) hS hA [0, 1] (pc_map (pc_cons rfl (pc_cons rfl pc_nil))) (up_new 0 rfl (up_new 1 rfl (up_old rfl rfl (up_old rfl rfl (up_old rfl rfl (up_old rfl rfl (up_old rfl rfl (up_old rfl rfl (up_old rfl rfl (up_old rfl rfl up_nil)))))))))) (fun H locs hP hS => ?_)
    refine lv_istore_n (lv' := [(2, .int r2), (0, .ref (bT 0)), (1, .ref (hT 0))]) hx hb dX2_readFeud_23 rfl hl (by decide) rfl (fun ls hl => ?_)
    refine lv_iload_n hx hb dX2_readFeud_24 rfl (lv_at hl 0 rfl) ?_
    refine lv_iconst (v := (-1 : Int32)) hx hb dX2_readFeud_25 (by decide) ?_
    refine lv_icmp_ne (tgt := 31) hx hb dX2_readFeud_26 (by decide) (fun c5 => ?_) (fun c5 => ?_)
    · replace hM := if_at_neg hM c5
      refine lv_aload_n hx hb dX2_readFeud_31 rfl (lv_at hl 1 rfl) ?_
      refine lv_iconst (v := (0 : Int32)) hx hb dX2_readFeud_32 (by decide) ?_
      refine lv_aload_n hx hb dX2_readFeud_33 rfl (lv_at hl 2 rfl) ?_
      refine va_get hx hb hts hi3 hown hK hP 2 rfl rfl 1 (by decide) (hts (.fieldLink RX2 97 "NightPlots$Told" "houses" "I") (List.mem_of_getElem? (i := 2) rfl)) (fun _ h9 => h9) rfl dX2_readFeud_34 ?_
      refine lv_iconst (v := (1 : Int32)) hx hb dX2_readFeud_37 (by decide) ?_
      refine lv_isub hx hb dX2_readFeud_38 ?_
      refine lv_iconst (v := (2 : Int32)) hx hb dX2_readFeud_39 (by decide) ?_
      obtain ⟨r6, xT_7, hc8, hM⟩ := bnd2_at hM
      refine cm_i (w2 := (cText Y bT xT_7 ++ cTold Y hT tT)) (va_runV (As := [.int (0 : Int32), .int ((tT 0 1) - (1 : Int32)), .int (2 : Int32)]) (rest := []) ⟨hx, hb, hml, hown, hts⟩ (ctX2_readNumber l D Y bT H.size xT_3 (0 : Int32) ((tT 0 1) - (1 : Int32)) (2 : Int32) r6 xT_7 hc8) (cwV 3 hts gX2_readFeud_X2_readNumber rfl rfl rfl (by decide +kernel) ⟨Nat.le_of_ble_eq_true rfl, Nat.le_of_ble_eq_true rfl⟩) (pcW_V (ci := 2) (q0 := 0) hK hP (hD.same rfl) [0, 1] rfl (pc_map (pc_cons rfl (pc_cons rfl pc_nil))) rfl rfl) rfl rfl hl.1 rfl (lv_room (Nat.le_of_ble_eq_true rfl)) dX2_readFeud_40 ⟨Nat.zero_le _, Nat.zero_le _⟩) hP (hD.same rfl) hS hA [0, 1] (pc_map (pc_cons rfl (pc_cons rfl pc_nil))) (up_new 0 rfl (up_new 1 rfl (up_old rfl rfl (up_old rfl rfl (up_old rfl rfl (up_old rfl rfl (up_old rfl rfl (up_old rfl rfl (up_old rfl rfl (up_old rfl rfl up_nil)))))))))) (fun H locs hP hS => ?_)
      refine lv_istore_n (lv' := [(3, .int r6), (2, .int r2), (0, .ref (bT 0)), (1, .ref (hT 0))]) hx hb dX2_readFeud_43 rfl hl (by decide) rfl (fun ls hl => ?_)
      refine lv_iload_n hx hb dX2_readFeud_44 rfl (lv_at hl 0 rfl) ?_
      refine lv_iconst (v := (-1 : Int32)) hx hb dX2_readFeud_45 (by decide) ?_
      refine jn2_at (fun (tT_9 : GS) (x10 : Int32) => ∀ (H : Heap) (locs : List Loc) (ls : Array Slot), va_P D vwCl (cText Y bT xT_7 ++ cTold Y hT tT_9) H → va_S A s.heap H locs → lv_has ls 4 [] → W p l e (headSpec wsX2_readFeud rmX2_readFeud).room s m ([.ref (bT 0), .ref (hT 0)] : List Value).toArray below meth c H locs 0 0 QQ (F0 m 63 ls [.int x10])) hM (fun tT_9 x10 hM H locs ls hP hS hl => ?_) (fun k11 hJ11 hM => ?_)
      · obtain ⟨hz12, hM⟩ := chkB_at hM
        cases hM
        rw [hQQ]
        exact W.zret (ty := .boolean) hx hb hr hz12 (fun t ht hW => ⟨⟨_, (), rfl, rfl, by show va_P D vwCl _ t.heap; rw [ht]; exact hP⟩, hS.F ht⟩) hS.2.2 dX2_readFeud_63
      · refine jn1_at (fun (tT_13 : GS) => ∀ (H : Heap) (locs : List Loc) (ls : Array Slot), va_P D vwCl (cText Y bT xT_7 ++ cTold Y hT tT_13) H → va_S A s.heap H locs → lv_has ls 4 [] → W p l e (headSpec wsX2_readFeud rmX2_readFeud).room s m ([.ref (bT 0), .ref (hT 0)] : List Value).toArray below meth c H locs 0 0 QQ (F0 m 62 ls [])) hM (fun tT_13 hM H locs ls hP hS hl => ?_) (fun k14 hJ14 hM => ?_)
        · refine lv_iconst (v := (0 : Int32)) hx hb dX2_readFeud_62 (by decide) ?_
          exact hJ11 tT_13 (0 : Int32) hM H locs ls hP hS (lv_sub hl [] rfl)
        · refine lv_icmp_eq (tgt := 62) hx hb dX2_readFeud_46 (by decide) (fun c15 => ?_) (fun c15 => ?_)
          · replace hM := if_at_pos hM c15
            exact hJ14 tT hM H locs ls hP hS (lv_sub hl [] rfl)
          · replace hM := if_at_neg hM c15
            refine lv_aload_n hx hb dX2_readFeud_49 rfl (lv_at hl 3 rfl) ?_
            refine lv_iload_n hx hb dX2_readFeud_50 rfl (lv_at hl 1 rfl) ?_
            refine lv_iload_n hx hb dX2_readFeud_51 rfl (lv_at hl 0 rfl) ?_
            obtain ⟨r16, tT_17, hc18, hM⟩ := bnd2_at hM
            refine cm_i (w2 := (cText Y bT xT_7 ++ cTold Y hT tT_17)) (va_runV (As := [.int r2, .int r6]) (rest := []) ⟨hx, hb, hml, hown, hts⟩ (ctX3_addFeud l D Y hT H.size tT r2 r6 r16 tT_17 hc18) (cwV 2 hts gX2_readFeud_X3_addFeud rfl rfl rfl (by decide +kernel) ⟨Nat.le_of_ble_eq_true rfl, Nat.le_of_ble_eq_true rfl⟩) (pcW_V (ci := 3) (q0 := 2) hK hP (hD.same rfl) [2, 3, 4, 5, 6, 7, 8, 9] rfl (pc_map (pc_cons rfl (pc_cons rfl (pc_cons rfl (pc_cons rfl (pc_cons rfl (pc_cons rfl (pc_cons rfl (pc_cons rfl pc_nil))))))))) rfl rfl) rfl rfl hl.1 rfl (lv_room (Nat.le_of_ble_eq_true rfl)) dX2_readFeud_52 ⟨Nat.zero_le _, Nat.zero_le _⟩) hP (hD.same rfl) hS hA [2, 3, 4, 5, 6, 7, 8, 9] (pc_map (pc_cons rfl (pc_cons rfl (pc_cons rfl (pc_cons rfl (pc_cons rfl (pc_cons rfl (pc_cons rfl (pc_cons rfl pc_nil))))))))) (up_old rfl rfl (up_old rfl rfl (up_new 0 rfl (up_new 1 rfl (up_new 2 rfl (up_new 3 rfl (up_new 4 rfl (up_new 5 rfl (up_new 6 rfl (up_new 7 rfl up_nil)))))))))) (fun H locs hP hS => ?_)
            refine lv_if_eq (tgt := 62) hx hb dX2_readFeud_55 (by decide) (fun c19 => ?_) (fun c19 => ?_)
            · replace hM := if_at_pos hM c19
              exact hJ14 tT_17 hM H locs ls hP hS (lv_sub hl [] rfl)
            · replace hM := if_at_neg hM c19
              refine lv_iconst (v := (1 : Int32)) hx hb dX2_readFeud_58 (by decide) ?_
              refine lv_goto (tgt := 63) hx hb dX2_readFeud_59 (by decide) ?_
              exact hJ11 tT_17 (1 : Int32) hM H locs ls hP hS (lv_sub hl [] rfl)
    · replace hM := if_at_pos hM c5
      refine lv_iconst (v := (0 : Int32)) hx hb dX2_readFeud_29 (by decide) ?_
      cases hM
      rw [hQQ]
      exact W.zret (ty := .boolean) hx hb hr rfl (fun t ht hW => ⟨⟨_, (), rfl, rfl, by show va_P D vwCl _ t.heap; rw [ht]; exact hP⟩, hS.F ht⟩) hS.2.2 dX2_readFeud_30
  · replace hM := if_at_neg hM c1
    refine lv_iconst (v := (0 : Int32)) hx hb dX2_readFeud_9 (by decide) ?_
    cases hM
    rw [hQQ]
    exact W.zret (ty := .boolean) hx hb hr rfl (fun t ht hW => ⟨⟨_, (), rfl, rfl, by show va_P D vwCl _ t.heap; rw [ht]; exact hP⟩, hS.F ht⟩) hS.2.2 dX2_readFeud_10
noncomputable def MX2_readPath (xT : GS) (tT : GS) : Option (Int32 × GS × GS) := if (tT 0 2) < (6 : Int32) then (bnd2 (MX2_readNumber xT (0 : Int32) ((tT 0 0) - (1 : Int32)) (2 : Int32)) fun (r2 : Int32) (xT_3 : GS) => if r2 = (-1 : Int32) then (some ((0 : Int32), xT_3, tT)) else (bnd2 (MX2_readNumber xT_3 (0 : Int32) ((tT 0 0) - (1 : Int32)) (2 : Int32)) fun (r6 : Int32) (xT_7 : GS) => jn2 (fun (tT_9 : GS) (x10 : Int32) => chkB x10 (some (x10, xT_7, tT_9))) (fun k11 => jn1 (fun (tT_13 : GS) => k11 tT_13 (0 : Int32)) (fun k14 => if r6 = (-1 : Int32) then (k14 tT) else (bnd2 (MX3_addPath tT r2 r6) fun (r16 : Int32) (tT_17 : GS) => if r16 = 0 then (k14 tT_17) else (k11 tT_17 (1 : Int32))))))) else (some ((0 : Int32), xT, tT))
abbrev rmX2_readPath : Room := { frames := 4, cells := 0, slots := 0, locals := 160 }
set_option maxHeartbeats 4000000 in
set_option maxRecDepth 100000 in
theorem ctX2_readPath (l : Launch) (D : va_G) (Y : Nat → ClassId) (bT : Nat → Nat) (hT : Nat → Nat) (sz : Nat) (xT : GS) (tT : GS) (rr : Int32) (xTz : GS) (tTz : GS) (hM : MX2_readPath xT tT = some (rr, xTz, tTz)) : Met l yX2_readPath wsX2_readPath rmX2_readPath (pcW [.ref (bT 0), .ref (hT 0)] sz D Y (cText Y bT xT ++ cTold Y hT tT)) (qiW rr D (cText Y bT xTz ++ cTold Y hT tTz) (va_A (cText Y bT xT ++ cTold Y hT tT) sz)) 0 0 (va_A (cText Y bT xT ++ cTold Y hT tT) sz) := by
  refine Met.ofW (cc := cX2_readPath) (maxL := 4) (ret := (some .boolean)) (by decide) rfl ?_
  intro p e s m args below meth c s₁ B hml hv
  obtain ⟨rfl, hsz, hP, hK, hD0⟩ := hv
  have hx := B.exec
  have hb := B.bytes
  have hr := B.returns
  have hts := atoms_spec (ws := wsX2_readPath) B.pre
  have hown : s.vm.findClass RX2 = some m.cls := findClass_of_methodNamed B.named
  have hlocks := B.notSynchronized
  subst hsz
  have hD := hD0.self (sz := s.heap.size)
  generalize hAe : va_A (cText Y bT xT ++ cTold Y hT tT) s.heap.size = A at hD ⊢
  have hA : ∀ q : Nat, s.heap.size ≤ q → A q := fun q h => by rw [← hAe]; exact Or.inr h
  have hS : va_S A s.heap s.heap [] := va_S.rf
  have hi3 : ∀ w ∈ wsX30, w ∈ wsX2_readPath := fun w h => List.mem_cons_of_mem _ (List.mem_append_left _ (List.mem_append_right _ h))
  have hl := lv_entry ([.ref (bT 0), .ref (hT 0)]) (n := 4) (Nat.le_of_ble_eq_true rfl)
  rw [lg_entry_eq]
  generalize (lg_sl ([.ref (bT 0), .ref (hT 0)]) ++ List.replicate (4 - (lg_sl ([.ref (bT 0), .ref (hT 0)])).length) Slot.unset).toArray = ls at hl ⊢
  have hl : lv_has ls 4 [(0, .ref (bT 0)), (1, .ref (hT 0))] := hl
  obtain ⟨QQ, hQQ⟩ : ∃ Q : State → Prop, Q = MQ below (qiW rr D (cText Y bT xTz ++ cTold Y hT tTz) A) ([.ref (bT 0), .ref (hT 0)] : List Value).toArray s 0 0 A := ⟨_, rfl⟩
  rw [← hQQ]
  unfold MX2_readPath at hM
  suffices hI : ∀ (H : Heap) (locs : List Loc), va_P D vwCl (cText Y bT xT ++ cTold Y hT tT) H → va_S A s.heap H locs → W p l e (headSpec wsX2_readPath rmX2_readPath).room s m ([.ref (bT 0), .ref (hT 0)] : List Value).toArray below meth c H locs 0 0 QQ (F0 m 0 ls []) from hI _ _ hP hS
  clear hP hS
  intro H locs hP hS
  refine lv_aload_n hx hb dX2_readPath_0 rfl (lv_at hl 1 rfl) ?_
  refine va_get hx hb hts hi3 hown hK hP 2 rfl rfl 2 (by decide) (hts (.fieldLink RX2 104 "NightPlots$Told" "paths" "I") (List.mem_of_getElem? (i := 1) rfl)) (fun _ h9 => h9) rfl dX2_readPath_1 ?_
  refine lv_bipush (v := (6 : Int32)) hx hb dX2_readPath_4 (by decide) ?_
  refine lv_icmp_lt (tgt := 11) hx hb dX2_readPath_6 (by decide) (fun c1 => ?_) (fun c1 => ?_)
  · replace hM := if_at_pos hM c1
    refine lv_aload_n hx hb dX2_readPath_11 rfl (lv_at hl 0 rfl) ?_
    refine lv_iconst (v := (0 : Int32)) hx hb dX2_readPath_12 (by decide) ?_
    refine lv_aload_n hx hb dX2_readPath_13 rfl (lv_at hl 1 rfl) ?_
    refine va_get hx hb hts hi3 hown hK hP 2 rfl rfl 0 (by decide) (hts (.fieldLink RX2 92 "NightPlots$Told" "plots" "I") (List.mem_of_getElem? (i := 2) rfl)) (fun _ h9 => h9) rfl dX2_readPath_14 ?_
    refine lv_iconst (v := (1 : Int32)) hx hb dX2_readPath_17 (by decide) ?_
    refine lv_isub hx hb dX2_readPath_18 ?_
    refine lv_iconst (v := (2 : Int32)) hx hb dX2_readPath_19 (by decide) ?_
    obtain ⟨r2, xT_3, hc4, hM⟩ := bnd2_at hM
    refine cm_i (w2 := (cText Y bT xT_3 ++ cTold Y hT tT)) (va_runV (As := [.int (0 : Int32), .int ((tT 0 0) - (1 : Int32)), .int (2 : Int32)]) (rest := []) ⟨hx, hb, hml, hown, hts⟩ (ctX2_readNumber l D Y bT H.size xT (0 : Int32) ((tT 0 0) - (1 : Int32)) (2 : Int32) r2 xT_3 hc4) (cwV 3 hts gX2_readPath_X2_readNumber rfl rfl rfl (by decide +kernel) ⟨Nat.le_of_ble_eq_true rfl, Nat.le_of_ble_eq_true rfl⟩) (pcW_V (ci := 2) (q0 := 0) hK hP (hD.same rfl) [0, 1] rfl (pc_map (pc_cons rfl (pc_cons rfl pc_nil))) rfl rfl) rfl rfl hl.1 rfl (lv_room (Nat.le_of_ble_eq_true rfl)) dX2_readPath_20 ⟨Nat.zero_le _, Nat.zero_le _⟩) hP (hD.same rfl) hS hA [0, 1] (pc_map (pc_cons rfl (pc_cons rfl pc_nil))) (up_new 0 rfl (up_new 1 rfl (up_old rfl rfl (up_old rfl rfl (up_old rfl rfl (up_old rfl rfl (up_old rfl rfl (up_old rfl rfl (up_old rfl rfl (up_old rfl rfl up_nil)))))))))) (fun H locs hP hS => ?_)
    refine lv_istore_n (lv' := [(2, .int r2), (0, .ref (bT 0)), (1, .ref (hT 0))]) hx hb dX2_readPath_23 rfl hl (by decide) rfl (fun ls hl => ?_)
    refine lv_iload_n hx hb dX2_readPath_24 rfl (lv_at hl 0 rfl) ?_
    refine lv_iconst (v := (-1 : Int32)) hx hb dX2_readPath_25 (by decide) ?_
    refine lv_icmp_ne (tgt := 31) hx hb dX2_readPath_26 (by decide) (fun c5 => ?_) (fun c5 => ?_)
    · replace hM := if_at_neg hM c5
      refine lv_aload_n hx hb dX2_readPath_31 rfl (lv_at hl 1 rfl) ?_
      refine lv_iconst (v := (0 : Int32)) hx hb dX2_readPath_32 (by decide) ?_
      refine lv_aload_n hx hb dX2_readPath_33 rfl (lv_at hl 2 rfl) ?_
      refine va_get hx hb hts hi3 hown hK hP 2 rfl rfl 0 (by decide) (hts (.fieldLink RX2 92 "NightPlots$Told" "plots" "I") (List.mem_of_getElem? (i := 2) rfl)) (fun _ h9 => h9) rfl dX2_readPath_34 ?_
      refine lv_iconst (v := (1 : Int32)) hx hb dX2_readPath_37 (by decide) ?_
      refine lv_isub hx hb dX2_readPath_38 ?_
      refine lv_iconst (v := (2 : Int32)) hx hb dX2_readPath_39 (by decide) ?_
      obtain ⟨r6, xT_7, hc8, hM⟩ := bnd2_at hM
      refine cm_i (w2 := (cText Y bT xT_7 ++ cTold Y hT tT)) (va_runV (As := [.int (0 : Int32), .int ((tT 0 0) - (1 : Int32)), .int (2 : Int32)]) (rest := []) ⟨hx, hb, hml, hown, hts⟩ (ctX2_readNumber l D Y bT H.size xT_3 (0 : Int32) ((tT 0 0) - (1 : Int32)) (2 : Int32) r6 xT_7 hc8) (cwV 3 hts gX2_readPath_X2_readNumber rfl rfl rfl (by decide +kernel) ⟨Nat.le_of_ble_eq_true rfl, Nat.le_of_ble_eq_true rfl⟩) (pcW_V (ci := 2) (q0 := 0) hK hP (hD.same rfl) [0, 1] rfl (pc_map (pc_cons rfl (pc_cons rfl pc_nil))) rfl rfl) rfl rfl hl.1 rfl (lv_room (Nat.le_of_ble_eq_true rfl)) dX2_readPath_40 ⟨Nat.zero_le _, Nat.zero_le _⟩) hP (hD.same rfl) hS hA [0, 1] (pc_map (pc_cons rfl (pc_cons rfl pc_nil))) (up_new 0 rfl (up_new 1 rfl (up_old rfl rfl (up_old rfl rfl (up_old rfl rfl (up_old rfl rfl (up_old rfl rfl (up_old rfl rfl (up_old rfl rfl (up_old rfl rfl up_nil)))))))))) (fun H locs hP hS => ?_)
      refine lv_istore_n (lv' := [(3, .int r6), (2, .int r2), (0, .ref (bT 0)), (1, .ref (hT 0))]) hx hb dX2_readPath_43 rfl hl (by decide) rfl (fun ls hl => ?_)
      refine lv_iload_n hx hb dX2_readPath_44 rfl (lv_at hl 0 rfl) ?_
      refine lv_iconst (v := (-1 : Int32)) hx hb dX2_readPath_45 (by decide) ?_
      refine jn2_at (fun (tT_9 : GS) (x10 : Int32) => ∀ (H : Heap) (locs : List Loc) (ls : Array Slot), va_P D vwCl (cText Y bT xT_7 ++ cTold Y hT tT_9) H → va_S A s.heap H locs → lv_has ls 4 [] → W p l e (headSpec wsX2_readPath rmX2_readPath).room s m ([.ref (bT 0), .ref (hT 0)] : List Value).toArray below meth c H locs 0 0 QQ (F0 m 63 ls [.int x10])) hM (fun tT_9 x10 hM H locs ls hP hS hl => ?_) (fun k11 hJ11 hM => ?_)
      · obtain ⟨hz12, hM⟩ := chkB_at hM
        cases hM
        rw [hQQ]
        exact W.zret (ty := .boolean) hx hb hr hz12 (fun t ht hW => ⟨⟨_, (), rfl, rfl, by show va_P D vwCl _ t.heap; rw [ht]; exact hP⟩, hS.F ht⟩) hS.2.2 dX2_readPath_63
      · refine jn1_at (fun (tT_13 : GS) => ∀ (H : Heap) (locs : List Loc) (ls : Array Slot), va_P D vwCl (cText Y bT xT_7 ++ cTold Y hT tT_13) H → va_S A s.heap H locs → lv_has ls 4 [] → W p l e (headSpec wsX2_readPath rmX2_readPath).room s m ([.ref (bT 0), .ref (hT 0)] : List Value).toArray below meth c H locs 0 0 QQ (F0 m 62 ls [])) hM (fun tT_13 hM H locs ls hP hS hl => ?_) (fun k14 hJ14 hM => ?_)
        · refine lv_iconst (v := (0 : Int32)) hx hb dX2_readPath_62 (by decide) ?_
          exact hJ11 tT_13 (0 : Int32) hM H locs ls hP hS (lv_sub hl [] rfl)
        · refine lv_icmp_eq (tgt := 62) hx hb dX2_readPath_46 (by decide) (fun c15 => ?_) (fun c15 => ?_)
          · replace hM := if_at_pos hM c15
            exact hJ14 tT hM H locs ls hP hS (lv_sub hl [] rfl)
          · replace hM := if_at_neg hM c15
            refine lv_aload_n hx hb dX2_readPath_49 rfl (lv_at hl 3 rfl) ?_
            refine lv_iload_n hx hb dX2_readPath_50 rfl (lv_at hl 1 rfl) ?_
            refine lv_iload_n hx hb dX2_readPath_51 rfl (lv_at hl 0 rfl) ?_
            obtain ⟨r16, tT_17, hc18, hM⟩ := bnd2_at hM
            refine cm_i (w2 := (cText Y bT xT_7 ++ cTold Y hT tT_17)) (va_runV (As := [.int r2, .int r6]) (rest := []) ⟨hx, hb, hml, hown, hts⟩ (ctX3_addPath l D Y hT H.size tT r2 r6 r16 tT_17 hc18) (cwV 2 hts gX2_readPath_X3_addPath rfl rfl rfl (by decide +kernel) ⟨Nat.le_of_ble_eq_true rfl, Nat.le_of_ble_eq_true rfl⟩) (pcW_V (ci := 3) (q0 := 2) hK hP (hD.same rfl) [2, 3, 4, 5, 6, 7, 8, 9] rfl (pc_map (pc_cons rfl (pc_cons rfl (pc_cons rfl (pc_cons rfl (pc_cons rfl (pc_cons rfl (pc_cons rfl (pc_cons rfl pc_nil))))))))) rfl rfl) rfl rfl hl.1 rfl (lv_room (Nat.le_of_ble_eq_true rfl)) dX2_readPath_52 ⟨Nat.zero_le _, Nat.zero_le _⟩) hP (hD.same rfl) hS hA [2, 3, 4, 5, 6, 7, 8, 9] (pc_map (pc_cons rfl (pc_cons rfl (pc_cons rfl (pc_cons rfl (pc_cons rfl (pc_cons rfl (pc_cons rfl (pc_cons rfl pc_nil))))))))) (up_old rfl rfl (up_old rfl rfl (up_new 0 rfl (up_new 1 rfl (up_new 2 rfl (up_new 3 rfl (up_new 4 rfl (up_new 5 rfl (up_new 6 rfl (up_new 7 rfl up_nil)))))))))) (fun H locs hP hS => ?_)
            refine lv_if_eq (tgt := 62) hx hb dX2_readPath_55 (by decide) (fun c19 => ?_) (fun c19 => ?_)
            · replace hM := if_at_pos hM c19
              exact hJ14 tT_17 hM H locs ls hP hS (lv_sub hl [] rfl)
            · replace hM := if_at_neg hM c19
              refine lv_iconst (v := (1 : Int32)) hx hb dX2_readPath_58 (by decide) ?_
              refine lv_goto (tgt := 63) hx hb dX2_readPath_59 (by decide) ?_
              exact hJ11 tT_17 (1 : Int32) hM H locs ls hP hS (lv_sub hl [] rfl)
    · replace hM := if_at_pos hM c5
      refine lv_iconst (v := (0 : Int32)) hx hb dX2_readPath_29 (by decide) ?_
      cases hM
      rw [hQQ]
      exact W.zret (ty := .boolean) hx hb hr rfl (fun t ht hW => ⟨⟨_, (), rfl, rfl, by show va_P D vwCl _ t.heap; rw [ht]; exact hP⟩, hS.F ht⟩) hS.2.2 dX2_readPath_30
  · replace hM := if_at_neg hM c1
    refine lv_iconst (v := (0 : Int32)) hx hb dX2_readPath_9 (by decide) ?_
    cases hM
    rw [hQQ]
    exact W.zret (ty := .boolean) hx hb hr rfl (fun t ht hW => ⟨⟨_, (), rfl, rfl, by show va_P D vwCl _ t.heap; rw [ht]; exact hP⟩, hS.F ht⟩) hS.2.2 dX2_readPath_10
noncomputable def MX2_readHouse (xT : GS) (tT : GS) (i2 : Int32) : Option (Int32 × GS × GS) := if (tT 0 1) < (8 : Int32) then (bnd2 (MX2_readNumber xT (0 : Int32) ((tT 0 0) - (1 : Int32)) (2 : Int32)) fun (r2 : Int32) (xT_3 : GS) => jn2 (fun (tT_5 : GS) (x6 : Int32) => chkB x6 (some (x6, xT_3, tT_5))) (fun k7 => jn1 (fun (tT_9 : GS) => k7 tT_9 (0 : Int32)) (fun k10 => if r2 = (-1 : Int32) then (k10 tT) else (bnd2 (MX3_settle tT i2 r2) fun (r12 : Int32) (tT_13 : GS) => if r12 = 0 then (k10 tT_13) else (k7 tT_13 (1 : Int32)))))) else (some ((0 : Int32), xT, tT))
abbrev rmX2_readHouse : Room := { frames := 4, cells := 0, slots := 0, locals := 160 }
set_option maxHeartbeats 4000000 in
set_option maxRecDepth 100000 in
theorem ctX2_readHouse (l : Launch) (D : va_G) (Y : Nat → ClassId) (bT : Nat → Nat) (hT : Nat → Nat) (sz : Nat) (xT : GS) (tT : GS) (i2 : Int32) (rr : Int32) (xTz : GS) (tTz : GS) (hM : MX2_readHouse xT tT i2 = some (rr, xTz, tTz)) : Met l yX2_readHouse wsX2_readHouse rmX2_readHouse (pcW [.ref (bT 0), .ref (hT 0), .int i2] sz D Y (cText Y bT xT ++ cTold Y hT tT)) (qiW rr D (cText Y bT xTz ++ cTold Y hT tTz) (va_A (cText Y bT xT ++ cTold Y hT tT) sz)) 0 0 (va_A (cText Y bT xT ++ cTold Y hT tT) sz) := by
  refine Met.ofW (cc := cX2_readHouse) (maxL := 4) (ret := (some .boolean)) (by decide) rfl ?_
  intro p e s m args below meth c s₁ B hml hv
  obtain ⟨rfl, hsz, hP, hK, hD0⟩ := hv
  have hx := B.exec
  have hb := B.bytes
  have hr := B.returns
  have hts := atoms_spec (ws := wsX2_readHouse) B.pre
  have hown : s.vm.findClass RX2 = some m.cls := findClass_of_methodNamed B.named
  have hlocks := B.notSynchronized
  subst hsz
  have hD := hD0.self (sz := s.heap.size)
  generalize hAe : va_A (cText Y bT xT ++ cTold Y hT tT) s.heap.size = A at hD ⊢
  have hA : ∀ q : Nat, s.heap.size ≤ q → A q := fun q h => by rw [← hAe]; exact Or.inr h
  have hS : va_S A s.heap s.heap [] := va_S.rf
  have hi3 : ∀ w ∈ wsX30, w ∈ wsX2_readHouse := fun w h => List.mem_cons_of_mem _ (List.mem_append_left _ (List.mem_append_right _ h))
  have hl := lv_entry ([.ref (bT 0), .ref (hT 0), .int i2]) (n := 4) (Nat.le_of_ble_eq_true rfl)
  rw [lg_entry_eq]
  generalize (lg_sl ([.ref (bT 0), .ref (hT 0), .int i2]) ++ List.replicate (4 - (lg_sl ([.ref (bT 0), .ref (hT 0), .int i2])).length) Slot.unset).toArray = ls at hl ⊢
  have hl : lv_has ls 4 [(0, .ref (bT 0)), (1, .ref (hT 0)), (2, .int i2)] := hl
  obtain ⟨QQ, hQQ⟩ : ∃ Q : State → Prop, Q = MQ below (qiW rr D (cText Y bT xTz ++ cTold Y hT tTz) A) ([.ref (bT 0), .ref (hT 0), .int i2] : List Value).toArray s 0 0 A := ⟨_, rfl⟩
  rw [← hQQ]
  unfold MX2_readHouse at hM
  suffices hI : ∀ (H : Heap) (locs : List Loc), va_P D vwCl (cText Y bT xT ++ cTold Y hT tT) H → va_S A s.heap H locs → W p l e (headSpec wsX2_readHouse rmX2_readHouse).room s m ([.ref (bT 0), .ref (hT 0), .int i2] : List Value).toArray below meth c H locs 0 0 QQ (F0 m 0 ls []) from hI _ _ hP hS
  clear hP hS
  intro H locs hP hS
  refine lv_aload_n hx hb dX2_readHouse_0 rfl (lv_at hl 1 rfl) ?_
  refine va_get hx hb hts hi3 hown hK hP 2 rfl rfl 1 (by decide) (hts (.fieldLink RX2 97 "NightPlots$Told" "houses" "I") (List.mem_of_getElem? (i := 1) rfl)) (fun _ h9 => h9) rfl dX2_readHouse_1 ?_
  refine lv_bipush (v := (8 : Int32)) hx hb dX2_readHouse_4 (by decide) ?_
  refine lv_icmp_lt (tgt := 11) hx hb dX2_readHouse_6 (by decide) (fun c1 => ?_) (fun c1 => ?_)
  · replace hM := if_at_pos hM c1
    refine lv_aload_n hx hb dX2_readHouse_11 rfl (lv_at hl 0 rfl) ?_
    refine lv_iconst (v := (0 : Int32)) hx hb dX2_readHouse_12 (by decide) ?_
    refine lv_aload_n hx hb dX2_readHouse_13 rfl (lv_at hl 1 rfl) ?_
    refine va_get hx hb hts hi3 hown hK hP 2 rfl rfl 0 (by decide) (hts (.fieldLink RX2 92 "NightPlots$Told" "plots" "I") (List.mem_of_getElem? (i := 2) rfl)) (fun _ h9 => h9) rfl dX2_readHouse_14 ?_
    refine lv_iconst (v := (1 : Int32)) hx hb dX2_readHouse_17 (by decide) ?_
    refine lv_isub hx hb dX2_readHouse_18 ?_
    refine lv_iconst (v := (2 : Int32)) hx hb dX2_readHouse_19 (by decide) ?_
    obtain ⟨r2, xT_3, hc4, hM⟩ := bnd2_at hM
    refine cm_i (w2 := (cText Y bT xT_3 ++ cTold Y hT tT)) (va_runV (As := [.int (0 : Int32), .int ((tT 0 0) - (1 : Int32)), .int (2 : Int32)]) (rest := []) ⟨hx, hb, hml, hown, hts⟩ (ctX2_readNumber l D Y bT H.size xT (0 : Int32) ((tT 0 0) - (1 : Int32)) (2 : Int32) r2 xT_3 hc4) (cwV 3 hts gX2_readHouse_X2_readNumber rfl rfl rfl (by decide +kernel) ⟨Nat.le_of_ble_eq_true rfl, Nat.le_of_ble_eq_true rfl⟩) (pcW_V (ci := 2) (q0 := 0) hK hP (hD.same rfl) [0, 1] rfl (pc_map (pc_cons rfl (pc_cons rfl pc_nil))) rfl rfl) rfl rfl hl.1 rfl (lv_room (Nat.le_of_ble_eq_true rfl)) dX2_readHouse_20 ⟨Nat.zero_le _, Nat.zero_le _⟩) hP (hD.same rfl) hS hA [0, 1] (pc_map (pc_cons rfl (pc_cons rfl pc_nil))) (up_new 0 rfl (up_new 1 rfl (up_old rfl rfl (up_old rfl rfl (up_old rfl rfl (up_old rfl rfl (up_old rfl rfl (up_old rfl rfl (up_old rfl rfl (up_old rfl rfl up_nil)))))))))) (fun H locs hP hS => ?_)
    refine lv_istore_n (lv' := [(3, .int r2), (0, .ref (bT 0)), (1, .ref (hT 0)), (2, .int i2)]) hx hb dX2_readHouse_23 rfl hl (by decide) rfl (fun ls hl => ?_)
    refine lv_iload_n hx hb dX2_readHouse_24 rfl (lv_at hl 0 rfl) ?_
    refine lv_iconst (v := (-1 : Int32)) hx hb dX2_readHouse_25 (by decide) ?_
    refine jn2_at (fun (tT_5 : GS) (x6 : Int32) => ∀ (H : Heap) (locs : List Loc) (ls : Array Slot), va_P D vwCl (cText Y bT xT_3 ++ cTold Y hT tT_5) H → va_S A s.heap H locs → lv_has ls 4 [] → W p l e (headSpec wsX2_readHouse rmX2_readHouse).room s m ([.ref (bT 0), .ref (hT 0), .int i2] : List Value).toArray below meth c H locs 0 0 QQ (F0 m 43 ls [.int x6])) hM (fun tT_5 x6 hM H locs ls hP hS hl => ?_) (fun k7 hJ7 hM => ?_)
    · obtain ⟨hz8, hM⟩ := chkB_at hM
      cases hM
      rw [hQQ]
      exact W.zret (ty := .boolean) hx hb hr hz8 (fun t ht hW => ⟨⟨_, (), rfl, rfl, by show va_P D vwCl _ t.heap; rw [ht]; exact hP⟩, hS.F ht⟩) hS.2.2 dX2_readHouse_43
    · refine jn1_at (fun (tT_9 : GS) => ∀ (H : Heap) (locs : List Loc) (ls : Array Slot), va_P D vwCl (cText Y bT xT_3 ++ cTold Y hT tT_9) H → va_S A s.heap H locs → lv_has ls 4 [] → W p l e (headSpec wsX2_readHouse rmX2_readHouse).room s m ([.ref (bT 0), .ref (hT 0), .int i2] : List Value).toArray below meth c H locs 0 0 QQ (F0 m 42 ls [])) hM (fun tT_9 hM H locs ls hP hS hl => ?_) (fun k10 hJ10 hM => ?_)
      · refine lv_iconst (v := (0 : Int32)) hx hb dX2_readHouse_42 (by decide) ?_
        exact hJ7 tT_9 (0 : Int32) hM H locs ls hP hS (lv_sub hl [] rfl)
      · refine lv_icmp_eq (tgt := 42) hx hb dX2_readHouse_26 (by decide) (fun c11 => ?_) (fun c11 => ?_)
        · replace hM := if_at_pos hM c11
          exact hJ10 tT hM H locs ls hP hS (lv_sub hl [] rfl)
        · replace hM := if_at_neg hM c11
          refine lv_aload_n hx hb dX2_readHouse_29 rfl (lv_at hl 2 rfl) ?_
          refine lv_iload_n hx hb dX2_readHouse_30 rfl (lv_at hl 3 rfl) ?_
          refine lv_iload_n hx hb dX2_readHouse_31 rfl (lv_at hl 0 rfl) ?_
          obtain ⟨r12, tT_13, hc14, hM⟩ := bnd2_at hM
          refine cm_i (w2 := (cText Y bT xT_3 ++ cTold Y hT tT_13)) (va_runV (As := [.int i2, .int r2]) (rest := []) ⟨hx, hb, hml, hown, hts⟩ (ctX3_settle l D Y hT H.size tT i2 r2 r12 tT_13 hc14) (cwV 2 hts gX2_readHouse_X3_settle rfl rfl rfl (by decide +kernel) ⟨Nat.le_of_ble_eq_true rfl, Nat.le_of_ble_eq_true rfl⟩) (pcW_V (ci := 3) (q0 := 2) hK hP (hD.same rfl) [2, 3, 4, 5, 6, 7, 8, 9] rfl (pc_map (pc_cons rfl (pc_cons rfl (pc_cons rfl (pc_cons rfl (pc_cons rfl (pc_cons rfl (pc_cons rfl (pc_cons rfl pc_nil))))))))) rfl rfl) rfl rfl hl.1 rfl (lv_room (Nat.le_of_ble_eq_true rfl)) dX2_readHouse_32 ⟨Nat.zero_le _, Nat.zero_le _⟩) hP (hD.same rfl) hS hA [2, 3, 4, 5, 6, 7, 8, 9] (pc_map (pc_cons rfl (pc_cons rfl (pc_cons rfl (pc_cons rfl (pc_cons rfl (pc_cons rfl (pc_cons rfl (pc_cons rfl pc_nil))))))))) (up_old rfl rfl (up_old rfl rfl (up_new 0 rfl (up_new 1 rfl (up_new 2 rfl (up_new 3 rfl (up_new 4 rfl (up_new 5 rfl (up_new 6 rfl (up_new 7 rfl up_nil)))))))))) (fun H locs hP hS => ?_)
          refine lv_if_eq (tgt := 42) hx hb dX2_readHouse_35 (by decide) (fun c15 => ?_) (fun c15 => ?_)
          · replace hM := if_at_pos hM c15
            exact hJ10 tT_13 hM H locs ls hP hS (lv_sub hl [] rfl)
          · replace hM := if_at_neg hM c15
            refine lv_iconst (v := (1 : Int32)) hx hb dX2_readHouse_38 (by decide) ?_
            refine lv_goto (tgt := 43) hx hb dX2_readHouse_39 (by decide) ?_
            exact hJ7 tT_13 (1 : Int32) hM H locs ls hP hS (lv_sub hl [] rfl)
  · replace hM := if_at_neg hM c1
    refine lv_iconst (v := (0 : Int32)) hx hb dX2_readHouse_9 (by decide) ?_
    cases hM
    rw [hQQ]
    exact W.zret (ty := .boolean) hx hb hr rfl (fun t ht hW => ⟨⟨_, (), rfl, rfl, by show va_P D vwCl _ t.heap; rw [ht]; exact hP⟩, hS.F ht⟩) hS.2.2 dX2_readHouse_10
