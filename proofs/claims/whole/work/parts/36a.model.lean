noncomputable def BX5_areBeside_5 (mM : GS) (k2 : Int32 → Option (Int32)) (i1 : Int32) (i2 : Int32) (rec6 : Int32 → Int32 → Option (Int32)) (x4 : Int32) (x5 : Int32) : Option (Int32) := if (mM 0 0) ≤ x5 then (k2 x4) else (jn1 (fun (x8 : Int32) => nm (x5 + 1) fun (x10 : Int32) => rec6 x8 x10) (fun k9 => jn0 (k9 (1 : Int32)) (fun k11 => if x4 = 0 then (bnd1 (MX5_standsOn mM i1 x5) fun (r13 : Int32) => jn0 (k9 (0 : Int32)) (fun k15 => if r13 = 0 then (k15) else (bnd1 (MX5_next mM x5 (1 : Int32)) fun (r17 : Int32) => bnd1 (MX5_standsOn mM i2 r17) fun (r19 : Int32) => if r19 = 0 then (bnd1 (MX5_next mM x5 (-1 : Int32)) fun (r22 : Int32) => bnd1 (MX5_standsOn mM i2 r22) fun (r24 : Int32) => if r24 = 0 then (k15) else (k11)) else (k11)))) else (k11))))
noncomputable def MX5_areBeside (mM : GS) (i1 : Int32) (i2 : Int32) : Option (Int32) := jn1 (fun (x1 : Int32) => chkB x1 (some (x1))) (fun k2 => lq2 (BX5_areBeside_5 mM k2 i1 i2) FU (0 : Int32) (0 : Int32))
abbrev rmX5_areBeside : Room := { frames := 3, cells := 0, slots := 0, locals := 120 }
set_option maxHeartbeats 4000000 in
set_option maxRecDepth 100000 in
theorem ctX5_areBeside (l : Launch) (D : va_G) (Y : Nat → ClassId) (oM : Nat → Nat) (sz : Nat) (mM : GS) (tk : Int64) (i1 : Int32) (i2 : Int32) (rr : Int32) (hM : MX5_areBeside mM i1 i2 = some (rr)) : Met l yX5_areBeside wsX5_areBeside rmX5_areBeside (pcW [.ref (oM 0), .int i1, .int i2] sz D Y (cMod Y oM mM tk)) (qiW rr D (cMod Y oM mM tk) (va_A (cMod Y oM mM tk) sz)) 0 0 (va_A (cMod Y oM mM tk) sz) := by
  refine Met.ofW (cc := cX5_areBeside) (maxL := 5) (ret := (some .boolean)) (by decide) rfl ?_
  intro p e s m args below meth c s₁ B hml hv
  obtain ⟨rfl, hsz, hP, hK, hD0⟩ := hv
  have hx := B.exec
  have hb := B.bytes
  have hr := B.returns
  have hts := atoms_spec (ws := wsX5_areBeside) B.pre
  have hown : s.vm.findClass RX5 = some m.cls := findClass_of_methodNamed B.named
  have hlocks := B.notSynchronized
  subst hsz
  have hD := hD0.self (sz := s.heap.size)
  generalize hAe : va_A (cMod Y oM mM tk) s.heap.size = A at hD ⊢
  have hA : ∀ q : Nat, s.heap.size ≤ q → A q := fun q h => by rw [← hAe]; exact Or.inr h
  have hS : va_S A s.heap s.heap [] := va_S.rf
  have hi5 : ∀ w ∈ wsX50, w ∈ wsX5_areBeside := fun w h => List.mem_cons_of_mem _ (List.mem_append_right _ h)
  have hl := lv_entry ([.ref (oM 0), .int i1, .int i2]) (n := 5) (Nat.le_of_ble_eq_true rfl)
  rw [lg_entry_eq]
  generalize (lg_sl ([.ref (oM 0), .int i1, .int i2]) ++ List.replicate (5 - (lg_sl ([.ref (oM 0), .int i1, .int i2])).length) Slot.unset).toArray = ls at hl ⊢
  have hl : lv_has ls 5 [(0, .ref (oM 0)), (1, .int i1), (2, .int i2)] := hl
  obtain ⟨QQ, hQQ⟩ : ∃ Q : State → Prop, Q = MQ below (qiW rr D (cMod Y oM mM tk) A) ([.ref (oM 0), .int i1, .int i2] : List Value).toArray s 0 0 A := ⟨_, rfl⟩
  rw [← hQQ]
  unfold MX5_areBeside at hM
  suffices hI : ∀ (H : Heap) (locs : List Loc), va_P D vwCl (cMod Y oM mM tk) H → va_S A s.heap H locs → W p l e (headSpec wsX5_areBeside rmX5_areBeside).room s m ([.ref (oM 0), .int i1, .int i2] : List Value).toArray below meth c H locs 0 0 QQ (F0 m 0 ls []) from hI _ _ hP hS
  clear hP hS
  intro H locs hP hS
  refine lv_iconst (v := (0 : Int32)) hx hb dX5_areBeside_0 (by decide) ?_
  refine lv_istore_n (lv' := [(3, .int (0 : Int32)), (0, .ref (oM 0)), (1, .int i1), (2, .int i2)]) hx hb dX5_areBeside_1 rfl hl (by decide) rfl (fun ls hl => ?_)
  refine lv_iconst (v := (0 : Int32)) hx hb dX5_areBeside_2 (by decide) ?_
  refine lv_istore (lv' := [(4, .int (0 : Int32)), (3, .int (0 : Int32)), (0, .ref (oM 0)), (1, .int i1), (2, .int i2)]) hx hb dX5_areBeside_3 hl (by decide) rfl (fun ls hl => ?_)
  refine jn1_at (fun (x1 : Int32) => ∀ (H : Heap) (locs : List Loc) (ls : Array Slot), va_P D vwCl (cMod Y oM mM tk) H → va_S A s.heap H locs → lv_has ls 5 [(3, .int x1)] → W p l e (headSpec wsX5_areBeside rmX5_areBeside).room s m ([.ref (oM 0), .int i1, .int i2] : List Value).toArray below meth c H locs 0 0 QQ (F0 m 70 ls [])) hM (fun x1 hM H locs ls hP hS hl => ?_) (fun k2 hJ2 hM => ?_)
  · refine lv_iload_n hx hb dX5_areBeside_70 rfl (lv_at hl 0 rfl) ?_
    obtain ⟨hz3, hM⟩ := chkB_at hM
    cases hM
    rw [hQQ]
    exact W.zret (ty := .boolean) hx hb hr hz3 (fun t ht hW => ⟨⟨_, (), rfl, rfl, by show va_P D vwCl _ t.heap; rw [ht]; exact hP⟩, hS.F ht⟩) hS.2.2 dX5_areBeside_71
  · refine lq2_at (fun (x4 : Int32) (x5 : Int32) => ∀ (H : Heap) (locs : List Loc) (ls : Array Slot), va_P D vwCl (cMod Y oM mM tk) H → va_S A s.heap H locs → lv_has ls 5 [(0, .ref (oM 0)), (1, .int i1), (2, .int i2), (3, .int x4), (4, .int x5)] → W p l e (headSpec wsX5_areBeside rmX5_areBeside).room s m ([.ref (oM 0), .int i1, .int i2] : List Value).toArray below meth c H locs 0 0 QQ (F0 m 5 ls [])) (fun rec6 x4 x5 ih6 hM H locs ls hP hS hl => ?_) FU (0 : Int32) (0 : Int32) hM H locs ls hP hS (lv_sub hl [2, 3, 4, 1, 0] rfl)
    unfold BX5_areBeside_5 at hM
    refine lv_iload hx hb dX5_areBeside_5 (lv_at hl 4 rfl) ?_
    refine lv_aload_n hx hb dX5_areBeside_7 rfl (lv_at hl 0 rfl) ?_
    refine va_get hx hb hts hi5 hown hK hP 0 rfl rfl 0 (by decide) (hts (.fieldLink RX5 7 "NightPlotsModel" "plots" "I") (List.mem_of_getElem? (i := 1) rfl)) (fun _ h9 => h9) rfl dX5_areBeside_8 ?_
    refine lv_icmp_ge (tgt := 70) hx hb dX5_areBeside_11 (by decide) (fun c7 => ?_) (fun c7 => ?_)
    · replace hM := if_at_pos hM c7
      exact hJ2 x4 hM H locs ls hP hS (lv_sub hl [3] rfl)
    · replace hM := if_at_neg hM c7
      refine lv_iload_n hx hb dX5_areBeside_14 rfl (lv_at hl 3 rfl) ?_
      refine jn1_at (fun (x8 : Int32) => ∀ (H : Heap) (locs : List Loc) (ls : Array Slot), va_P D vwCl (cMod Y oM mM tk) H → va_S A s.heap H locs → lv_has ls 5 [(0, .ref (oM 0)), (1, .int i1), (2, .int i2), (4, .int x5)] → W p l e (headSpec wsX5_areBeside rmX5_areBeside).room s m ([.ref (oM 0), .int i1, .int i2] : List Value).toArray below meth c H locs 0 0 QQ (F0 m 63 ls [.int x8])) hM (fun x8 hM H locs ls hP hS hl => ?_) (fun k9 hJ9 hM => ?_)
      · refine lv_istore_n (lv' := [(3, .int x8), (0, .ref (oM 0)), (1, .int i1), (2, .int i2), (4, .int x5)]) hx hb dX5_areBeside_63 rfl hl (by decide) rfl (fun ls hl => ?_)
        obtain ⟨x10, ex10⟩ : ∃ z : Int32, z = (x5 + 1) := ⟨_, rfl⟩
        replace hM := nm_at hM ex10
        refine lv_iinc (v := x10) (lv' := [(4, .int x10), (3, .int x8), (0, .ref (oM 0)), (1, .int i1), (2, .int i2)]) hx hb dX5_areBeside_64 hl (k := 4) rfl (by rw [ex10]; rfl) (by decide) rfl (fun ls hl => ?_)
        refine lv_goto (tgt := 5) hx hb dX5_areBeside_67 (by decide) ?_
        exact ih6 x8 x10 hM H locs ls hP hS (lv_sub hl [2, 3, 4, 1, 0] rfl)
      · refine jn0_at (∀ (H : Heap) (locs : List Loc) (ls : Array Slot), va_P D vwCl (cMod Y oM mM tk) H → va_S A s.heap H locs → lv_has ls 5 [(0, .ref (oM 0)), (1, .int i1), (2, .int i2), (4, .int x5)] → W p l e (headSpec wsX5_areBeside rmX5_areBeside).room s m ([.ref (oM 0), .int i1, .int i2] : List Value).toArray below meth c H locs 0 0 QQ (F0 m 58 ls [])) hM (fun  hM H locs ls hP hS hl => ?_) (fun k11 hJ11 hM => ?_)
        · refine lv_iconst (v := (1 : Int32)) hx hb dX5_areBeside_58 (by decide) ?_
          refine lv_goto (tgt := 63) hx hb dX5_areBeside_59 (by decide) ?_
          exact hJ9 (1 : Int32) hM H locs ls hP hS (lv_sub hl [0, 1, 2, 3] rfl)
        · refine lv_if_ne (tgt := 58) hx hb dX5_areBeside_15 (by decide) (fun c12 => ?_) (fun c12 => ?_)
          · replace hM := if_at_neg hM c12
            exact hJ11 hM H locs ls hP hS (lv_sub hl [0, 1, 2, 4] rfl)
          · replace hM := if_at_pos hM c12
            refine lv_aload_n hx hb dX5_areBeside_18 rfl (lv_at hl 0 rfl) ?_
            refine lv_iload_n hx hb dX5_areBeside_19 rfl (lv_at hl 1 rfl) ?_
            refine lv_iload hx hb dX5_areBeside_20 (lv_at hl 4 rfl) ?_
            obtain ⟨r13, hc14, hM⟩ := bnd1_at hM
            refine co_i (va_runV (As := [.int i1, .int x5]) (rest := []) ⟨hx, hb, hml, hown, hts⟩ (ctX5_standsOn l D Y oM H.size mM tk i1 x5 r13 hc14) (cwV 2 hts gX5_areBeside_X5_standsOn rfl rfl rfl (by decide +kernel) ⟨Nat.le_of_ble_eq_true rfl, Nat.le_of_ble_eq_true rfl⟩) (pcW_V0 (ci := 5) (q0 := 0) hK hP (hD.same rfl) rfl rfl) rfl rfl hl.1 rfl (lv_room (Nat.le_of_ble_eq_true rfl)) dX5_areBeside_22 ⟨Nat.zero_le _, Nat.zero_le _⟩) (hD.same rfl) hS hA (fun H locs hP hS => ?_)
            refine jn0_at (∀ (H : Heap) (locs : List Loc) (ls : Array Slot), va_P D vwCl (cMod Y oM mM tk) H → va_S A s.heap H locs → lv_has ls 5 [(0, .ref (oM 0)), (1, .int i1), (2, .int i2), (4, .int x5)] → W p l e (headSpec wsX5_areBeside rmX5_areBeside).room s m ([.ref (oM 0), .int i1, .int i2] : List Value).toArray below meth c H locs 0 0 QQ (F0 m 62 ls [])) hM (fun  hM H locs ls hP hS hl => ?_) (fun k15 hJ15 hM => ?_)
            · refine lv_iconst (v := (0 : Int32)) hx hb dX5_areBeside_62 (by decide) ?_
              exact hJ9 (0 : Int32) hM H locs ls hP hS (lv_sub hl [0, 1, 2, 3] rfl)
            · refine lv_if_eq (tgt := 62) hx hb dX5_areBeside_25 (by decide) (fun c16 => ?_) (fun c16 => ?_)
              · replace hM := if_at_pos hM c16
                exact hJ15 hM H locs ls hP hS (lv_sub hl [0, 1, 2, 4] rfl)
              · replace hM := if_at_neg hM c16
                refine lv_aload_n hx hb dX5_areBeside_28 rfl (lv_at hl 0 rfl) ?_
                refine lv_iload_n hx hb dX5_areBeside_29 rfl (lv_at hl 2 rfl) ?_
                refine lv_aload_n hx hb dX5_areBeside_30 rfl (lv_at hl 0 rfl) ?_
                refine lv_iload hx hb dX5_areBeside_31 (lv_at hl 4 rfl) ?_
                refine lv_iconst (v := (1 : Int32)) hx hb dX5_areBeside_33 (by decide) ?_
                obtain ⟨r17, hc18, hM⟩ := bnd1_at hM
                refine co_i (va_runV (As := [.int x5, .int (1 : Int32)]) (rest := [.int i2, .ref (oM 0)]) ⟨hx, hb, hml, hown, hts⟩ (ctX5_next l D Y oM H.size mM tk x5 (1 : Int32) r17 hc18) (cwV 2 hts gX5_areBeside_X5_next rfl rfl rfl (by decide +kernel) ⟨Nat.le_of_ble_eq_true rfl, Nat.le_of_ble_eq_true rfl⟩) (pcW_V0 (ci := 5) (q0 := 0) hK hP (hD.same rfl) rfl rfl) rfl rfl hl.1 rfl (lv_room (Nat.le_of_ble_eq_true rfl)) dX5_areBeside_34 ⟨Nat.zero_le _, Nat.zero_le _⟩) (hD.same rfl) hS hA (fun H locs hP hS => ?_)
                obtain ⟨r19, hc20, hM⟩ := bnd1_at hM
                refine co_i (va_runV (As := [.int i2, .int r17]) (rest := []) ⟨hx, hb, hml, hown, hts⟩ (ctX5_standsOn l D Y oM H.size mM tk i2 r17 r19 hc20) (cwV 2 hts gX5_areBeside_X5_standsOn rfl rfl rfl (by decide +kernel) ⟨Nat.le_of_ble_eq_true rfl, Nat.le_of_ble_eq_true rfl⟩) (pcW_V0 (ci := 5) (q0 := 0) hK hP (hD.same rfl) rfl rfl) rfl rfl hl.1 rfl (lv_room (Nat.le_of_ble_eq_true rfl)) dX5_areBeside_37 ⟨Nat.zero_le _, Nat.zero_le _⟩) (hD.same rfl) hS hA (fun H locs hP hS => ?_)
                refine lv_if_ne (tgt := 58) hx hb dX5_areBeside_40 (by decide) (fun c21 => ?_) (fun c21 => ?_)
                · replace hM := if_at_neg hM c21
                  exact hJ11 hM H locs ls hP hS (lv_sub hl [0, 1, 2, 4] rfl)
                · replace hM := if_at_pos hM c21
                  refine lv_aload_n hx hb dX5_areBeside_43 rfl (lv_at hl 0 rfl) ?_
                  refine lv_iload_n hx hb dX5_areBeside_44 rfl (lv_at hl 2 rfl) ?_
                  refine lv_aload_n hx hb dX5_areBeside_45 rfl (lv_at hl 0 rfl) ?_
                  refine lv_iload hx hb dX5_areBeside_46 (lv_at hl 4 rfl) ?_
                  refine lv_iconst (v := (-1 : Int32)) hx hb dX5_areBeside_48 (by decide) ?_
                  obtain ⟨r22, hc23, hM⟩ := bnd1_at hM
                  refine co_i (va_runV (As := [.int x5, .int (-1 : Int32)]) (rest := [.int i2, .ref (oM 0)]) ⟨hx, hb, hml, hown, hts⟩ (ctX5_next l D Y oM H.size mM tk x5 (-1 : Int32) r22 hc23) (cwV 2 hts gX5_areBeside_X5_next rfl rfl rfl (by decide +kernel) ⟨Nat.le_of_ble_eq_true rfl, Nat.le_of_ble_eq_true rfl⟩) (pcW_V0 (ci := 5) (q0 := 0) hK hP (hD.same rfl) rfl rfl) rfl rfl hl.1 rfl (lv_room (Nat.le_of_ble_eq_true rfl)) dX5_areBeside_49 ⟨Nat.zero_le _, Nat.zero_le _⟩) (hD.same rfl) hS hA (fun H locs hP hS => ?_)
                  obtain ⟨r24, hc25, hM⟩ := bnd1_at hM
                  refine co_i (va_runV (As := [.int i2, .int r22]) (rest := []) ⟨hx, hb, hml, hown, hts⟩ (ctX5_standsOn l D Y oM H.size mM tk i2 r22 r24 hc25) (cwV 2 hts gX5_areBeside_X5_standsOn rfl rfl rfl (by decide +kernel) ⟨Nat.le_of_ble_eq_true rfl, Nat.le_of_ble_eq_true rfl⟩) (pcW_V0 (ci := 5) (q0 := 0) hK hP (hD.same rfl) rfl rfl) rfl rfl hl.1 rfl (lv_room (Nat.le_of_ble_eq_true rfl)) dX5_areBeside_52 ⟨Nat.zero_le _, Nat.zero_le _⟩) (hD.same rfl) hS hA (fun H locs hP hS => ?_)
                  refine lv_if_eq (tgt := 62) hx hb dX5_areBeside_55 (by decide) (fun c26 => ?_) (fun c26 => ?_)
                  · replace hM := if_at_pos hM c26
                    exact hJ15 hM H locs ls hP hS (lv_sub hl [0, 1, 2, 4] rfl)
                  · replace hM := if_at_neg hM c26
                    exact hJ11 hM H locs ls hP hS (lv_sub hl [0, 1, 2, 4] rfl)
noncomputable def MX5_doTouch (mM : GS) (i1 : Int32) (i2 : Int32) (i3 : Int32) : Option (Int32) := if i3 = 0 then (bnd1 (MX5_areBeside mM i1 i2) fun (r12 : Int32) => chkB r12 (some (r12))) else (jn1 (fun (x2 : Int32) => chkB x2 (some (x2))) (fun k3 => jn0 (k3 (0 : Int32)) (fun k5 => if ((mM 0 0) - (mM 0 0) / (2 : Int32) * (2 : Int32)) = 0 then (chkI i1 19 (bnd1 (MX5_next mM (mM 8 i1.toNatClampNeg) ((mM 0 0) / (2 : Int32))) fun (r8 : Int32) => chkI i2 19 (if r8 = (mM 8 i2.toNatClampNeg) then (k3 (1 : Int32)) else (k5)))) else (k5))))
abbrev rmX5_doTouch : Room := { frames := 4, cells := 0, slots := 0, locals := 160 }
set_option maxHeartbeats 4000000 in
set_option maxRecDepth 100000 in
theorem ctX5_doTouch (l : Launch) (D : va_G) (Y : Nat → ClassId) (oM : Nat → Nat) (sz : Nat) (mM : GS) (tk : Int64) (i1 : Int32) (i2 : Int32) (i3 : Int32) (rr : Int32) (hM : MX5_doTouch mM i1 i2 i3 = some (rr)) : Met l yX5_doTouch wsX5_doTouch rmX5_doTouch (pcW [.ref (oM 0), .int i1, .int i2, .int i3] sz D Y (cMod Y oM mM tk)) (qiW rr D (cMod Y oM mM tk) (va_A (cMod Y oM mM tk) sz)) 0 0 (va_A (cMod Y oM mM tk) sz) := by
  refine Met.ofW (cc := cX5_doTouch) (maxL := 4) (ret := (some .boolean)) (by decide) rfl ?_
  intro p e s m args below meth c s₁ B hml hv
  obtain ⟨rfl, hsz, hP, hK, hD0⟩ := hv
  have hx := B.exec
  have hb := B.bytes
  have hr := B.returns
  have hts := atoms_spec (ws := wsX5_doTouch) B.pre
  have hown : s.vm.findClass RX5 = some m.cls := findClass_of_methodNamed B.named
  have hlocks := B.notSynchronized
  subst hsz
  have hD := hD0.self (sz := s.heap.size)
  generalize hAe : va_A (cMod Y oM mM tk) s.heap.size = A at hD ⊢
  have hA : ∀ q : Nat, s.heap.size ≤ q → A q := fun q h => by rw [← hAe]; exact Or.inr h
  have hS : va_S A s.heap s.heap [] := va_S.rf
  have hi5 : ∀ w ∈ wsX50, w ∈ wsX5_doTouch := fun w h => List.mem_cons_of_mem _ (List.mem_append_right _ h)
  have hl := lv_entry ([.ref (oM 0), .int i1, .int i2, .int i3]) (n := 4) (Nat.le_of_ble_eq_true rfl)
  rw [lg_entry_eq]
  generalize (lg_sl ([.ref (oM 0), .int i1, .int i2, .int i3]) ++ List.replicate (4 - (lg_sl ([.ref (oM 0), .int i1, .int i2, .int i3])).length) Slot.unset).toArray = ls at hl ⊢
  have hl : lv_has ls 4 [(0, .ref (oM 0)), (1, .int i1), (2, .int i2), (3, .int i3)] := hl
  obtain ⟨QQ, hQQ⟩ : ∃ Q : State → Prop, Q = MQ below (qiW rr D (cMod Y oM mM tk) A) ([.ref (oM 0), .int i1, .int i2, .int i3] : List Value).toArray s 0 0 A := ⟨_, rfl⟩
  rw [← hQQ]
  unfold MX5_doTouch at hM
  suffices hI : ∀ (H : Heap) (locs : List Loc), va_P D vwCl (cMod Y oM mM tk) H → va_S A s.heap H locs → W p l e (headSpec wsX5_doTouch rmX5_doTouch).room s m ([.ref (oM 0), .int i1, .int i2, .int i3] : List Value).toArray below meth c H locs 0 0 QQ (F0 m 0 ls []) from hI _ _ hP hS
  clear hP hS
  intro H locs hP hS
  refine lv_iload_n hx hb dX5_doTouch_0 rfl (lv_at hl 3 rfl) ?_
  refine lv_if_ne (tgt := 11) hx hb dX5_doTouch_1 (by decide) (fun c1 => ?_) (fun c1 => ?_)
  · replace hM := if_at_neg hM c1
    refine lv_aload_n hx hb dX5_doTouch_11 rfl (lv_at hl 0 rfl) ?_
    refine va_get hx hb hts hi5 hown hK hP 0 rfl rfl 0 (by decide) (hts (.fieldLink RX5 7 "NightPlotsModel" "plots" "I") (List.mem_of_getElem? (i := 1) rfl)) (fun _ h9 => h9) rfl dX5_doTouch_12 ?_
    refine lv_iconst (v := (2 : Int32)) hx hb dX5_doTouch_15 (by decide) ?_
    refine lv_irem hx hb dX5_doTouch_16 (by decide) ?_
    refine jn1_at (fun (x2 : Int32) => ∀ (H : Heap) (locs : List Loc) (ls : Array Slot), va_P D vwCl (cMod Y oM mM tk) H → va_S A s.heap H locs → lv_has ls 4 [] → W p l e (headSpec wsX5_doTouch rmX5_doTouch).room s m ([.ref (oM 0), .int i1, .int i2, .int i3] : List Value).toArray below meth c H locs 0 0 QQ (F0 m 50 ls [.int x2])) hM (fun x2 hM H locs ls hP hS hl => ?_) (fun k3 hJ3 hM => ?_)
    · obtain ⟨hz4, hM⟩ := chkB_at hM
      cases hM
      rw [hQQ]
      exact W.zret (ty := .boolean) hx hb hr hz4 (fun t ht hW => ⟨⟨_, (), rfl, rfl, by show va_P D vwCl _ t.heap; rw [ht]; exact hP⟩, hS.F ht⟩) hS.2.2 dX5_doTouch_50
    · refine jn0_at (∀ (H : Heap) (locs : List Loc) (ls : Array Slot), va_P D vwCl (cMod Y oM mM tk) H → va_S A s.heap H locs → lv_has ls 4 [] → W p l e (headSpec wsX5_doTouch rmX5_doTouch).room s m ([.ref (oM 0), .int i1, .int i2, .int i3] : List Value).toArray below meth c H locs 0 0 QQ (F0 m 49 ls [])) hM (fun  hM H locs ls hP hS hl => ?_) (fun k5 hJ5 hM => ?_)
      · refine lv_iconst (v := (0 : Int32)) hx hb dX5_doTouch_49 (by decide) ?_
        exact hJ3 (0 : Int32) hM H locs ls hP hS (lv_sub hl [] rfl)
      · refine lv_if_ne (tgt := 49) hx hb dX5_doTouch_17 (by decide) (fun c6 => ?_) (fun c6 => ?_)
        · replace hM := if_at_neg hM c6
          exact hJ5 hM H locs ls hP hS (lv_sub hl [] rfl)
        · replace hM := if_at_pos hM c6
          refine lv_aload_n hx hb dX5_doTouch_20 rfl (lv_at hl 0 rfl) ?_
          refine lv_aload_n hx hb dX5_doTouch_21 rfl (lv_at hl 0 rfl) ?_
          refine va_get hx hb hts hi5 hown hK hP 0 rfl rfl 26 (by decide) (hts (.fieldLink RX5 38 "NightPlotsModel" "now" "[I") (List.mem_of_getElem? (i := 2) rfl)) (fun _ h9 => h9) rfl dX5_doTouch_22 ?_
          refine lv_iload_n hx hb dX5_doTouch_25 rfl (lv_at hl 1 rfl) ?_
          obtain ⟨hi_7, hM⟩ := chkI_at hM
          refine va_iald hx hb hK hP 8 0 rfl rfl hi_7 dX5_doTouch_26 ?_
          refine lv_aload_n hx hb dX5_doTouch_27 rfl (lv_at hl 0 rfl) ?_
          refine va_get hx hb hts hi5 hown hK hP 0 rfl rfl 0 (by decide) (hts (.fieldLink RX5 7 "NightPlotsModel" "plots" "I") (List.mem_of_getElem? (i := 1) rfl)) (fun _ h9 => h9) rfl dX5_doTouch_28 ?_
          refine lv_iconst (v := (2 : Int32)) hx hb dX5_doTouch_31 (by decide) ?_
          refine lv_idiv hx hb dX5_doTouch_32 (by decide) ?_
          obtain ⟨r8, hc9, hM⟩ := bnd1_at hM
          refine co_i (va_runV (As := [.int (mM 8 i1.toNatClampNeg), .int ((mM 0 0) / (2 : Int32))]) (rest := []) ⟨hx, hb, hml, hown, hts⟩ (ctX5_next l D Y oM H.size mM tk (mM 8 i1.toNatClampNeg) ((mM 0 0) / (2 : Int32)) r8 hc9) (cwV 2 hts gX5_doTouch_X5_next rfl rfl rfl (by decide +kernel) ⟨Nat.le_of_ble_eq_true rfl, Nat.le_of_ble_eq_true rfl⟩) (pcW_V0 (ci := 5) (q0 := 0) hK hP (hD.same rfl) rfl rfl) rfl rfl hl.1 rfl (lv_room (Nat.le_of_ble_eq_true rfl)) dX5_doTouch_33 ⟨Nat.zero_le _, Nat.zero_le _⟩) (hD.same rfl) hS hA (fun H locs hP hS => ?_)
          refine lv_aload_n hx hb dX5_doTouch_36 rfl (lv_at hl 0 rfl) ?_
          refine va_get hx hb hts hi5 hown hK hP 0 rfl rfl 26 (by decide) (hts (.fieldLink RX5 38 "NightPlotsModel" "now" "[I") (List.mem_of_getElem? (i := 2) rfl)) (fun _ h9 => h9) rfl dX5_doTouch_37 ?_
          refine lv_iload_n hx hb dX5_doTouch_40 rfl (lv_at hl 2 rfl) ?_
          obtain ⟨hi_10, hM⟩ := chkI_at hM
          refine va_iald hx hb hK hP 8 0 rfl rfl hi_10 dX5_doTouch_41 ?_
          refine lv_icmp_ne (tgt := 49) hx hb dX5_doTouch_42 (by decide) (fun c11 => ?_) (fun c11 => ?_)
          · replace hM := if_at_neg hM c11
            exact hJ5 hM H locs ls hP hS (lv_sub hl [] rfl)
          · replace hM := if_at_pos hM c11
            refine lv_iconst (v := (1 : Int32)) hx hb dX5_doTouch_45 (by decide) ?_
            refine lv_goto (tgt := 50) hx hb dX5_doTouch_46 (by decide) ?_
            exact hJ3 (1 : Int32) hM H locs ls hP hS (lv_sub hl [] rfl)
  · replace hM := if_at_pos hM c1
    refine lv_aload_n hx hb dX5_doTouch_4 rfl (lv_at hl 0 rfl) ?_
    refine lv_iload_n hx hb dX5_doTouch_5 rfl (lv_at hl 1 rfl) ?_
    refine lv_iload_n hx hb dX5_doTouch_6 rfl (lv_at hl 2 rfl) ?_
    obtain ⟨r12, hc13, hM⟩ := bnd1_at hM
    refine co_i (va_runV (As := [.int i1, .int i2]) (rest := []) ⟨hx, hb, hml, hown, hts⟩ (ctX5_areBeside l D Y oM H.size mM tk i1 i2 r12 hc13) (cwV 2 hts gX5_doTouch_X5_areBeside rfl rfl rfl (by decide +kernel) ⟨Nat.le_of_ble_eq_true rfl, Nat.le_of_ble_eq_true rfl⟩) (pcW_V0 (ci := 5) (q0 := 0) hK hP (hD.same rfl) rfl rfl) rfl rfl hl.1 rfl (lv_room (Nat.le_of_ble_eq_true rfl)) dX5_doTouch_7 ⟨Nat.zero_le _, Nat.zero_le _⟩) (hD.same rfl) hS hA (fun H locs hP hS => ?_)
    obtain ⟨hz14, hM⟩ := chkB_at hM
    cases hM
    rw [hQQ]
    exact W.zret (ty := .boolean) hx hb hr hz14 (fun t ht hW => ⟨⟨_, (), rfl, rfl, by show va_P D vwCl _ t.heap; rw [ht]; exact hP⟩, hS.F ht⟩) hS.2.2 dX5_doTouch_10
noncomputable def MX5_whyNot (mM : GS) (i1 : Int32) (i2 : Int32) (i3 : Int32) : Option (Int32) := bnd1 (MX5_isHouse mM i1) fun (r1 : Int32) => jn1 (fun (x3 : Int32) => some (x3)) (fun k4 => jn0 (k4 (-2 : Int32)) (fun k5 => if r1 = 0 then (k5) else (bnd1 (MX5_isHouse mM i2) fun (r7 : Int32) => if r7 = 0 then (k5) else (jn0 (k4 (-3 : Int32)) (fun k10 => if i1 = i2 then (k10) else (if i3 = 0 then (k10) else (k4 (0 : Int32))))))))
abbrev rmX5_whyNot : Room := { frames := 3, cells := 0, slots := 0, locals := 120 }
set_option maxHeartbeats 4000000 in
set_option maxRecDepth 100000 in
theorem ctX5_whyNot (l : Launch) (D : va_G) (Y : Nat → ClassId) (oM : Nat → Nat) (sz : Nat) (mM : GS) (tk : Int64) (i1 : Int32) (i2 : Int32) (i3 : Int32) (rr : Int32) (hM : MX5_whyNot mM i1 i2 i3 = some (rr)) : Met l yX5_whyNot wsX5_whyNot rmX5_whyNot (pcW [.ref (oM 0), .int i1, .int i2, .int i3] sz D Y (cMod Y oM mM tk)) (qiW rr D (cMod Y oM mM tk) (va_A (cMod Y oM mM tk) sz)) 0 0 (va_A (cMod Y oM mM tk) sz) := by
  refine Met.ofW (cc := cX5_whyNot) (maxL := 4) (ret := (some .int)) (by decide) rfl ?_
  intro p e s m args below meth c s₁ B hml hv
  obtain ⟨rfl, hsz, hP, hK, hD0⟩ := hv
  have hx := B.exec
  have hb := B.bytes
  have hr := B.returns
  have hts := atoms_spec (ws := wsX5_whyNot) B.pre
  have hown : s.vm.findClass RX5 = some m.cls := findClass_of_methodNamed B.named
  have hlocks := B.notSynchronized
  subst hsz
  have hD := hD0.self (sz := s.heap.size)
  generalize hAe : va_A (cMod Y oM mM tk) s.heap.size = A at hD ⊢
  have hA : ∀ q : Nat, s.heap.size ≤ q → A q := fun q h => by rw [← hAe]; exact Or.inr h
  have hS : va_S A s.heap s.heap [] := va_S.rf
  have hl := lv_entry ([.ref (oM 0), .int i1, .int i2, .int i3]) (n := 4) (Nat.le_of_ble_eq_true rfl)
  rw [lg_entry_eq]
  generalize (lg_sl ([.ref (oM 0), .int i1, .int i2, .int i3]) ++ List.replicate (4 - (lg_sl ([.ref (oM 0), .int i1, .int i2, .int i3])).length) Slot.unset).toArray = ls at hl ⊢
  have hl : lv_has ls 4 [(0, .ref (oM 0)), (1, .int i1), (2, .int i2), (3, .int i3)] := hl
  obtain ⟨QQ, hQQ⟩ : ∃ Q : State → Prop, Q = MQ below (qiW rr D (cMod Y oM mM tk) A) ([.ref (oM 0), .int i1, .int i2, .int i3] : List Value).toArray s 0 0 A := ⟨_, rfl⟩
  rw [← hQQ]
  unfold MX5_whyNot at hM
  suffices hI : ∀ (H : Heap) (locs : List Loc), va_P D vwCl (cMod Y oM mM tk) H → va_S A s.heap H locs → W p l e (headSpec wsX5_whyNot rmX5_whyNot).room s m ([.ref (oM 0), .int i1, .int i2, .int i3] : List Value).toArray below meth c H locs 0 0 QQ (F0 m 0 ls []) from hI _ _ hP hS
  clear hP hS
  intro H locs hP hS
  refine lv_aload_n hx hb dX5_whyNot_0 rfl (lv_at hl 0 rfl) ?_
  refine lv_iload_n hx hb dX5_whyNot_1 rfl (lv_at hl 1 rfl) ?_
  obtain ⟨r1, hc2, hM⟩ := bnd1_at hM
  refine co_i (va_runV (As := [.int i1]) (rest := []) ⟨hx, hb, hml, hown, hts⟩ (ctX5_isHouse l D Y oM H.size mM tk i1 r1 hc2) (cwV 1 hts gX5_whyNot_X5_isHouse rfl rfl rfl (by decide +kernel) ⟨Nat.le_of_ble_eq_true rfl, Nat.le_of_ble_eq_true rfl⟩) (pcW_V0 (ci := 5) (q0 := 0) hK hP (hD.same rfl) rfl rfl) rfl rfl hl.1 rfl (lv_room (Nat.le_of_ble_eq_true rfl)) dX5_whyNot_2 ⟨Nat.zero_le _, Nat.zero_le _⟩) (hD.same rfl) hS hA (fun H locs hP hS => ?_)
  refine jn1_at (fun (x3 : Int32) => ∀ (H : Heap) (locs : List Loc) (ls : Array Slot), va_P D vwCl (cMod Y oM mM tk) H → va_S A s.heap H locs → lv_has ls 4 [] → W p l e (headSpec wsX5_whyNot rmX5_whyNot).room s m ([.ref (oM 0), .int i1, .int i2, .int i3] : List Value).toArray below meth c H locs 0 0 QQ (F0 m 36 ls [.int x3])) hM (fun x3 hM H locs ls hP hS hl => ?_) (fun k4 hJ4 hM => ?_)
  · cases hM
    rw [hQQ]
    exact W.iret hx hb hr (fun t ht hW => ⟨⟨_, (), rfl, rfl, by show va_P D vwCl _ t.heap; rw [ht]; exact hP⟩, hS.F ht⟩) hS.2.2 dX5_whyNot_36
  · refine jn0_at (∀ (H : Heap) (locs : List Loc) (ls : Array Slot), va_P D vwCl (cMod Y oM mM tk) H → va_S A s.heap H locs → lv_has ls 4 [] → W p l e (headSpec wsX5_whyNot rmX5_whyNot).room s m ([.ref (oM 0), .int i1, .int i2, .int i3] : List Value).toArray below meth c H locs 0 0 QQ (F0 m 16 ls [])) hM (fun  hM H locs ls hP hS hl => ?_) (fun k5 hJ5 hM => ?_)
    · refine lv_bipush (v := (-2 : Int32)) hx hb dX5_whyNot_16 (by decide) ?_
      refine lv_goto (tgt := 36) hx hb dX5_whyNot_18 (by decide) ?_
      exact hJ4 (-2 : Int32) hM H locs ls hP hS (lv_sub hl [] rfl)
    · refine lv_if_eq (tgt := 16) hx hb dX5_whyNot_5 (by decide) (fun c6 => ?_) (fun c6 => ?_)
      · replace hM := if_at_pos hM c6
        exact hJ5 hM H locs ls hP hS (lv_sub hl [] rfl)
      · replace hM := if_at_neg hM c6
        refine lv_aload_n hx hb dX5_whyNot_8 rfl (lv_at hl 0 rfl) ?_
        refine lv_iload_n hx hb dX5_whyNot_9 rfl (lv_at hl 2 rfl) ?_
        obtain ⟨r7, hc8, hM⟩ := bnd1_at hM
        refine co_i (va_runV (As := [.int i2]) (rest := []) ⟨hx, hb, hml, hown, hts⟩ (ctX5_isHouse l D Y oM H.size mM tk i2 r7 hc8) (cwV 1 hts gX5_whyNot_X5_isHouse rfl rfl rfl (by decide +kernel) ⟨Nat.le_of_ble_eq_true rfl, Nat.le_of_ble_eq_true rfl⟩) (pcW_V0 (ci := 5) (q0 := 0) hK hP (hD.same rfl) rfl rfl) rfl rfl hl.1 rfl (lv_room (Nat.le_of_ble_eq_true rfl)) dX5_whyNot_10 ⟨Nat.zero_le _, Nat.zero_le _⟩) (hD.same rfl) hS hA (fun H locs hP hS => ?_)
        refine lv_if_ne (tgt := 21) hx hb dX5_whyNot_13 (by decide) (fun c9 => ?_) (fun c9 => ?_)
        · replace hM := if_at_neg hM c9
          refine lv_iload_n hx hb dX5_whyNot_21 rfl (lv_at hl 1 rfl) ?_
          refine lv_iload_n hx hb dX5_whyNot_22 rfl (lv_at hl 2 rfl) ?_
          refine jn0_at (∀ (H : Heap) (locs : List Loc) (ls : Array Slot), va_P D vwCl (cMod Y oM mM tk) H → va_S A s.heap H locs → lv_has ls 4 [] → W p l e (headSpec wsX5_whyNot rmX5_whyNot).room s m ([.ref (oM 0), .int i1, .int i2, .int i3] : List Value).toArray below meth c H locs 0 0 QQ (F0 m 30 ls [])) hM (fun  hM H locs ls hP hS hl => ?_) (fun k10 hJ10 hM => ?_)
          · refine lv_bipush (v := (-3 : Int32)) hx hb dX5_whyNot_30 (by decide) ?_
            refine lv_goto (tgt := 36) hx hb dX5_whyNot_32 (by decide) ?_
            exact hJ4 (-3 : Int32) hM H locs ls hP hS (lv_sub hl [] rfl)
          · refine lv_icmp_eq (tgt := 30) hx hb dX5_whyNot_23 (by decide) (fun c11 => ?_) (fun c11 => ?_)
            · replace hM := if_at_pos hM c11
              exact hJ10 hM H locs ls hP hS (lv_sub hl [] rfl)
            · replace hM := if_at_neg hM c11
              refine lv_iload_n hx hb dX5_whyNot_26 rfl (lv_at hl 3 rfl) ?_
              refine lv_if_ne (tgt := 35) hx hb dX5_whyNot_27 (by decide) (fun c12 => ?_) (fun c12 => ?_)
              · replace hM := if_at_neg hM c12
                refine lv_iconst (v := (0 : Int32)) hx hb dX5_whyNot_35 (by decide) ?_
                exact hJ4 (0 : Int32) hM H locs ls hP hS (lv_sub hl [] rfl)
              · replace hM := if_at_pos hM c12
                exact hJ10 hM H locs ls hP hS (lv_sub hl [] rfl)
        · replace hM := if_at_pos hM c9
          exact hJ5 hM H locs ls hP hS (lv_sub hl [] rfl)
noncomputable def MX5_touch (mM : GS) (i1 : Int32) (i2 : Int32) (i3 : Int32) : Option (Int32) := bnd1 (MX5_in i3 (0 : Int32) (1 : Int32)) fun (r1 : Int32) => bnd1 (MX5_whyNot mM i1 i2 r1) fun (r3 : Int32) => jn1 (fun (x5 : Int32) => some (x5)) (fun k6 => if r3 = 0 then (bnd1 (MX5_doTouch mM i1 i2 i3) fun (r8 : Int32) => if r8 = 0 then (k6 (0 : Int32)) else (k6 (1 : Int32))) else (k6 r3))
abbrev rmX5_touch : Room := { frames := 5, cells := 0, slots := 0, locals := 200 }
set_option maxHeartbeats 4000000 in
set_option maxRecDepth 100000 in
theorem ctX5_touch (l : Launch) (D : va_G) (Y : Nat → ClassId) (oM : Nat → Nat) (sz : Nat) (mM : GS) (tk : Int64) (i1 : Int32) (i2 : Int32) (i3 : Int32) (rr : Int32) (hM : MX5_touch mM i1 i2 i3 = some (rr)) : Met l yX5_touch wsX5_touch rmX5_touch (pcW [.ref (oM 0), .int i1, .int i2, .int i3] sz D Y (cMod Y oM mM tk)) (qiW rr D (cMod Y oM mM tk) (va_A (cMod Y oM mM tk) sz)) 0 0 (va_A (cMod Y oM mM tk) sz) := by
  refine Met.ofW (cc := cX5_touch) (maxL := 5) (ret := (some .int)) (by decide) rfl ?_
  intro p e s m args below meth c s₁ B hml hv
  obtain ⟨rfl, hsz, hP, hK, hD0⟩ := hv
  have hx := B.exec
  have hb := B.bytes
  have hr := B.returns
  have hts := atoms_spec (ws := wsX5_touch) B.pre
  have hown : s.vm.findClass RX5 = some m.cls := findClass_of_methodNamed B.named
  have hlocks := B.notSynchronized
  subst hsz
  have hD := hD0.self (sz := s.heap.size)
  generalize hAe : va_A (cMod Y oM mM tk) s.heap.size = A at hD ⊢
  have hA : ∀ q : Nat, s.heap.size ≤ q → A q := fun q h => by rw [← hAe]; exact Or.inr h
  have hS : va_S A s.heap s.heap [] := va_S.rf
  have hl := lv_entry ([.ref (oM 0), .int i1, .int i2, .int i3]) (n := 5) (Nat.le_of_ble_eq_true rfl)
  rw [lg_entry_eq]
  generalize (lg_sl ([.ref (oM 0), .int i1, .int i2, .int i3]) ++ List.replicate (5 - (lg_sl ([.ref (oM 0), .int i1, .int i2, .int i3])).length) Slot.unset).toArray = ls at hl ⊢
  have hl : lv_has ls 5 [(0, .ref (oM 0)), (1, .int i1), (2, .int i2), (3, .int i3)] := hl
  obtain ⟨QQ, hQQ⟩ : ∃ Q : State → Prop, Q = MQ below (qiW rr D (cMod Y oM mM tk) A) ([.ref (oM 0), .int i1, .int i2, .int i3] : List Value).toArray s 0 0 A := ⟨_, rfl⟩
  rw [← hQQ]
  unfold MX5_touch at hM
  suffices hI : ∀ (H : Heap) (locs : List Loc), va_P D vwCl (cMod Y oM mM tk) H → va_S A s.heap H locs → W p l e (headSpec wsX5_touch rmX5_touch).room s m ([.ref (oM 0), .int i1, .int i2, .int i3] : List Value).toArray below meth c H locs 0 0 QQ (F0 m 0 ls []) from hI _ _ hP hS
  clear hP hS
  intro H locs hP hS
  refine lv_aload_n hx hb dX5_touch_0 rfl (lv_at hl 0 rfl) ?_
  refine lv_iload_n hx hb dX5_touch_1 rfl (lv_at hl 1 rfl) ?_
  refine lv_iload_n hx hb dX5_touch_2 rfl (lv_at hl 2 rfl) ?_
  refine lv_iload_n hx hb dX5_touch_3 rfl (lv_at hl 3 rfl) ?_
  refine lv_iconst (v := (0 : Int32)) hx hb dX5_touch_4 (by decide) ?_
  refine lv_iconst (v := (1 : Int32)) hx hb dX5_touch_5 (by decide) ?_
  obtain ⟨r1, hc2, hM⟩ := bnd1_at hM
  refine cm_i (w2 := (cMod Y oM mM tk)) (va_runS (As := [.int i3, .int (0 : Int32), .int (1 : Int32)]) (rest := [.int i2, .int i1, .ref (oM 0)]) ⟨hx, hb, hml, hown, hts⟩ (ctX5_in l D Y H.size i3 (0 : Int32) (1 : Int32) r1 hc2) (cwS 3 hts gX5_touch_X5_in rfl rfl rfl (by decide +kernel) ⟨Nat.le_of_ble_eq_true rfl, Nat.le_of_ble_eq_true rfl⟩) (pcW_S hK hP (hD.same rfl) [] rfl (pc_map pc_nil)) rfl rfl hl.1 rfl (lv_room (Nat.le_of_ble_eq_true rfl)) dX5_touch_6 ⟨Nat.zero_le _, Nat.zero_le _⟩) hP (hD.same rfl) hS hA [] (pc_map pc_nil) (up_old rfl rfl (up_old rfl rfl (up_old rfl rfl (up_old rfl rfl (up_old rfl rfl (up_old rfl rfl (up_old rfl rfl (up_old rfl rfl (up_old rfl rfl (up_old rfl rfl (up_old rfl rfl (up_old rfl rfl (up_old rfl rfl (up_old rfl rfl (up_old rfl rfl (up_old rfl rfl (up_old rfl rfl (up_old rfl rfl (up_old rfl rfl up_nil))))))))))))))))))) (fun H locs hP hS => ?_)
  obtain ⟨r3, hc4, hM⟩ := bnd1_at hM
  refine co_i (va_runV (As := [.int i1, .int i2, .int r1]) (rest := []) ⟨hx, hb, hml, hown, hts⟩ (ctX5_whyNot l D Y oM H.size mM tk i1 i2 r1 r3 hc4) (cwV 3 hts gX5_touch_X5_whyNot rfl rfl rfl (by decide +kernel) ⟨Nat.le_of_ble_eq_true rfl, Nat.le_of_ble_eq_true rfl⟩) (pcW_V0 (ci := 5) (q0 := 0) hK hP (hD.same rfl) rfl rfl) rfl rfl hl.1 rfl (lv_room (Nat.le_of_ble_eq_true rfl)) dX5_touch_9 ⟨Nat.zero_le _, Nat.zero_le _⟩) (hD.same rfl) hS hA (fun H locs hP hS => ?_)
  refine lv_istore (lv' := [(4, .int r3), (0, .ref (oM 0)), (1, .int i1), (2, .int i2), (3, .int i3)]) hx hb dX5_touch_12 hl (by decide) rfl (fun ls hl => ?_)
  refine lv_iload hx hb dX5_touch_14 (lv_at hl 0 rfl) ?_
  refine jn1_at (fun (x5 : Int32) => ∀ (H : Heap) (locs : List Loc) (ls : Array Slot), va_P D vwCl (cMod Y oM mM tk) H → va_S A s.heap H locs → lv_has ls 5 [] → W p l e (headSpec wsX5_touch rmX5_touch).room s m ([.ref (oM 0), .int i1, .int i2, .int i3] : List Value).toArray below meth c H locs 0 0 QQ (F0 m 39 ls [.int x5])) hM (fun x5 hM H locs ls hP hS hl => ?_) (fun k6 hJ6 hM => ?_)
  · cases hM
    rw [hQQ]
    exact W.iret hx hb hr (fun t ht hW => ⟨⟨_, (), rfl, rfl, by show va_P D vwCl _ t.heap; rw [ht]; exact hP⟩, hS.F ht⟩) hS.2.2 dX5_touch_39
  · refine lv_if_eq (tgt := 24) hx hb dX5_touch_16 (by decide) (fun c7 => ?_) (fun c7 => ?_)
    · replace hM := if_at_pos hM c7
      refine lv_aload_n hx hb dX5_touch_24 rfl (lv_at hl 1 rfl) ?_
      refine lv_iload_n hx hb dX5_touch_25 rfl (lv_at hl 2 rfl) ?_
      refine lv_iload_n hx hb dX5_touch_26 rfl (lv_at hl 3 rfl) ?_
      refine lv_iload_n hx hb dX5_touch_27 rfl (lv_at hl 4 rfl) ?_
      obtain ⟨r8, hc9, hM⟩ := bnd1_at hM
      refine co_i (va_runV (As := [.int i1, .int i2, .int i3]) (rest := []) ⟨hx, hb, hml, hown, hts⟩ (ctX5_doTouch l D Y oM H.size mM tk i1 i2 i3 r8 hc9) (cwV 3 hts gX5_touch_X5_doTouch rfl rfl rfl (by decide +kernel) ⟨Nat.le_of_ble_eq_true rfl, Nat.le_of_ble_eq_true rfl⟩) (pcW_V0 (ci := 5) (q0 := 0) hK hP (hD.same rfl) rfl rfl) rfl rfl hl.1 rfl (lv_room (Nat.le_of_ble_eq_true rfl)) dX5_touch_28 ⟨Nat.zero_le _, Nat.zero_le _⟩) (hD.same rfl) hS hA (fun H locs hP hS => ?_)
      refine lv_if_eq (tgt := 38) hx hb dX5_touch_31 (by decide) (fun c10 => ?_) (fun c10 => ?_)
      · replace hM := if_at_pos hM c10
        refine lv_iconst (v := (0 : Int32)) hx hb dX5_touch_38 (by decide) ?_
        exact hJ6 (0 : Int32) hM H locs ls hP hS (lv_sub hl [] rfl)
      · replace hM := if_at_neg hM c10
        refine lv_iconst (v := (1 : Int32)) hx hb dX5_touch_34 (by decide) ?_
        refine lv_goto (tgt := 39) hx hb dX5_touch_35 (by decide) ?_
        exact hJ6 (1 : Int32) hM H locs ls hP hS (lv_sub hl [] rfl)
    · replace hM := if_at_neg hM c7
      refine lv_iload hx hb dX5_touch_19 (lv_at hl 0 rfl) ?_
      refine lv_goto (tgt := 39) hx hb dX5_touch_21 (by decide) ?_
      exact hJ6 r3 hM H locs ls hP hS (lv_sub hl [] rfl)
noncomputable def BX5_when_32 (k10 : Int32 → GS → Option (Int32 × GS)) (i1 : Int32) (i2 : Int32) (i3 : Int32) (rec16 : Int32 → Int32 → GS → Option (Int32 × GS)) (x13 : Int32) (x14 : Int32) (mM_15 : GS) : Option (Int32 × GS) := if (400 : Int32) ≤ x14 then (k10 x13 mM_15) else (if x13 = (-1 : Int32) then (bnd1 (MX5_doTouch mM_15 i1 i2 i3) fun (r19 : Int32) => jn1 (fun (x21 : Int32) => bnd1 (MX5_goNight mM_15) fun (mM_23 : GS) => nm (x14 + 1) fun (x25 : Int32) => rec16 x21 x25 mM_23) (fun k22 => if r19 = 0 then (k22 (-1 : Int32)) else (k22 x14))) else (k10 x13 mM_15))
noncomputable def MX5_when (mM : GS) (i1 : Int32) (i2 : Int32) (i3 : Int32) : Option (Int32 × GS) := bnd1 (MX5_in i3 (0 : Int32) (1 : Int32)) fun (r1 : Int32) => bnd1 (MX5_whyNot mM i1 i2 r1) fun (r3 : Int32) => if r3 = 0 then (bnd1 (MX5_putAside mM) fun (mM_6 : GS) => jn2 (fun (x8 : Int32) (mM_9 : GS) => bnd1 (MX5_putBack mM_9) fun (mM_11 : GS) => some (x8, mM_11)) (fun k10 => lq3 (BX5_when_32 k10 i1 i2 i3) FU (-1 : Int32) (0 : Int32) mM_6)) else (some (r3, mM))
abbrev rmX5_when : Room := { frames := 6, cells := 0, slots := 0, locals := 240 }
set_option maxHeartbeats 4000000 in
set_option maxRecDepth 100000 in
theorem ctX5_when (l : Launch) (D : va_G) (Y : Nat → ClassId) (oM : Nat → Nat) (sz : Nat) (mM : GS) (tk : Int64) (i1 : Int32) (i2 : Int32) (i3 : Int32) (rr : Int32) (mMz : GS) (hM : MX5_when mM i1 i2 i3 = some (rr, mMz)) : Met l yX5_when wsX5_when rmX5_when (pcW [.ref (oM 0), .int i1, .int i2, .int i3] sz D Y (cMod Y oM mM tk)) (qiW rr D (cMod Y oM mMz tk) (va_A (cMod Y oM mM tk) sz)) 0 0 (va_A (cMod Y oM mM tk) sz) := by
  refine Met.ofW (cc := cX5_when) (maxL := 7) (ret := (some .int)) (by decide) rfl ?_
  intro p e s m args below meth c s₁ B hml hv
  obtain ⟨rfl, hsz, hP, hK, hD0⟩ := hv
  have hx := B.exec
  have hb := B.bytes
  have hr := B.returns
  have hts := atoms_spec (ws := wsX5_when) B.pre
  have hown : s.vm.findClass RX5 = some m.cls := findClass_of_methodNamed B.named
  have hlocks := B.notSynchronized
  subst hsz
  have hD := hD0.self (sz := s.heap.size)
  generalize hAe : va_A (cMod Y oM mM tk) s.heap.size = A at hD ⊢
  have hA : ∀ q : Nat, s.heap.size ≤ q → A q := fun q h => by rw [← hAe]; exact Or.inr h
  have hS : va_S A s.heap s.heap [] := va_S.rf
  have hl := lv_entry ([.ref (oM 0), .int i1, .int i2, .int i3]) (n := 7) (Nat.le_of_ble_eq_true rfl)
  rw [lg_entry_eq]
  generalize (lg_sl ([.ref (oM 0), .int i1, .int i2, .int i3]) ++ List.replicate (7 - (lg_sl ([.ref (oM 0), .int i1, .int i2, .int i3])).length) Slot.unset).toArray = ls at hl ⊢
  have hl : lv_has ls 7 [(0, .ref (oM 0)), (1, .int i1), (2, .int i2), (3, .int i3)] := hl
  obtain ⟨QQ, hQQ⟩ : ∃ Q : State → Prop, Q = MQ below (qiW rr D (cMod Y oM mMz tk) A) ([.ref (oM 0), .int i1, .int i2, .int i3] : List Value).toArray s 0 0 A := ⟨_, rfl⟩
  rw [← hQQ]
  unfold MX5_when at hM
  suffices hI : ∀ (H : Heap) (locs : List Loc), va_P D vwCl (cMod Y oM mM tk) H → va_S A s.heap H locs → W p l e (headSpec wsX5_when rmX5_when).room s m ([.ref (oM 0), .int i1, .int i2, .int i3] : List Value).toArray below meth c H locs 0 0 QQ (F0 m 0 ls []) from hI _ _ hP hS
  clear hP hS
  intro H locs hP hS
  refine lv_aload_n hx hb dX5_when_0 rfl (lv_at hl 0 rfl) ?_
  refine lv_iload_n hx hb dX5_when_1 rfl (lv_at hl 1 rfl) ?_
  refine lv_iload_n hx hb dX5_when_2 rfl (lv_at hl 2 rfl) ?_
  refine lv_iload_n hx hb dX5_when_3 rfl (lv_at hl 3 rfl) ?_
  refine lv_iconst (v := (0 : Int32)) hx hb dX5_when_4 (by decide) ?_
  refine lv_iconst (v := (1 : Int32)) hx hb dX5_when_5 (by decide) ?_
  obtain ⟨r1, hc2, hM⟩ := bnd1_at hM
  refine cm_i (w2 := (cMod Y oM mM tk)) (va_runS (As := [.int i3, .int (0 : Int32), .int (1 : Int32)]) (rest := [.int i2, .int i1, .ref (oM 0)]) ⟨hx, hb, hml, hown, hts⟩ (ctX5_in l D Y H.size i3 (0 : Int32) (1 : Int32) r1 hc2) (cwS 3 hts gX5_when_X5_in rfl rfl rfl (by decide +kernel) ⟨Nat.le_of_ble_eq_true rfl, Nat.le_of_ble_eq_true rfl⟩) (pcW_S hK hP (hD.same rfl) [] rfl (pc_map pc_nil)) rfl rfl hl.1 rfl (lv_room (Nat.le_of_ble_eq_true rfl)) dX5_when_6 ⟨Nat.zero_le _, Nat.zero_le _⟩) hP (hD.same rfl) hS hA [] (pc_map pc_nil) (up_old rfl rfl (up_old rfl rfl (up_old rfl rfl (up_old rfl rfl (up_old rfl rfl (up_old rfl rfl (up_old rfl rfl (up_old rfl rfl (up_old rfl rfl (up_old rfl rfl (up_old rfl rfl (up_old rfl rfl (up_old rfl rfl (up_old rfl rfl (up_old rfl rfl (up_old rfl rfl (up_old rfl rfl (up_old rfl rfl (up_old rfl rfl up_nil))))))))))))))))))) (fun H locs hP hS => ?_)
  obtain ⟨r3, hc4, hM⟩ := bnd1_at hM
  refine co_i (va_runV (As := [.int i1, .int i2, .int r1]) (rest := []) ⟨hx, hb, hml, hown, hts⟩ (ctX5_whyNot l D Y oM H.size mM tk i1 i2 r1 r3 hc4) (cwV 3 hts gX5_when_X5_whyNot rfl rfl rfl (by decide +kernel) ⟨Nat.le_of_ble_eq_true rfl, Nat.le_of_ble_eq_true rfl⟩) (pcW_V0 (ci := 5) (q0 := 0) hK hP (hD.same rfl) rfl rfl) rfl rfl hl.1 rfl (lv_room (Nat.le_of_ble_eq_true rfl)) dX5_when_9 ⟨Nat.zero_le _, Nat.zero_le _⟩) (hD.same rfl) hS hA (fun H locs hP hS => ?_)
  refine lv_istore (lv' := [(4, .int r3), (0, .ref (oM 0)), (1, .int i1), (2, .int i2), (3, .int i3)]) hx hb dX5_when_12 hl (by decide) rfl (fun ls hl => ?_)
  refine lv_iload hx hb dX5_when_14 (lv_at hl 0 rfl) ?_
  refine lv_if_eq (tgt := 22) hx hb dX5_when_16 (by decide) (fun c5 => ?_) (fun c5 => ?_)
  · replace hM := if_at_pos hM c5
    refine lv_aload_n hx hb dX5_when_22 rfl (lv_at hl 1 rfl) ?_
    obtain ⟨mM_6, hc7, hM⟩ := bnd1_at hM
    refine co_v (va_runV (As := []) (rest := []) ⟨hx, hb, hml, hown, hts⟩ (ctX5_putAside l D Y oM H.size mM tk mM_6 hc7) (cwV 0 hts gX5_when_X5_putAside rfl rfl rfl (by decide +kernel) ⟨Nat.le_of_ble_eq_true rfl, Nat.le_of_ble_eq_true rfl⟩) (pcW_V0 (ci := 5) (q0 := 0) hK hP (hD.same rfl) rfl rfl) rfl rfl hl.1 rfl (lv_room (Nat.le_of_ble_eq_true rfl)) dX5_when_23 ⟨Nat.zero_le _, Nat.zero_le _⟩) (hD.same rfl) hS hA (fun H locs hP hS => ?_)
    refine lv_iconst (v := (-1 : Int32)) hx hb dX5_when_26 (by decide) ?_
    refine lv_istore (lv' := [(5, .int (-1 : Int32)), (4, .int r3), (0, .ref (oM 0)), (1, .int i1), (2, .int i2), (3, .int i3)]) hx hb dX5_when_27 hl (by decide) rfl (fun ls hl => ?_)
    refine lv_iconst (v := (0 : Int32)) hx hb dX5_when_29 (by decide) ?_
    refine lv_istore (lv' := [(6, .int (0 : Int32)), (5, .int (-1 : Int32)), (4, .int r3), (0, .ref (oM 0)), (1, .int i1), (2, .int i2), (3, .int i3)]) hx hb dX5_when_30 hl (by decide) rfl (fun ls hl => ?_)
    refine jn2_at (fun (x8 : Int32) (mM_9 : GS) => ∀ (H : Heap) (locs : List Loc) (ls : Array Slot), va_P D vwCl (cMod Y oM mM_9 tk) H → va_S A s.heap H locs → lv_has ls 7 [(0, .ref (oM 0)), (5, .int x8)] → W p l e (headSpec wsX5_when rmX5_when).room s m ([.ref (oM 0), .int i1, .int i2, .int i3] : List Value).toArray below meth c H locs 0 0 QQ (F0 m 74 ls [])) hM (fun x8 mM_9 hM H locs ls hP hS hl => ?_) (fun k10 hJ10 hM => ?_)
    · refine lv_aload_n hx hb dX5_when_74 rfl (lv_at hl 0 rfl) ?_
      obtain ⟨mM_11, hc12, hM⟩ := bnd1_at hM
      refine co_v (va_runV (As := []) (rest := []) ⟨hx, hb, hml, hown, hts⟩ (ctX5_putBack l D Y oM H.size mM_9 tk mM_11 hc12) (cwV 0 hts gX5_when_X5_putBack rfl rfl rfl (by decide +kernel) ⟨Nat.le_of_ble_eq_true rfl, Nat.le_of_ble_eq_true rfl⟩) (pcW_V0 (ci := 5) (q0 := 0) hK hP (hD.same rfl) rfl rfl) rfl rfl hl.1 rfl (lv_room (Nat.le_of_ble_eq_true rfl)) dX5_when_75 ⟨Nat.zero_le _, Nat.zero_le _⟩) (hD.same rfl) hS hA (fun H locs hP hS => ?_)
      refine lv_iload hx hb dX5_when_78 (lv_at hl 1 rfl) ?_
      cases hM
      rw [hQQ]
      exact W.iret hx hb hr (fun t ht hW => ⟨⟨_, (), rfl, rfl, by show va_P D vwCl _ t.heap; rw [ht]; exact hP⟩, hS.F ht⟩) hS.2.2 dX5_when_80
    · refine lq3_at (fun (x13 : Int32) (x14 : Int32) (mM_15 : GS) => ∀ (H : Heap) (locs : List Loc) (ls : Array Slot), va_P D vwCl (cMod Y oM mM_15 tk) H → va_S A s.heap H locs → lv_has ls 7 [(0, .ref (oM 0)), (1, .int i1), (2, .int i2), (3, .int i3), (5, .int x13), (6, .int x14)] → W p l e (headSpec wsX5_when rmX5_when).room s m ([.ref (oM 0), .int i1, .int i2, .int i3] : List Value).toArray below meth c H locs 0 0 QQ (F0 m 32 ls [])) (fun rec16 x13 x14 mM_15 ih16 hM H locs ls hP hS hl => ?_) FU (-1 : Int32) (0 : Int32) mM_6 hM H locs ls hP hS (lv_sub hl [3, 4, 5, 6, 1, 0] rfl)
      unfold BX5_when_32 at hM
      refine lv_iload hx hb dX5_when_32 (lv_at hl 5 rfl) ?_
      refine lv_sipush (v := (400 : Int32)) hx hb dX5_when_34 (by decide) ?_
      refine lv_icmp_ge (tgt := 74) hx hb dX5_when_37 (by decide) (fun c17 => ?_) (fun c17 => ?_)
      · replace hM := if_at_pos hM c17
        exact hJ10 x13 mM_15 hM H locs ls hP hS (lv_sub hl [0, 4] rfl)
      · replace hM := if_at_neg hM c17
        refine lv_iload hx hb dX5_when_40 (lv_at hl 4 rfl) ?_
        refine lv_iconst (v := (-1 : Int32)) hx hb dX5_when_42 (by decide) ?_
        refine lv_icmp_ne (tgt := 74) hx hb dX5_when_43 (by decide) (fun c18 => ?_) (fun c18 => ?_)
        · replace hM := if_at_neg hM c18
          exact hJ10 x13 mM_15 hM H locs ls hP hS (lv_sub hl [0, 4] rfl)
        · replace hM := if_at_pos hM c18
          refine lv_aload_n hx hb dX5_when_46 rfl (lv_at hl 0 rfl) ?_
          refine lv_iload_n hx hb dX5_when_47 rfl (lv_at hl 1 rfl) ?_
          refine lv_iload_n hx hb dX5_when_48 rfl (lv_at hl 2 rfl) ?_
          refine lv_iload_n hx hb dX5_when_49 rfl (lv_at hl 3 rfl) ?_
          obtain ⟨r19, hc20, hM⟩ := bnd1_at hM
          refine co_i (va_runV (As := [.int i1, .int i2, .int i3]) (rest := []) ⟨hx, hb, hml, hown, hts⟩ (ctX5_doTouch l D Y oM H.size mM_15 tk i1 i2 i3 r19 hc20) (cwV 3 hts gX5_when_X5_doTouch rfl rfl rfl (by decide +kernel) ⟨Nat.le_of_ble_eq_true rfl, Nat.le_of_ble_eq_true rfl⟩) (pcW_V0 (ci := 5) (q0 := 0) hK hP (hD.same rfl) rfl rfl) rfl rfl hl.1 rfl (lv_room (Nat.le_of_ble_eq_true rfl)) dX5_when_50 ⟨Nat.zero_le _, Nat.zero_le _⟩) (hD.same rfl) hS hA (fun H locs hP hS => ?_)
          refine jn1_at (fun (x21 : Int32) => ∀ (H : Heap) (locs : List Loc) (ls : Array Slot), va_P D vwCl (cMod Y oM mM_15 tk) H → va_S A s.heap H locs → lv_has ls 7 [(0, .ref (oM 0)), (1, .int i1), (2, .int i2), (3, .int i3), (6, .int x14)] → W p l e (headSpec wsX5_when rmX5_when).room s m ([.ref (oM 0), .int i1, .int i2, .int i3] : List Value).toArray below meth c H locs 0 0 QQ (F0 m 62 ls [.int x21])) hM (fun x21 hM H locs ls hP hS hl => ?_) (fun k22 hJ22 hM => ?_)
          · refine lv_istore (lv' := [(5, .int x21), (0, .ref (oM 0)), (1, .int i1), (2, .int i2), (3, .int i3), (6, .int x14)]) hx hb dX5_when_62 hl (by decide) rfl (fun ls hl => ?_)
            refine lv_aload_n hx hb dX5_when_64 rfl (lv_at hl 1 rfl) ?_
            obtain ⟨mM_23, hc24, hM⟩ := bnd1_at hM
            refine co_v (va_runV (As := []) (rest := []) ⟨hx, hb, hml, hown, hts⟩ (ctX5_goNight l D Y oM H.size mM_15 tk mM_23 hc24) (cwV 0 hts gX5_when_X5_goNight rfl rfl rfl (by decide +kernel) ⟨Nat.le_of_ble_eq_true rfl, Nat.le_of_ble_eq_true rfl⟩) (pcW_V0 (ci := 5) (q0 := 0) hK hP (hD.same rfl) rfl rfl) rfl rfl hl.1 rfl (lv_room (Nat.le_of_ble_eq_true rfl)) dX5_when_65 ⟨Nat.zero_le _, Nat.zero_le _⟩) (hD.same rfl) hS hA (fun H locs hP hS => ?_)
            obtain ⟨x25, ex25⟩ : ∃ z : Int32, z = (x14 + 1) := ⟨_, rfl⟩
            replace hM := nm_at hM ex25
            refine lv_iinc (v := x25) (lv' := [(6, .int x25), (5, .int x21), (0, .ref (oM 0)), (1, .int i1), (2, .int i2), (3, .int i3)]) hx hb dX5_when_68 hl (k := 5) rfl (by rw [ex25]; rfl) (by decide) rfl (fun ls hl => ?_)
            refine lv_goto (tgt := 32) hx hb dX5_when_71 (by decide) ?_
            exact ih16 x21 x25 mM_23 hM H locs ls hP hS (lv_sub hl [2, 3, 4, 5, 1, 0] rfl)
          · refine lv_if_eq (tgt := 61) hx hb dX5_when_53 (by decide) (fun c26 => ?_) (fun c26 => ?_)
            · replace hM := if_at_pos hM c26
              refine lv_iconst (v := (-1 : Int32)) hx hb dX5_when_61 (by decide) ?_
              exact hJ22 (-1 : Int32) hM H locs ls hP hS (lv_sub hl [0, 1, 2, 3, 5] rfl)
            · replace hM := if_at_neg hM c26
              refine lv_iload hx hb dX5_when_56 (lv_at hl 5 rfl) ?_
              refine lv_goto (tgt := 62) hx hb dX5_when_58 (by decide) ?_
              exact hJ22 x14 hM H locs ls hP hS (lv_sub hl [0, 1, 2, 3, 5] rfl)
  · replace hM := if_at_neg hM c5
    refine lv_iload hx hb dX5_when_19 (lv_at hl 0 rfl) ?_
    cases hM
    rw [hQQ]
    exact W.iret hx hb hr (fun t ht hW => ⟨⟨_, (), rfl, rfl, by show va_P D vwCl _ t.heap; rw [ht]; exact hP⟩, hS.F ht⟩) hS.2.2 dX5_when_21
noncomputable def MX5_areDays (i1 : Int32) : Option (Int32) := bnd1 (MX5_in i1 (1 : Int32) (99 : Int32)) fun (r1 : Int32) => chkB r1 (some (r1))
abbrev rmX5_areDays : Room := { frames := 2, cells := 0, slots := 0, locals := 80 }
set_option maxHeartbeats 4000000 in
set_option maxRecDepth 100000 in
theorem ctX5_areDays (l : Launch) (D : va_G) (Y : Nat → ClassId) (sz : Nat) (i1 : Int32) (rr : Int32) (hM : MX5_areDays i1 = some (rr)) : Met l yX5_areDays wsX5_areDays rmX5_areDays (pcW [.int i1] sz D Y (([] : va_W))) (qiW rr D (([] : va_W)) (va_A (([] : va_W)) sz)) 0 0 (va_A (([] : va_W)) sz) := by
  refine Met.ofW (cc := cX5_areDays) (maxL := 1) (ret := (some .boolean)) (by decide) rfl ?_
  intro p e s m args below meth c s₁ B hml hv
  obtain ⟨rfl, hsz, hP, hK, hD0⟩ := hv
  have hx := B.exec
  have hb := B.bytes
  have hr := B.returns
  have hts := atoms_spec (ws := wsX5_areDays) B.pre
  have hown : s.vm.findClass RX5 = some m.cls := findClass_of_methodNamed B.named
  have hlocks := B.notSynchronized
  subst hsz
  have hD := hD0.self (sz := s.heap.size)
  generalize hAe : va_A (([] : va_W)) s.heap.size = A at hD ⊢
  have hA : ∀ q : Nat, s.heap.size ≤ q → A q := fun q h => by rw [← hAe]; exact Or.inr h
  have hS : va_S A s.heap s.heap [] := va_S.rf
  have hl := lv_entry ([.int i1]) (n := 1) (Nat.le_of_ble_eq_true rfl)
  rw [lg_entry_eq]
  generalize (lg_sl ([.int i1]) ++ List.replicate (1 - (lg_sl ([.int i1])).length) Slot.unset).toArray = ls at hl ⊢
  have hl : lv_has ls 1 [(0, .int i1)] := hl
  obtain ⟨QQ, hQQ⟩ : ∃ Q : State → Prop, Q = MQ below (qiW rr D (([] : va_W)) A) ([.int i1] : List Value).toArray s 0 0 A := ⟨_, rfl⟩
  rw [← hQQ]
  unfold MX5_areDays at hM
  suffices hI : ∀ (H : Heap) (locs : List Loc), va_P D vwCl (([] : va_W)) H → va_S A s.heap H locs → W p l e (headSpec wsX5_areDays rmX5_areDays).room s m ([.int i1] : List Value).toArray below meth c H locs 0 0 QQ (F0 m 0 ls []) from hI _ _ hP hS
  clear hP hS
  intro H locs hP hS
  refine lv_iload_n hx hb dX5_areDays_0 rfl (lv_at hl 0 rfl) ?_
  refine lv_iconst (v := (1 : Int32)) hx hb dX5_areDays_1 (by decide) ?_
  refine lv_bipush (v := (99 : Int32)) hx hb dX5_areDays_2 (by decide) ?_
  obtain ⟨r1, hc2, hM⟩ := bnd1_at hM
  refine cm_i (w2 := (([] : va_W))) (va_runS (As := [.int i1, .int (1 : Int32), .int (99 : Int32)]) (rest := []) ⟨hx, hb, hml, hown, hts⟩ (ctX5_in l D Y H.size i1 (1 : Int32) (99 : Int32) r1 hc2) (cwS 3 hts gX5_areDays_X5_in rfl rfl rfl (by decide +kernel) ⟨Nat.le_of_ble_eq_true rfl, Nat.le_of_ble_eq_true rfl⟩) (pcW_S hK hP (hD.same rfl) [] rfl (pc_map pc_nil)) rfl rfl hl.1 rfl (lv_room (Nat.le_of_ble_eq_true rfl)) dX5_areDays_4 ⟨Nat.zero_le _, Nat.zero_le _⟩) hP (hD.same rfl) hS hA [] (pc_map pc_nil) up_nil (fun H locs hP hS => ?_)
  obtain ⟨hz3, hM⟩ := chkB_at hM
  cases hM
  rw [hQQ]
  exact W.zret (ty := .boolean) hx hb hr hz3 (fun t ht hW => ⟨⟨_, (), rfl, rfl, by show va_P D vwCl _ t.heap; rw [ht]; exact hP⟩, hS.F ht⟩) hS.2.2 dX5_areDays_7
noncomputable def BX5_often_48 (i4 : Int32) (k12 : Int32 → GS → Option (Int32 × GS)) (i1 : Int32) (i2 : Int32) (i3 : Int32) (rec18 : Int32 → Int32 → GS → Option (Int32 × GS)) (x15 : Int32) (x16 : Int32) (mM_17 : GS) : Option (Int32 × GS) := if i4 ≤ x16 then (k12 x15 mM_17) else (bnd1 (MX5_doTouch mM_17 i1 i2 i3) fun (r20 : Int32) => jn1 (fun (x22 : Int32) => nm (x15 + x22) fun (x24 : Int32) => bnd1 (MX5_goNight mM_17) fun (mM_25 : GS) => nm (x16 + 1) fun (x27 : Int32) => rec18 x24 x27 mM_25) (fun k23 => if r20 = 0 then (k23 (0 : Int32)) else (k23 (1 : Int32))))
noncomputable def MX5_often (mM : GS) (i1 : Int32) (i2 : Int32) (i3 : Int32) (i4 : Int32) : Option (Int32 × GS) := bnd1 (MX5_in i3 (0 : Int32) (1 : Int32)) fun (r1 : Int32) => jn1 (fun (x3 : Int32) => bnd1 (MX5_whyNot mM i1 i2 x3) fun (r5 : Int32) => if r5 = 0 then (bnd1 (MX5_putAside mM) fun (mM_8 : GS) => jn2 (fun (x10 : Int32) (mM_11 : GS) => bnd1 (MX5_putBack mM_11) fun (mM_13 : GS) => some (x10, mM_13)) (fun k12 => lq3 (BX5_often_48 i4 k12 i1 i2 i3) FU (0 : Int32) (0 : Int32) mM_8)) else (some (r5, mM))) (fun k4 => jn0 (k4 (0 : Int32)) (fun k29 => if r1 = 0 then (k29) else (bnd1 (MX5_areDays i4) fun (r31 : Int32) => if r31 = 0 then (k29) else (k4 (1 : Int32)))))
abbrev rmX5_often : Room := { frames := 6, cells := 0, slots := 0, locals := 240 }
set_option maxHeartbeats 4000000 in
set_option maxRecDepth 100000 in
theorem ctX5_often (l : Launch) (D : va_G) (Y : Nat → ClassId) (oM : Nat → Nat) (sz : Nat) (mM : GS) (tk : Int64) (i1 : Int32) (i2 : Int32) (i3 : Int32) (i4 : Int32) (rr : Int32) (mMz : GS) (hM : MX5_often mM i1 i2 i3 i4 = some (rr, mMz)) : Met l yX5_often wsX5_often rmX5_often (pcW [.ref (oM 0), .int i1, .int i2, .int i3, .int i4] sz D Y (cMod Y oM mM tk)) (qiW rr D (cMod Y oM mMz tk) (va_A (cMod Y oM mM tk) sz)) 0 0 (va_A (cMod Y oM mM tk) sz) := by
  refine Met.ofW (cc := cX5_often) (maxL := 8) (ret := (some .int)) (by decide) rfl ?_
  intro p e s m args below meth c s₁ B hml hv
  obtain ⟨rfl, hsz, hP, hK, hD0⟩ := hv
  have hx := B.exec
  have hb := B.bytes
  have hr := B.returns
  have hts := atoms_spec (ws := wsX5_often) B.pre
  have hown : s.vm.findClass RX5 = some m.cls := findClass_of_methodNamed B.named
  have hlocks := B.notSynchronized
  subst hsz
  have hD := hD0.self (sz := s.heap.size)
  generalize hAe : va_A (cMod Y oM mM tk) s.heap.size = A at hD ⊢
  have hA : ∀ q : Nat, s.heap.size ≤ q → A q := fun q h => by rw [← hAe]; exact Or.inr h
  have hS : va_S A s.heap s.heap [] := va_S.rf
  have hl := lv_entry ([.ref (oM 0), .int i1, .int i2, .int i3, .int i4]) (n := 8) (Nat.le_of_ble_eq_true rfl)
  rw [lg_entry_eq]
  generalize (lg_sl ([.ref (oM 0), .int i1, .int i2, .int i3, .int i4]) ++ List.replicate (8 - (lg_sl ([.ref (oM 0), .int i1, .int i2, .int i3, .int i4])).length) Slot.unset).toArray = ls at hl ⊢
  have hl : lv_has ls 8 [(0, .ref (oM 0)), (1, .int i1), (2, .int i2), (3, .int i3), (4, .int i4)] := hl
  obtain ⟨QQ, hQQ⟩ : ∃ Q : State → Prop, Q = MQ below (qiW rr D (cMod Y oM mMz tk) A) ([.ref (oM 0), .int i1, .int i2, .int i3, .int i4] : List Value).toArray s 0 0 A := ⟨_, rfl⟩
  rw [← hQQ]
  unfold MX5_often at hM
  suffices hI : ∀ (H : Heap) (locs : List Loc), va_P D vwCl (cMod Y oM mM tk) H → va_S A s.heap H locs → W p l e (headSpec wsX5_often rmX5_often).room s m ([.ref (oM 0), .int i1, .int i2, .int i3, .int i4] : List Value).toArray below meth c H locs 0 0 QQ (F0 m 0 ls []) from hI _ _ hP hS
  clear hP hS
  intro H locs hP hS
  refine lv_aload_n hx hb dX5_often_0 rfl (lv_at hl 0 rfl) ?_
  refine lv_iload_n hx hb dX5_often_1 rfl (lv_at hl 1 rfl) ?_
  refine lv_iload_n hx hb dX5_often_2 rfl (lv_at hl 2 rfl) ?_
  refine lv_iload_n hx hb dX5_often_3 rfl (lv_at hl 3 rfl) ?_
  refine lv_iconst (v := (0 : Int32)) hx hb dX5_often_4 (by decide) ?_
  refine lv_iconst (v := (1 : Int32)) hx hb dX5_often_5 (by decide) ?_
  obtain ⟨r1, hc2, hM⟩ := bnd1_at hM
  refine cm_i (w2 := (cMod Y oM mM tk)) (va_runS (As := [.int i3, .int (0 : Int32), .int (1 : Int32)]) (rest := [.int i2, .int i1, .ref (oM 0)]) ⟨hx, hb, hml, hown, hts⟩ (ctX5_in l D Y H.size i3 (0 : Int32) (1 : Int32) r1 hc2) (cwS 3 hts gX5_often_X5_in rfl rfl rfl (by decide +kernel) ⟨Nat.le_of_ble_eq_true rfl, Nat.le_of_ble_eq_true rfl⟩) (pcW_S hK hP (hD.same rfl) [] rfl (pc_map pc_nil)) rfl rfl hl.1 rfl (lv_room (Nat.le_of_ble_eq_true rfl)) dX5_often_6 ⟨Nat.zero_le _, Nat.zero_le _⟩) hP (hD.same rfl) hS hA [] (pc_map pc_nil) (up_old rfl rfl (up_old rfl rfl (up_old rfl rfl (up_old rfl rfl (up_old rfl rfl (up_old rfl rfl (up_old rfl rfl (up_old rfl rfl (up_old rfl rfl (up_old rfl rfl (up_old rfl rfl (up_old rfl rfl (up_old rfl rfl (up_old rfl rfl (up_old rfl rfl (up_old rfl rfl (up_old rfl rfl (up_old rfl rfl (up_old rfl rfl up_nil))))))))))))))))))) (fun H locs hP hS => ?_)
  refine jn1_at (fun (x3 : Int32) => ∀ (H : Heap) (locs : List Loc) (ls : Array Slot), va_P D vwCl (cMod Y oM mM tk) H → va_S A s.heap H locs → lv_has ls 8 [(0, .ref (oM 0)), (1, .int i1), (2, .int i2), (3, .int i3), (4, .int i4)] → W p l e (headSpec wsX5_often rmX5_often).room s m ([.ref (oM 0), .int i1, .int i2, .int i3, .int i4] : List Value).toArray below meth c H locs 0 0 QQ (F0 m 25 ls [.int x3, .int i2, .int i1, .ref (oM 0)])) hM (fun x3 hM H locs ls hP hS hl => ?_) (fun k4 hJ4 hM => ?_)
  · obtain ⟨r5, hc6, hM⟩ := bnd1_at hM
    refine co_i (va_runV (As := [.int i1, .int i2, .int x3]) (rest := []) ⟨hx, hb, hml, hown, hts⟩ (ctX5_whyNot l D Y oM H.size mM tk i1 i2 x3 r5 hc6) (cwV 3 hts gX5_often_X5_whyNot rfl rfl rfl (by decide +kernel) ⟨Nat.le_of_ble_eq_true rfl, Nat.le_of_ble_eq_true rfl⟩) (pcW_V0 (ci := 5) (q0 := 0) hK hP (hD.same rfl) rfl rfl) rfl rfl hl.1 rfl (lv_room (Nat.le_of_ble_eq_true rfl)) dX5_often_25 ⟨Nat.zero_le _, Nat.zero_le _⟩) (hD.same rfl) hS hA (fun H locs hP hS => ?_)
    refine lv_istore (lv' := [(5, .int r5), (0, .ref (oM 0)), (1, .int i1), (2, .int i2), (3, .int i3), (4, .int i4)]) hx hb dX5_often_28 hl (by decide) rfl (fun ls hl => ?_)
    refine lv_iload hx hb dX5_often_30 (lv_at hl 0 rfl) ?_
    refine lv_if_eq (tgt := 38) hx hb dX5_often_32 (by decide) (fun c7 => ?_) (fun c7 => ?_)
    · replace hM := if_at_pos hM c7
      refine lv_aload_n hx hb dX5_often_38 rfl (lv_at hl 1 rfl) ?_
      obtain ⟨mM_8, hc9, hM⟩ := bnd1_at hM
      refine co_v (va_runV (As := []) (rest := []) ⟨hx, hb, hml, hown, hts⟩ (ctX5_putAside l D Y oM H.size mM tk mM_8 hc9) (cwV 0 hts gX5_often_X5_putAside rfl rfl rfl (by decide +kernel) ⟨Nat.le_of_ble_eq_true rfl, Nat.le_of_ble_eq_true rfl⟩) (pcW_V0 (ci := 5) (q0 := 0) hK hP (hD.same rfl) rfl rfl) rfl rfl hl.1 rfl (lv_room (Nat.le_of_ble_eq_true rfl)) dX5_often_39 ⟨Nat.zero_le _, Nat.zero_le _⟩) (hD.same rfl) hS hA (fun H locs hP hS => ?_)
      refine lv_iconst (v := (0 : Int32)) hx hb dX5_often_42 (by decide) ?_
      refine lv_istore (lv' := [(6, .int (0 : Int32)), (5, .int r5), (0, .ref (oM 0)), (1, .int i1), (2, .int i2), (3, .int i3), (4, .int i4)]) hx hb dX5_often_43 hl (by decide) rfl (fun ls hl => ?_)
      refine lv_iconst (v := (0 : Int32)) hx hb dX5_often_45 (by decide) ?_
      refine lv_istore (lv' := [(7, .int (0 : Int32)), (6, .int (0 : Int32)), (5, .int r5), (0, .ref (oM 0)), (1, .int i1), (2, .int i2), (3, .int i3), (4, .int i4)]) hx hb dX5_often_46 hl (by decide) rfl (fun ls hl => ?_)
      refine jn2_at (fun (x10 : Int32) (mM_11 : GS) => ∀ (H : Heap) (locs : List Loc) (ls : Array Slot), va_P D vwCl (cMod Y oM mM_11 tk) H → va_S A s.heap H locs → lv_has ls 8 [(0, .ref (oM 0)), (6, .int x10)] → W p l e (headSpec wsX5_often rmX5_often).room s m ([.ref (oM 0), .int i1, .int i2, .int i3, .int i4] : List Value).toArray below meth c H locs 0 0 QQ (F0 m 85 ls [])) hM (fun x10 mM_11 hM H locs ls hP hS hl => ?_) (fun k12 hJ12 hM => ?_)
      · refine lv_aload_n hx hb dX5_often_85 rfl (lv_at hl 0 rfl) ?_
        obtain ⟨mM_13, hc14, hM⟩ := bnd1_at hM
        refine co_v (va_runV (As := []) (rest := []) ⟨hx, hb, hml, hown, hts⟩ (ctX5_putBack l D Y oM H.size mM_11 tk mM_13 hc14) (cwV 0 hts gX5_often_X5_putBack rfl rfl rfl (by decide +kernel) ⟨Nat.le_of_ble_eq_true rfl, Nat.le_of_ble_eq_true rfl⟩) (pcW_V0 (ci := 5) (q0 := 0) hK hP (hD.same rfl) rfl rfl) rfl rfl hl.1 rfl (lv_room (Nat.le_of_ble_eq_true rfl)) dX5_often_86 ⟨Nat.zero_le _, Nat.zero_le _⟩) (hD.same rfl) hS hA (fun H locs hP hS => ?_)
        refine lv_iload hx hb dX5_often_89 (lv_at hl 1 rfl) ?_
        cases hM
        rw [hQQ]
        exact W.iret hx hb hr (fun t ht hW => ⟨⟨_, (), rfl, rfl, by show va_P D vwCl _ t.heap; rw [ht]; exact hP⟩, hS.F ht⟩) hS.2.2 dX5_often_91
      · refine lq3_at (fun (x15 : Int32) (x16 : Int32) (mM_17 : GS) => ∀ (H : Heap) (locs : List Loc) (ls : Array Slot), va_P D vwCl (cMod Y oM mM_17 tk) H → va_S A s.heap H locs → lv_has ls 8 [(0, .ref (oM 0)), (1, .int i1), (2, .int i2), (3, .int i3), (4, .int i4), (6, .int x15), (7, .int x16)] → W p l e (headSpec wsX5_often rmX5_often).room s m ([.ref (oM 0), .int i1, .int i2, .int i3, .int i4] : List Value).toArray below meth c H locs 0 0 QQ (F0 m 48 ls [])) (fun rec18 x15 x16 mM_17 ih18 hM H locs ls hP hS hl => ?_) FU (0 : Int32) (0 : Int32) mM_8 hM H locs ls hP hS (lv_sub hl [3, 4, 5, 6, 7, 1, 0] rfl)
        unfold BX5_often_48 at hM
        refine lv_iload hx hb dX5_often_48 (lv_at hl 6 rfl) ?_
        refine lv_iload hx hb dX5_often_50 (lv_at hl 4 rfl) ?_
        refine lv_icmp_ge (tgt := 85) hx hb dX5_often_52 (by decide) (fun c19 => ?_) (fun c19 => ?_)
        · replace hM := if_at_pos hM c19
          exact hJ12 x15 mM_17 hM H locs ls hP hS (lv_sub hl [0, 5] rfl)
        · replace hM := if_at_neg hM c19
          refine lv_iload hx hb dX5_often_55 (lv_at hl 5 rfl) ?_
          refine lv_aload_n hx hb dX5_often_57 rfl (lv_at hl 0 rfl) ?_
          refine lv_iload_n hx hb dX5_often_58 rfl (lv_at hl 1 rfl) ?_
          refine lv_iload_n hx hb dX5_often_59 rfl (lv_at hl 2 rfl) ?_
          refine lv_iload_n hx hb dX5_often_60 rfl (lv_at hl 3 rfl) ?_
          obtain ⟨r20, hc21, hM⟩ := bnd1_at hM
          refine co_i (va_runV (As := [.int i1, .int i2, .int i3]) (rest := [.int x15]) ⟨hx, hb, hml, hown, hts⟩ (ctX5_doTouch l D Y oM H.size mM_17 tk i1 i2 i3 r20 hc21) (cwV 3 hts gX5_often_X5_doTouch rfl rfl rfl (by decide +kernel) ⟨Nat.le_of_ble_eq_true rfl, Nat.le_of_ble_eq_true rfl⟩) (pcW_V0 (ci := 5) (q0 := 0) hK hP (hD.same rfl) rfl rfl) rfl rfl hl.1 rfl (lv_room (Nat.le_of_ble_eq_true rfl)) dX5_often_61 ⟨Nat.zero_le _, Nat.zero_le _⟩) (hD.same rfl) hS hA (fun H locs hP hS => ?_)
          refine jn1_at (fun (x22 : Int32) => ∀ (H : Heap) (locs : List Loc) (ls : Array Slot), va_P D vwCl (cMod Y oM mM_17 tk) H → va_S A s.heap H locs → lv_has ls 8 [(0, .ref (oM 0)), (1, .int i1), (2, .int i2), (3, .int i3), (4, .int i4), (7, .int x16)] → W p l e (headSpec wsX5_often rmX5_often).room s m ([.ref (oM 0), .int i1, .int i2, .int i3, .int i4] : List Value).toArray below meth c H locs 0 0 QQ (F0 m 72 ls [.int x22, .int x15])) hM (fun x22 hM H locs ls hP hS hl => ?_) (fun k23 hJ23 hM => ?_)
          · refine lv_iadd hx hb dX5_often_72 ?_
            refine lv_topi (fun x24 ex24 => ?_)
            replace hM := nm_at hM ex24
            refine lv_istore (lv' := [(6, .int x24), (0, .ref (oM 0)), (1, .int i1), (2, .int i2), (3, .int i3), (4, .int i4), (7, .int x16)]) hx hb dX5_often_73 hl (by decide) rfl (fun ls hl => ?_)
            refine lv_aload_n hx hb dX5_often_75 rfl (lv_at hl 1 rfl) ?_
            obtain ⟨mM_25, hc26, hM⟩ := bnd1_at hM
            refine co_v (va_runV (As := []) (rest := []) ⟨hx, hb, hml, hown, hts⟩ (ctX5_goNight l D Y oM H.size mM_17 tk mM_25 hc26) (cwV 0 hts gX5_often_X5_goNight rfl rfl rfl (by decide +kernel) ⟨Nat.le_of_ble_eq_true rfl, Nat.le_of_ble_eq_true rfl⟩) (pcW_V0 (ci := 5) (q0 := 0) hK hP (hD.same rfl) rfl rfl) rfl rfl hl.1 rfl (lv_room (Nat.le_of_ble_eq_true rfl)) dX5_often_76 ⟨Nat.zero_le _, Nat.zero_le _⟩) (hD.same rfl) hS hA (fun H locs hP hS => ?_)
            obtain ⟨x27, ex27⟩ : ∃ z : Int32, z = (x16 + 1) := ⟨_, rfl⟩
            replace hM := nm_at hM ex27
            refine lv_iinc (v := x27) (lv' := [(7, .int x27), (6, .int x24), (0, .ref (oM 0)), (1, .int i1), (2, .int i2), (3, .int i3), (4, .int i4)]) hx hb dX5_often_79 hl (k := 6) rfl (by rw [ex27]; rfl) (by decide) rfl (fun ls hl => ?_)
            refine lv_goto (tgt := 48) hx hb dX5_often_82 (by decide) ?_
            exact ih18 x24 x27 mM_25 hM H locs ls hP hS (lv_sub hl [2, 3, 4, 5, 6, 1, 0] rfl)
          · refine lv_if_eq (tgt := 71) hx hb dX5_often_64 (by decide) (fun c28 => ?_) (fun c28 => ?_)
            · replace hM := if_at_pos hM c28
              refine lv_iconst (v := (0 : Int32)) hx hb dX5_often_71 (by decide) ?_
              exact hJ23 (0 : Int32) hM H locs ls hP hS (lv_sub hl [0, 1, 2, 3, 4, 6] rfl)
            · replace hM := if_at_neg hM c28
              refine lv_iconst (v := (1 : Int32)) hx hb dX5_often_67 (by decide) ?_
              refine lv_goto (tgt := 72) hx hb dX5_often_68 (by decide) ?_
              exact hJ23 (1 : Int32) hM H locs ls hP hS (lv_sub hl [0, 1, 2, 3, 4, 6] rfl)
    · replace hM := if_at_neg hM c7
      refine lv_iload hx hb dX5_often_35 (lv_at hl 0 rfl) ?_
      cases hM
      rw [hQQ]
      exact W.iret hx hb hr (fun t ht hW => ⟨⟨_, (), rfl, rfl, by show va_P D vwCl _ t.heap; rw [ht]; exact hP⟩, hS.F ht⟩) hS.2.2 dX5_often_37
  · refine jn0_at (∀ (H : Heap) (locs : List Loc) (ls : Array Slot), va_P D vwCl (cMod Y oM mM tk) H → va_S A s.heap H locs → lv_has ls 8 [(0, .ref (oM 0)), (1, .int i1), (2, .int i2), (3, .int i3), (4, .int i4)] → W p l e (headSpec wsX5_often rmX5_often).room s m ([.ref (oM 0), .int i1, .int i2, .int i3, .int i4] : List Value).toArray below meth c H locs 0 0 QQ (F0 m 24 ls [.int i2, .int i1, .ref (oM 0)])) hM (fun  hM H locs ls hP hS hl => ?_) (fun k29 hJ29 hM => ?_)
    · refine lv_iconst (v := (0 : Int32)) hx hb dX5_often_24 (by decide) ?_
      exact hJ4 (0 : Int32) hM H locs ls hP hS (lv_sub hl [0, 1, 2, 3, 4] rfl)
    · refine lv_if_eq (tgt := 24) hx hb dX5_often_9 (by decide) (fun c30 => ?_) (fun c30 => ?_)
      · replace hM := if_at_pos hM c30
        exact hJ29 hM H locs ls hP hS (lv_sub hl [0, 1, 2, 3, 4] rfl)
      · replace hM := if_at_neg hM c30
        refine lv_iload hx hb dX5_often_12 (lv_at hl 4 rfl) ?_
        obtain ⟨r31, hc32, hM⟩ := bnd1_at hM
        refine cm_i (w2 := (cMod Y oM mM tk)) (va_runS (As := [.int i4]) (rest := [.int i2, .int i1, .ref (oM 0)]) ⟨hx, hb, hml, hown, hts⟩ (ctX5_areDays l D Y H.size i4 r31 hc32) (cwS 1 hts gX5_often_X5_areDays rfl rfl rfl (by decide +kernel) ⟨Nat.le_of_ble_eq_true rfl, Nat.le_of_ble_eq_true rfl⟩) (pcW_S hK hP (hD.same rfl) [] rfl (pc_map pc_nil)) rfl rfl hl.1 rfl (lv_room (Nat.le_of_ble_eq_true rfl)) dX5_often_14 ⟨Nat.zero_le _, Nat.zero_le _⟩) hP (hD.same rfl) hS hA [] (pc_map pc_nil) (up_old rfl rfl (up_old rfl rfl (up_old rfl rfl (up_old rfl rfl (up_old rfl rfl (up_old rfl rfl (up_old rfl rfl (up_old rfl rfl (up_old rfl rfl (up_old rfl rfl (up_old rfl rfl (up_old rfl rfl (up_old rfl rfl (up_old rfl rfl (up_old rfl rfl (up_old rfl rfl (up_old rfl rfl (up_old rfl rfl (up_old rfl rfl up_nil))))))))))))))))))) (fun H locs hP hS => ?_)
        refine lv_if_eq (tgt := 24) hx hb dX5_often_17 (by decide) (fun c33 => ?_) (fun c33 => ?_)
        · replace hM := if_at_pos hM c33
          exact hJ29 hM H locs ls hP hS (lv_sub hl [0, 1, 2, 3, 4] rfl)
        · replace hM := if_at_neg hM c33
          refine lv_iconst (v := (1 : Int32)) hx hb dX5_often_20 (by decide) ?_
          refine lv_goto (tgt := 25) hx hb dX5_often_21 (by decide) ?_
          exact hJ4 (1 : Int32) hM H locs ls hP hS (lv_sub hl [0, 1, 2, 3, 4] rfl)
noncomputable def BX5_brings_39 (mM_16 : GS) (k20 : Int32 → Option (Int32 × GS)) (i1 : Int32) (rec26 : Int32 → Int32 → Option (Int32 × GS)) (x24 : Int32) (x25 : Int32) : Option (Int32 × GS) := if (mM_16 0 0) ≤ x25 then (k20 x24) else (bnd1 (MX5_standsOn mM_16 i1 x25) fun (r28 : Int32) => jn1 (fun (x30 : Int32) => nm (x24 + x30) fun (x32 : Int32) => nm (x25 + 1) fun (x33 : Int32) => rec26 x32 x33) (fun k31 => if r28 = 0 then (k31 (0 : Int32)) else (chkI x25 12 (k31 (mM_16 1 x25.toNatClampNeg)))))
noncomputable def BX5_brings_30 (i2 : Int32) (k11 : Int32 → GS → Option (Int32 × GS)) (i1 : Int32) (rec17 : Int32 → Int32 → GS → Option (Int32 × GS)) (x14 : Int32) (x15 : Int32) (mM_16 : GS) : Option (Int32 × GS) := if i2 ≤ x15 then (k11 x14 mM_16) else (jn1 (fun (x19 : Int32) => bnd1 (MX5_goNight mM_16) fun (mM_21 : GS) => nm (x15 + 1) fun (x23 : Int32) => rec17 x19 x23 mM_21) (fun k20 => lq2 (BX5_brings_39 mM_16 k20 i1) FU x14 (0 : Int32)))
noncomputable def MX5_brings (mM : GS) (i1 : Int32) (i2 : Int32) : Option (Int32 × GS) := bnd1 (MX5_isHouse mM i1) fun (r1 : Int32) => if r1 = 0 then (some ((-2 : Int32), mM)) else (bnd1 (MX5_areDays i2) fun (r4 : Int32) => if r4 = 0 then (some ((-3 : Int32), mM)) else (bnd1 (MX5_putAside mM) fun (mM_7 : GS) => jn2 (fun (x9 : Int32) (mM_10 : GS) => bnd1 (MX5_putBack mM_10) fun (mM_12 : GS) => some (x9, mM_12)) (fun k11 => lq3 (BX5_brings_30 i2 k11 i1) FU (0 : Int32) (0 : Int32) mM_7)))
abbrev rmX5_brings : Room := { frames := 6, cells := 0, slots := 0, locals := 240 }
set_option maxHeartbeats 4000000 in
set_option maxRecDepth 100000 in
theorem ctX5_brings (l : Launch) (D : va_G) (Y : Nat → ClassId) (oM : Nat → Nat) (sz : Nat) (mM : GS) (tk : Int64) (i1 : Int32) (i2 : Int32) (rr : Int32) (mMz : GS) (hM : MX5_brings mM i1 i2 = some (rr, mMz)) : Met l yX5_brings wsX5_brings rmX5_brings (pcW [.ref (oM 0), .int i1, .int i2] sz D Y (cMod Y oM mM tk)) (qiW rr D (cMod Y oM mMz tk) (va_A (cMod Y oM mM tk) sz)) 0 0 (va_A (cMod Y oM mM tk) sz) := by
  refine Met.ofW (cc := cX5_brings) (maxL := 6) (ret := (some .int)) (by decide) rfl ?_
  intro p e s m args below meth c s₁ B hml hv
  obtain ⟨rfl, hsz, hP, hK, hD0⟩ := hv
  have hx := B.exec
  have hb := B.bytes
  have hr := B.returns
  have hts := atoms_spec (ws := wsX5_brings) B.pre
  have hown : s.vm.findClass RX5 = some m.cls := findClass_of_methodNamed B.named
  have hlocks := B.notSynchronized
  subst hsz
  have hD := hD0.self (sz := s.heap.size)
  generalize hAe : va_A (cMod Y oM mM tk) s.heap.size = A at hD ⊢
  have hA : ∀ q : Nat, s.heap.size ≤ q → A q := fun q h => by rw [← hAe]; exact Or.inr h
  have hS : va_S A s.heap s.heap [] := va_S.rf
  have hi5 : ∀ w ∈ wsX50, w ∈ wsX5_brings := fun w h => List.mem_cons_of_mem _ (List.mem_append_right _ h)
  have hl := lv_entry ([.ref (oM 0), .int i1, .int i2]) (n := 6) (Nat.le_of_ble_eq_true rfl)
  rw [lg_entry_eq]
  generalize (lg_sl ([.ref (oM 0), .int i1, .int i2]) ++ List.replicate (6 - (lg_sl ([.ref (oM 0), .int i1, .int i2])).length) Slot.unset).toArray = ls at hl ⊢
  have hl : lv_has ls 6 [(0, .ref (oM 0)), (1, .int i1), (2, .int i2)] := hl
  obtain ⟨QQ, hQQ⟩ : ∃ Q : State → Prop, Q = MQ below (qiW rr D (cMod Y oM mMz tk) A) ([.ref (oM 0), .int i1, .int i2] : List Value).toArray s 0 0 A := ⟨_, rfl⟩
  rw [← hQQ]
  unfold MX5_brings at hM
  suffices hI : ∀ (H : Heap) (locs : List Loc), va_P D vwCl (cMod Y oM mM tk) H → va_S A s.heap H locs → W p l e (headSpec wsX5_brings rmX5_brings).room s m ([.ref (oM 0), .int i1, .int i2] : List Value).toArray below meth c H locs 0 0 QQ (F0 m 0 ls []) from hI _ _ hP hS
  clear hP hS
  intro H locs hP hS
  refine lv_aload_n hx hb dX5_brings_0 rfl (lv_at hl 0 rfl) ?_
  refine lv_iload_n hx hb dX5_brings_1 rfl (lv_at hl 1 rfl) ?_
  obtain ⟨r1, hc2, hM⟩ := bnd1_at hM
  refine co_i (va_runV (As := [.int i1]) (rest := []) ⟨hx, hb, hml, hown, hts⟩ (ctX5_isHouse l D Y oM H.size mM tk i1 r1 hc2) (cwV 1 hts gX5_brings_X5_isHouse rfl rfl rfl (by decide +kernel) ⟨Nat.le_of_ble_eq_true rfl, Nat.le_of_ble_eq_true rfl⟩) (pcW_V0 (ci := 5) (q0 := 0) hK hP (hD.same rfl) rfl rfl) rfl rfl hl.1 rfl (lv_room (Nat.le_of_ble_eq_true rfl)) dX5_brings_2 ⟨Nat.zero_le _, Nat.zero_le _⟩) (hD.same rfl) hS hA (fun H locs hP hS => ?_)
  refine lv_if_ne (tgt := 11) hx hb dX5_brings_5 (by decide) (fun c3 => ?_) (fun c3 => ?_)
  · replace hM := if_at_neg hM c3
    refine lv_iload_n hx hb dX5_brings_11 rfl (lv_at hl 2 rfl) ?_
    obtain ⟨r4, hc5, hM⟩ := bnd1_at hM
    refine cm_i (w2 := (cMod Y oM mM tk)) (va_runS (As := [.int i2]) (rest := []) ⟨hx, hb, hml, hown, hts⟩ (ctX5_areDays l D Y H.size i2 r4 hc5) (cwS 1 hts gX5_brings_X5_areDays rfl rfl rfl (by decide +kernel) ⟨Nat.le_of_ble_eq_true rfl, Nat.le_of_ble_eq_true rfl⟩) (pcW_S hK hP (hD.same rfl) [] rfl (pc_map pc_nil)) rfl rfl hl.1 rfl (lv_room (Nat.le_of_ble_eq_true rfl)) dX5_brings_12 ⟨Nat.zero_le _, Nat.zero_le _⟩) hP (hD.same rfl) hS hA [] (pc_map pc_nil) (up_old rfl rfl (up_old rfl rfl (up_old rfl rfl (up_old rfl rfl (up_old rfl rfl (up_old rfl rfl (up_old rfl rfl (up_old rfl rfl (up_old rfl rfl (up_old rfl rfl (up_old rfl rfl (up_old rfl rfl (up_old rfl rfl (up_old rfl rfl (up_old rfl rfl (up_old rfl rfl (up_old rfl rfl (up_old rfl rfl (up_old rfl rfl up_nil))))))))))))))))))) (fun H locs hP hS => ?_)
    refine lv_if_ne (tgt := 21) hx hb dX5_brings_15 (by decide) (fun c6 => ?_) (fun c6 => ?_)
    · replace hM := if_at_neg hM c6
      refine lv_aload_n hx hb dX5_brings_21 rfl (lv_at hl 0 rfl) ?_
      obtain ⟨mM_7, hc8, hM⟩ := bnd1_at hM
      refine co_v (va_runV (As := []) (rest := []) ⟨hx, hb, hml, hown, hts⟩ (ctX5_putAside l D Y oM H.size mM tk mM_7 hc8) (cwV 0 hts gX5_brings_X5_putAside rfl rfl rfl (by decide +kernel) ⟨Nat.le_of_ble_eq_true rfl, Nat.le_of_ble_eq_true rfl⟩) (pcW_V0 (ci := 5) (q0 := 0) hK hP (hD.same rfl) rfl rfl) rfl rfl hl.1 rfl (lv_room (Nat.le_of_ble_eq_true rfl)) dX5_brings_22 ⟨Nat.zero_le _, Nat.zero_le _⟩) (hD.same rfl) hS hA (fun H locs hP hS => ?_)
      refine lv_iconst (v := (0 : Int32)) hx hb dX5_brings_25 (by decide) ?_
      refine lv_istore_n (lv' := [(3, .int (0 : Int32)), (0, .ref (oM 0)), (1, .int i1), (2, .int i2)]) hx hb dX5_brings_26 rfl hl (by decide) rfl (fun ls hl => ?_)
      refine lv_iconst (v := (0 : Int32)) hx hb dX5_brings_27 (by decide) ?_
      refine lv_istore (lv' := [(4, .int (0 : Int32)), (3, .int (0 : Int32)), (0, .ref (oM 0)), (1, .int i1), (2, .int i2)]) hx hb dX5_brings_28 hl (by decide) rfl (fun ls hl => ?_)
      refine jn2_at (fun (x9 : Int32) (mM_10 : GS) => ∀ (H : Heap) (locs : List Loc) (ls : Array Slot), va_P D vwCl (cMod Y oM mM_10 tk) H → va_S A s.heap H locs → lv_has ls 6 [(0, .ref (oM 0)), (3, .int x9)] → W p l e (headSpec wsX5_brings rmX5_brings).room s m ([.ref (oM 0), .int i1, .int i2] : List Value).toArray below meth c H locs 0 0 QQ (F0 m 88 ls [])) hM (fun x9 mM_10 hM H locs ls hP hS hl => ?_) (fun k11 hJ11 hM => ?_)
      · refine lv_aload_n hx hb dX5_brings_88 rfl (lv_at hl 0 rfl) ?_
        obtain ⟨mM_12, hc13, hM⟩ := bnd1_at hM
        refine co_v (va_runV (As := []) (rest := []) ⟨hx, hb, hml, hown, hts⟩ (ctX5_putBack l D Y oM H.size mM_10 tk mM_12 hc13) (cwV 0 hts gX5_brings_X5_putBack rfl rfl rfl (by decide +kernel) ⟨Nat.le_of_ble_eq_true rfl, Nat.le_of_ble_eq_true rfl⟩) (pcW_V0 (ci := 5) (q0 := 0) hK hP (hD.same rfl) rfl rfl) rfl rfl hl.1 rfl (lv_room (Nat.le_of_ble_eq_true rfl)) dX5_brings_89 ⟨Nat.zero_le _, Nat.zero_le _⟩) (hD.same rfl) hS hA (fun H locs hP hS => ?_)
        refine lv_iload_n hx hb dX5_brings_92 rfl (lv_at hl 1 rfl) ?_
        cases hM
        rw [hQQ]
        exact W.iret hx hb hr (fun t ht hW => ⟨⟨_, (), rfl, rfl, by show va_P D vwCl _ t.heap; rw [ht]; exact hP⟩, hS.F ht⟩) hS.2.2 dX5_brings_93
      · refine lq3_at (fun (x14 : Int32) (x15 : Int32) (mM_16 : GS) => ∀ (H : Heap) (locs : List Loc) (ls : Array Slot), va_P D vwCl (cMod Y oM mM_16 tk) H → va_S A s.heap H locs → lv_has ls 6 [(0, .ref (oM 0)), (1, .int i1), (2, .int i2), (3, .int x14), (4, .int x15)] → W p l e (headSpec wsX5_brings rmX5_brings).room s m ([.ref (oM 0), .int i1, .int i2] : List Value).toArray below meth c H locs 0 0 QQ (F0 m 30 ls [])) (fun rec17 x14 x15 mM_16 ih17 hM H locs ls hP hS hl => ?_) FU (0 : Int32) (0 : Int32) mM_7 hM H locs ls hP hS (lv_sub hl [2, 3, 4, 1, 0] rfl)
        unfold BX5_brings_30 at hM
        refine lv_iload hx hb dX5_brings_30 (lv_at hl 4 rfl) ?_
        refine lv_iload_n hx hb dX5_brings_32 rfl (lv_at hl 2 rfl) ?_
        refine lv_icmp_ge (tgt := 88) hx hb dX5_brings_33 (by decide) (fun c18 => ?_) (fun c18 => ?_)
        · replace hM := if_at_pos hM c18
          exact hJ11 x14 mM_16 hM H locs ls hP hS (lv_sub hl [0, 3] rfl)
        · replace hM := if_at_neg hM c18
          refine lv_iconst (v := (0 : Int32)) hx hb dX5_brings_36 (by decide) ?_
          refine lv_istore (lv' := [(5, .int (0 : Int32)), (0, .ref (oM 0)), (1, .int i1), (2, .int i2), (3, .int x14), (4, .int x15)]) hx hb dX5_brings_37 hl (by decide) rfl (fun ls hl => ?_)
          refine jn1_at (fun (x19 : Int32) => ∀ (H : Heap) (locs : List Loc) (ls : Array Slot), va_P D vwCl (cMod Y oM mM_16 tk) H → va_S A s.heap H locs → lv_has ls 6 [(0, .ref (oM 0)), (1, .int i1), (2, .int i2), (3, .int x19), (4, .int x15)] → W p l e (headSpec wsX5_brings rmX5_brings).room s m ([.ref (oM 0), .int i1, .int i2] : List Value).toArray below meth c H locs 0 0 QQ (F0 m 78 ls [])) hM (fun x19 hM H locs ls hP hS hl => ?_) (fun k20 hJ20 hM => ?_)
          · refine lv_aload_n hx hb dX5_brings_78 rfl (lv_at hl 0 rfl) ?_
            obtain ⟨mM_21, hc22, hM⟩ := bnd1_at hM
            refine co_v (va_runV (As := []) (rest := []) ⟨hx, hb, hml, hown, hts⟩ (ctX5_goNight l D Y oM H.size mM_16 tk mM_21 hc22) (cwV 0 hts gX5_brings_X5_goNight rfl rfl rfl (by decide +kernel) ⟨Nat.le_of_ble_eq_true rfl, Nat.le_of_ble_eq_true rfl⟩) (pcW_V0 (ci := 5) (q0 := 0) hK hP (hD.same rfl) rfl rfl) rfl rfl hl.1 rfl (lv_room (Nat.le_of_ble_eq_true rfl)) dX5_brings_79 ⟨Nat.zero_le _, Nat.zero_le _⟩) (hD.same rfl) hS hA (fun H locs hP hS => ?_)
            obtain ⟨x23, ex23⟩ : ∃ z : Int32, z = (x15 + 1) := ⟨_, rfl⟩
            replace hM := nm_at hM ex23
            refine lv_iinc (v := x23) (lv' := [(4, .int x23), (0, .ref (oM 0)), (1, .int i1), (2, .int i2), (3, .int x19)]) hx hb dX5_brings_82 hl (k := 4) rfl (by rw [ex23]; rfl) (by decide) rfl (fun ls hl => ?_)
            refine lv_goto (tgt := 30) hx hb dX5_brings_85 (by decide) ?_
            exact ih17 x19 x23 mM_21 hM H locs ls hP hS (lv_sub hl [1, 2, 3, 4, 0] rfl)
          · refine lq2_at (fun (x24 : Int32) (x25 : Int32) => ∀ (H : Heap) (locs : List Loc) (ls : Array Slot), va_P D vwCl (cMod Y oM mM_16 tk) H → va_S A s.heap H locs → lv_has ls 6 [(0, .ref (oM 0)), (1, .int i1), (2, .int i2), (3, .int x24), (4, .int x15), (5, .int x25)] → W p l e (headSpec wsX5_brings rmX5_brings).room s m ([.ref (oM 0), .int i1, .int i2] : List Value).toArray below meth c H locs 0 0 QQ (F0 m 39 ls [])) (fun rec26 x24 x25 ih26 hM H locs ls hP hS hl => ?_) FU x14 (0 : Int32) hM H locs ls hP hS (lv_sub hl [1, 2, 3, 4, 5, 0] rfl)
            unfold BX5_brings_39 at hM
            refine lv_iload hx hb dX5_brings_39 (lv_at hl 5 rfl) ?_
            refine lv_aload_n hx hb dX5_brings_41 rfl (lv_at hl 0 rfl) ?_
            refine va_get hx hb hts hi5 hown hK hP 0 rfl rfl 0 (by decide) (hts (.fieldLink RX5 7 "NightPlotsModel" "plots" "I") (List.mem_of_getElem? (i := 1) rfl)) (fun _ h9 => h9) rfl dX5_brings_42 ?_
            refine lv_icmp_ge (tgt := 78) hx hb dX5_brings_45 (by decide) (fun c27 => ?_) (fun c27 => ?_)
            · replace hM := if_at_pos hM c27
              exact hJ20 x24 hM H locs ls hP hS (lv_sub hl [0, 1, 2, 3, 4] rfl)
            · replace hM := if_at_neg hM c27
              refine lv_iload_n hx hb dX5_brings_48 rfl (lv_at hl 3 rfl) ?_
              refine lv_aload_n hx hb dX5_brings_49 rfl (lv_at hl 0 rfl) ?_
              refine lv_iload_n hx hb dX5_brings_50 rfl (lv_at hl 1 rfl) ?_
              refine lv_iload hx hb dX5_brings_51 (lv_at hl 5 rfl) ?_
              obtain ⟨r28, hc29, hM⟩ := bnd1_at hM
              refine co_i (va_runV (As := [.int i1, .int x25]) (rest := [.int x24]) ⟨hx, hb, hml, hown, hts⟩ (ctX5_standsOn l D Y oM H.size mM_16 tk i1 x25 r28 hc29) (cwV 2 hts gX5_brings_X5_standsOn rfl rfl rfl (by decide +kernel) ⟨Nat.le_of_ble_eq_true rfl, Nat.le_of_ble_eq_true rfl⟩) (pcW_V0 (ci := 5) (q0 := 0) hK hP (hD.same rfl) rfl rfl) rfl rfl hl.1 rfl (lv_room (Nat.le_of_ble_eq_true rfl)) dX5_brings_53 ⟨Nat.zero_le _, Nat.zero_le _⟩) (hD.same rfl) hS hA (fun H locs hP hS => ?_)
              refine jn1_at (fun (x30 : Int32) => ∀ (H : Heap) (locs : List Loc) (ls : Array Slot), va_P D vwCl (cMod Y oM mM_16 tk) H → va_S A s.heap H locs → lv_has ls 6 [(0, .ref (oM 0)), (1, .int i1), (2, .int i2), (4, .int x15), (5, .int x25)] → W p l e (headSpec wsX5_brings rmX5_brings).room s m ([.ref (oM 0), .int i1, .int i2] : List Value).toArray below meth c H locs 0 0 QQ (F0 m 70 ls [.int x30, .int x24])) hM (fun x30 hM H locs ls hP hS hl => ?_) (fun k31 hJ31 hM => ?_)
              · refine lv_iadd hx hb dX5_brings_70 ?_
                refine lv_topi (fun x32 ex32 => ?_)
                replace hM := nm_at hM ex32
                refine lv_istore_n (lv' := [(3, .int x32), (0, .ref (oM 0)), (1, .int i1), (2, .int i2), (4, .int x15), (5, .int x25)]) hx hb dX5_brings_71 rfl hl (by decide) rfl (fun ls hl => ?_)
                obtain ⟨x33, ex33⟩ : ∃ z : Int32, z = (x25 + 1) := ⟨_, rfl⟩
                replace hM := nm_at hM ex33
                refine lv_iinc (v := x33) (lv' := [(5, .int x33), (3, .int x32), (0, .ref (oM 0)), (1, .int i1), (2, .int i2), (4, .int x15)]) hx hb dX5_brings_72 hl (k := 5) rfl (by rw [ex33]; rfl) (by decide) rfl (fun ls hl => ?_)
                refine lv_goto (tgt := 39) hx hb dX5_brings_75 (by decide) ?_
                exact ih26 x32 x33 hM H locs ls hP hS (lv_sub hl [2, 3, 4, 1, 5, 0] rfl)
              · refine lv_if_eq (tgt := 69) hx hb dX5_brings_56 (by decide) (fun c34 => ?_) (fun c34 => ?_)
                · replace hM := if_at_pos hM c34
                  refine lv_iconst (v := (0 : Int32)) hx hb dX5_brings_69 (by decide) ?_
                  exact hJ31 (0 : Int32) hM H locs ls hP hS (lv_sub hl [0, 1, 2, 4, 5] rfl)
                · replace hM := if_at_neg hM c34
                  refine lv_aload_n hx hb dX5_brings_59 rfl (lv_at hl 0 rfl) ?_
                  refine va_get hx hb hts hi5 hown hK hP 0 rfl rfl 1 (by decide) (hts (.fieldLink RX5 13 "NightPlotsModel" "crop" "[I") (List.mem_of_getElem? (i := 2) rfl)) (fun _ h9 => h9) rfl dX5_brings_60 ?_
                  refine lv_iload hx hb dX5_brings_63 (lv_at hl 5 rfl) ?_
                  obtain ⟨hi_35, hM⟩ := chkI_at hM
                  refine va_iald hx hb hK hP 1 0 rfl rfl hi_35 dX5_brings_65 ?_
                  refine lv_goto (tgt := 70) hx hb dX5_brings_66 (by decide) ?_
                  exact hJ31 (mM_16 1 x25.toNatClampNeg) hM H locs ls hP hS (lv_sub hl [0, 1, 2, 4, 5] rfl)
    · replace hM := if_at_pos hM c6
      refine lv_bipush (v := (-3 : Int32)) hx hb dX5_brings_18 (by decide) ?_
      cases hM
      rw [hQQ]
      exact W.iret hx hb hr (fun t ht hW => ⟨⟨_, (), rfl, rfl, by show va_P D vwCl _ t.heap; rw [ht]; exact hP⟩, hS.F ht⟩) hS.2.2 dX5_brings_20
  · replace hM := if_at_pos hM c3
    refine lv_bipush (v := (-2 : Int32)) hx hb dX5_brings_8 (by decide) ?_
    cases hM
    rw [hQQ]
    exact W.iret hx hb hr (fun t ht hW => ⟨⟨_, (), rfl, rfl, by show va_P D vwCl _ t.heap; rw [ht]; exact hP⟩, hS.F ht⟩) hS.2.2 dX5_brings_10
