noncomputable def MX5_can (mM : GS) (i1 : Int32) (i2 : Int32) : Option (Int32 × GS) := bnd1 (MX5_isHouse mM i1) fun (r1 : Int32) => if r1 = 0 then (some ((-2 : Int32), mM)) else (if 0 ≤ i2 then (bnd1 (MX5_layWays mM i1) fun (mM_5 : GS) => jn1 (fun (x7 : Int32) => some (x7, mM_5)) (fun k8 => if (mM_5 0 32) ≤ i2 then (k8 (-1 : Int32)) else (chkI i2 8 (k8 (mM_5 13 i2.toNatClampNeg))))) else (some ((-3 : Int32), mM)))
abbrev rmX5_can : Room := { frames := 4, cells := 0, slots := 0, locals := 160 }
set_option maxHeartbeats 4000000 in
set_option maxRecDepth 100000 in
theorem ctX5_can (l : Launch) (D : va_G) (Y : Nat → ClassId) (oM : Nat → Nat) (sz : Nat) (mM : GS) (tk : Int64) (i1 : Int32) (i2 : Int32) (rr : Int32) (mMz : GS) (hM : MX5_can mM i1 i2 = some (rr, mMz)) : Met l yX5_can wsX5_can rmX5_can (pcW [.ref (oM 0), .int i1, .int i2] sz D Y (cMod Y oM mM tk)) (qiW rr D (cMod Y oM mMz tk) (va_A (cMod Y oM mM tk) sz)) 0 0 (va_A (cMod Y oM mM tk) sz) := by
  refine Met.ofW (cc := cX5_can) (maxL := 3) (ret := (some .int)) (by decide) rfl ?_
  intro p e s m args below meth c s₁ B hml hv
  obtain ⟨rfl, hsz, hP, hK, hD0⟩ := hv
  have hx := B.exec
  have hb := B.bytes
  have hr := B.returns
  have hts := atoms_spec (ws := wsX5_can) B.pre
  have hown : s.vm.findClass RX5 = some m.cls := findClass_of_methodNamed B.named
  have hlocks := B.notSynchronized
  subst hsz
  have hD := hD0.self (sz := s.heap.size)
  generalize hAe : va_A (cMod Y oM mM tk) s.heap.size = A at hD ⊢
  have hA : ∀ q : Nat, s.heap.size ≤ q → A q := fun q h => by rw [← hAe]; exact Or.inr h
  have hS : va_S A s.heap s.heap [] := va_S.rf
  have hi5 : ∀ w ∈ wsX50, w ∈ wsX5_can := fun w h => List.mem_cons_of_mem _ (List.mem_append_right _ h)
  have hl := lv_entry ([.ref (oM 0), .int i1, .int i2]) (n := 3) (Nat.le_of_ble_eq_true rfl)
  rw [lg_entry_eq]
  generalize (lg_sl ([.ref (oM 0), .int i1, .int i2]) ++ List.replicate (3 - (lg_sl ([.ref (oM 0), .int i1, .int i2])).length) Slot.unset).toArray = ls at hl ⊢
  have hl : lv_has ls 3 [(0, .ref (oM 0)), (1, .int i1), (2, .int i2)] := hl
  obtain ⟨QQ, hQQ⟩ : ∃ Q : State → Prop, Q = MQ below (qiW rr D (cMod Y oM mMz tk) A) ([.ref (oM 0), .int i1, .int i2] : List Value).toArray s 0 0 A := ⟨_, rfl⟩
  rw [← hQQ]
  unfold MX5_can at hM
  suffices hI : ∀ (H : Heap) (locs : List Loc), va_P D vwCl (cMod Y oM mM tk) H → va_S A s.heap H locs → W p l e (headSpec wsX5_can rmX5_can).room s m ([.ref (oM 0), .int i1, .int i2] : List Value).toArray below meth c H locs 0 0 QQ (F0 m 0 ls []) from hI _ _ hP hS
  clear hP hS
  intro H locs hP hS
  refine lv_aload_n hx hb dX5_can_0 rfl (lv_at hl 0 rfl) ?_
  refine lv_iload_n hx hb dX5_can_1 rfl (lv_at hl 1 rfl) ?_
  obtain ⟨r1, hc2, hM⟩ := bnd1_at hM
  refine co_i (va_runV (As := [.int i1]) (rest := []) ⟨hx, hb, hml, hown, hts⟩ (ctX5_isHouse l D Y oM H.size mM tk i1 r1 hc2) (cwV 1 hts gX5_can_X5_isHouse rfl rfl rfl (by decide +kernel) ⟨Nat.le_of_ble_eq_true rfl, Nat.le_of_ble_eq_true rfl⟩) (pcW_V0 (ci := 5) (q0 := 0) hK hP (hD.same rfl) rfl rfl) rfl rfl hl.1 rfl (lv_room (Nat.le_of_ble_eq_true rfl)) dX5_can_2 ⟨Nat.zero_le _, Nat.zero_le _⟩) (hD.same rfl) hS hA (fun H locs hP hS => ?_)
  refine lv_if_ne (tgt := 11) hx hb dX5_can_5 (by decide) (fun c3 => ?_) (fun c3 => ?_)
  · replace hM := if_at_neg hM c3
    refine lv_iload_n hx hb dX5_can_11 rfl (lv_at hl 2 rfl) ?_
    refine lv_if_ge (tgt := 18) hx hb dX5_can_12 (by decide) (fun c4 => ?_) (fun c4 => ?_)
    · replace hM := if_at_pos hM c4
      refine lv_aload_n hx hb dX5_can_18 rfl (lv_at hl 0 rfl) ?_
      refine lv_iload_n hx hb dX5_can_19 rfl (lv_at hl 1 rfl) ?_
      obtain ⟨mM_5, hc6, hM⟩ := bnd1_at hM
      refine co_v (va_runV (As := [.int i1]) (rest := []) ⟨hx, hb, hml, hown, hts⟩ (ctX5_layWays l D Y oM H.size mM tk i1 mM_5 hc6) (cwV 1 hts gX5_can_X5_layWays rfl rfl rfl (by decide +kernel) ⟨Nat.le_of_ble_eq_true rfl, Nat.le_of_ble_eq_true rfl⟩) (pcW_V0 (ci := 5) (q0 := 0) hK hP (hD.same rfl) rfl rfl) rfl rfl hl.1 rfl (lv_room (Nat.le_of_ble_eq_true rfl)) dX5_can_20 ⟨Nat.zero_le _, Nat.zero_le _⟩) (hD.same rfl) hS hA (fun H locs hP hS => ?_)
      refine lv_iload_n hx hb dX5_can_23 rfl (lv_at hl 2 rfl) ?_
      refine lv_aload_n hx hb dX5_can_24 rfl (lv_at hl 0 rfl) ?_
      refine va_get hx hb hts hi5 hown hK hP 0 rfl rfl 32 (by decide) (hts (.fieldLink RX5 225 "NightPlotsModel" "wayMany" "I") (List.mem_of_getElem? (i := 1) rfl)) (fun _ h9 => h9) rfl dX5_can_25 ?_
      refine jn1_at (fun (x7 : Int32) => ∀ (H : Heap) (locs : List Loc) (ls : Array Slot), va_P D vwCl (cMod Y oM mM_5 tk) H → va_S A s.heap H locs → lv_has ls 3 [] → W p l e (headSpec wsX5_can rmX5_can).room s m ([.ref (oM 0), .int i1, .int i2] : List Value).toArray below meth c H locs 0 0 QQ (F0 m 41 ls [.int x7])) hM (fun x7 hM H locs ls hP hS hl => ?_) (fun k8 hJ8 hM => ?_)
      · cases hM
        rw [hQQ]
        exact W.iret hx hb hr (fun t ht hW => ⟨⟨_, (), rfl, rfl, by show va_P D vwCl _ t.heap; rw [ht]; exact hP⟩, hS.F ht⟩) hS.2.2 dX5_can_41
      · refine lv_icmp_ge (tgt := 40) hx hb dX5_can_28 (by decide) (fun c9 => ?_) (fun c9 => ?_)
        · replace hM := if_at_pos hM c9
          refine lv_iconst (v := (-1 : Int32)) hx hb dX5_can_40 (by decide) ?_
          exact hJ8 (-1 : Int32) hM H locs ls hP hS (lv_sub hl [] rfl)
        · replace hM := if_at_neg hM c9
          refine lv_aload_n hx hb dX5_can_31 rfl (lv_at hl 0 rfl) ?_
          refine va_get hx hb hts hi5 hown hK hP 0 rfl rfl 33 (by decide) (hts (.fieldLink RX5 54 "NightPlotsModel" "way" "[I") (List.mem_of_getElem? (i := 2) rfl)) (fun _ h9 => h9) rfl dX5_can_32 ?_
          refine lv_iload_n hx hb dX5_can_35 rfl (lv_at hl 2 rfl) ?_
          obtain ⟨hi_10, hM⟩ := chkI_at hM
          refine va_iald hx hb hK hP 13 0 rfl rfl hi_10 dX5_can_36 ?_
          refine lv_goto (tgt := 41) hx hb dX5_can_37 (by decide) ?_
          exact hJ8 (mM_5 13 i2.toNatClampNeg) hM H locs ls hP hS (lv_sub hl [] rfl)
    · replace hM := if_at_neg hM c4
      refine lv_bipush (v := (-3 : Int32)) hx hb dX5_can_15 (by decide) ?_
      cases hM
      rw [hQQ]
      exact W.iret hx hb hr (fun t ht hW => ⟨⟨_, (), rfl, rfl, by show va_P D vwCl _ t.heap; rw [ht]; exact hP⟩, hS.F ht⟩) hS.2.2 dX5_can_17
  · replace hM := if_at_pos hM c3
    refine lv_bipush (v := (-2 : Int32)) hx hb dX5_can_8 (by decide) ?_
    cases hM
    rw [hQQ]
    exact W.iret hx hb hr (fun t ht hW => ⟨⟨_, (), rfl, rfl, by show va_P D vwCl _ t.heap; rw [ht]; exact hP⟩, hS.F ht⟩) hS.2.2 dX5_can_10
noncomputable def MX5_rollTo (mM : GS) (i1 : Int32) (i2 : Int32) : Option (GS) := chkI i1 19 (nm (upA mM 8 (upd (mM 8) i1.toNatClampNeg i2)) fun (mM_2 : GS) => chkI (16 : Int32) 19 (nm (mM_2 8 (16 : Int32).toNatClampNeg) fun (x4 : Int32) => chkI ((8 : Int32) + i1) 19 (nm (upA mM_2 8 (upd (mM_2 8) ((8 : Int32) + i1).toNatClampNeg x4)) fun (mM_6 : GS) => some (mM_6))))
abbrev rmX5_rollTo : Room := { frames := 1, cells := 0, slots := 0, locals := 40 }
set_option maxHeartbeats 4000000 in
set_option maxRecDepth 100000 in
theorem ctX5_rollTo (l : Launch) (D : va_G) (Y : Nat → ClassId) (oM : Nat → Nat) (sz : Nat) (mM : GS) (tk : Int64) (i1 : Int32) (i2 : Int32) (mMz : GS) (hM : MX5_rollTo mM i1 i2 = some (mMz)) : Met l yX5_rollTo wsX5_rollTo rmX5_rollTo (pcW [.ref (oM 0), .int i1, .int i2] sz D Y (cMod Y oM mM tk)) (qvW D (cMod Y oM mMz tk) (va_A (cMod Y oM mM tk) sz)) 0 0 (va_A (cMod Y oM mM tk) sz) := by
  refine Met.ofW (cc := cX5_rollTo) (maxL := 3) (ret := (none)) (by decide) rfl ?_
  intro p e s m args below meth c s₁ B hml hv
  obtain ⟨rfl, hsz, hP, hK, hD0⟩ := hv
  have hx := B.exec
  have hb := B.bytes
  have hr := B.returns
  have hts := atoms_spec (ws := wsX5_rollTo) B.pre
  have hown : s.vm.findClass RX5 = some m.cls := findClass_of_methodNamed B.named
  have hlocks := B.notSynchronized
  subst hsz
  have hD := hD0.self (sz := s.heap.size)
  generalize hAe : va_A (cMod Y oM mM tk) s.heap.size = A at hD ⊢
  have hA : ∀ q : Nat, s.heap.size ≤ q → A q := fun q h => by rw [← hAe]; exact Or.inr h
  have hS : va_S A s.heap s.heap [] := va_S.rf
  have hi5 : ∀ w ∈ wsX50, w ∈ wsX5_rollTo := fun w h => List.mem_cons_of_mem _ (List.mem_append_right _ h)
  have hl := lv_entry ([.ref (oM 0), .int i1, .int i2]) (n := 3) (Nat.le_of_ble_eq_true rfl)
  rw [lg_entry_eq]
  generalize (lg_sl ([.ref (oM 0), .int i1, .int i2]) ++ List.replicate (3 - (lg_sl ([.ref (oM 0), .int i1, .int i2])).length) Slot.unset).toArray = ls at hl ⊢
  have hl : lv_has ls 3 [(0, .ref (oM 0)), (1, .int i1), (2, .int i2)] := hl
  obtain ⟨QQ, hQQ⟩ : ∃ Q : State → Prop, Q = MQ below (qvW D (cMod Y oM mMz tk) A) ([.ref (oM 0), .int i1, .int i2] : List Value).toArray s 0 0 A := ⟨_, rfl⟩
  rw [← hQQ]
  unfold MX5_rollTo at hM
  suffices hI : ∀ (H : Heap) (locs : List Loc), va_P D vwCl (cMod Y oM mM tk) H → va_S A s.heap H locs → W p l e (headSpec wsX5_rollTo rmX5_rollTo).room s m ([.ref (oM 0), .int i1, .int i2] : List Value).toArray below meth c H locs 0 0 QQ (F0 m 0 ls []) from hI _ _ hP hS
  clear hP hS
  intro H locs hP hS
  refine lv_aload_n hx hb dX5_rollTo_0 rfl (lv_at hl 0 rfl) ?_
  refine va_get hx hb hts hi5 hown hK hP 0 rfl rfl 26 (by decide) (hts (.fieldLink RX5 38 "NightPlotsModel" "now" "[I") (List.mem_of_getElem? (i := 1) rfl)) (fun _ h9 => h9) rfl dX5_rollTo_1 ?_
  refine lv_iload_n hx hb dX5_rollTo_4 rfl (lv_at hl 1 rfl) ?_
  refine lv_iload_n hx hb dX5_rollTo_5 rfl (lv_at hl 2 rfl) ?_
  obtain ⟨hi_1, hM⟩ := chkI_at hM
  refine va_iast hx hb hK hP (hD.same rfl) hS 8 0 rfl rfl hi_1 dX5_rollTo_6 (fun H locs hP _ hS => ?_)
  obtain ⟨mM_2, emM_2⟩ : ∃ z : GS, z = (upA mM 8 (upd (mM 8) i1.toNatClampNeg i2)) := ⟨_, rfl⟩
  have hP : va_P D vwCl (cMod Y oM mM_2 tk) H := by rw [emM_2]; exact hP
  replace hM := nm_at hM emM_2
  refine lv_aload_n hx hb dX5_rollTo_7 rfl (lv_at hl 0 rfl) ?_
  refine va_get hx hb hts hi5 hown hK hP 0 rfl rfl 26 (by decide) (hts (.fieldLink RX5 38 "NightPlotsModel" "now" "[I") (List.mem_of_getElem? (i := 1) rfl)) (fun _ h9 => h9) rfl dX5_rollTo_8 ?_
  refine lv_bipush (v := (8 : Int32)) hx hb dX5_rollTo_11 (by decide) ?_
  refine lv_iload_n hx hb dX5_rollTo_13 rfl (lv_at hl 1 rfl) ?_
  refine lv_iadd hx hb dX5_rollTo_14 ?_
  refine lv_aload_n hx hb dX5_rollTo_15 rfl (lv_at hl 0 rfl) ?_
  refine va_get hx hb hts hi5 hown hK hP 0 rfl rfl 26 (by decide) (hts (.fieldLink RX5 38 "NightPlotsModel" "now" "[I") (List.mem_of_getElem? (i := 1) rfl)) (fun _ h9 => h9) rfl dX5_rollTo_16 ?_
  refine lv_bipush (v := (16 : Int32)) hx hb dX5_rollTo_19 (by decide) ?_
  obtain ⟨hi_3, hM⟩ := chkI_at hM
  refine va_iald hx hb hK hP 8 0 rfl rfl hi_3 dX5_rollTo_21 ?_
  refine lv_topi (fun x4 ex4 => ?_)
  replace hM := nm_at hM ex4
  obtain ⟨hi_5, hM⟩ := chkI_at hM
  refine va_iast hx hb hK hP (hD.same rfl) hS 8 0 rfl rfl hi_5 dX5_rollTo_22 (fun H locs hP _ hS => ?_)
  obtain ⟨mM_6, emM_6⟩ : ∃ z : GS, z = (upA mM_2 8 (upd (mM_2 8) ((8 : Int32) + i1).toNatClampNeg x4)) := ⟨_, rfl⟩
  have hP : va_P D vwCl (cMod Y oM mM_6 tk) H := by rw [emM_6]; exact hP
  replace hM := nm_at hM emM_6
  cases hM
  rw [hQQ]
  exact W.vret hx hb hr (fun t ht hW => ⟨⟨(), rfl, trivial, by show va_P D vwCl _ t.heap; rw [ht]; exact hP⟩, hS.F ht⟩) hS.2.2 dX5_rollTo_23
noncomputable def BX5_rolls_4 (k3 : Int32 → GS → Option (Int32 × GS)) (rec7 : Int32 → Int32 → GS → Option (Int32 × GS)) (x4 : Int32) (x5 : Int32) (mM_6 : GS) : Option (Int32 × GS) := if (mM_6 0 2) ≤ x5 then (k3 x4 mM_6) else (jn1 (fun (x9 : Int32) => bnd1 (MX5_layWays mM_6 x9) fun (mM_11 : GS) => jn1 (fun (x13 : Int32) => jn1 (fun (x15 : Int32) => nm (x5 + 1) fun (x17 : Int32) => rec7 x15 x17 mM_11) (fun k16 => if x13 = 0 then (k16 x4) else (k16 x9))) (fun k14 => jn0 (k14 (0 : Int32)) (fun k19 => if (mM_11 0 32) ≤ 0 then (k19) else (jn0 (k14 (1 : Int32)) (fun k21 => if x4 = (-1 : Int32) then (k21) else (if (mM_11 0 34) = (2 : Int32) then (chkI ((8 : Int32) + x9) 19 (chkI ((8 : Int32) + x4) 19 (if (mM_11 8 ((8 : Int32) + x4).toNatClampNeg) ≤ (mM_11 8 ((8 : Int32) + x9).toNatClampNeg) then (k19) else (k21)))) else (k19))))))) (fun k10 => if (mM_6 0 34) = (1 : Int32) then (chkI (17 : Int32) 19 (chkZ (mM_6 0 2) (k10 (((mM_6 8 (17 : Int32).toNatClampNeg) + x5) - ((mM_6 8 (17 : Int32).toNatClampNeg) + x5) / (mM_6 0 2) * (mM_6 0 2))))) else (k10 x5)))
noncomputable def MX5_rolls (mM : GS) : Option (Int32 × GS) := jn2 (fun (x1 : Int32) (mM_2 : GS) => some (x1, mM_2)) (fun k3 => lq3 (BX5_rolls_4 k3) FU (-1 : Int32) (0 : Int32) mM)
abbrev rmX5_rolls : Room := { frames := 4, cells := 0, slots := 0, locals := 160 }
set_option maxHeartbeats 4000000 in
set_option maxRecDepth 100000 in
theorem ctX5_rolls (l : Launch) (D : va_G) (Y : Nat → ClassId) (oM : Nat → Nat) (sz : Nat) (mM : GS) (tk : Int64) (rr : Int32) (mMz : GS) (hM : MX5_rolls mM = some (rr, mMz)) : Met l yX5_rolls wsX5_rolls rmX5_rolls (pcW [.ref (oM 0)] sz D Y (cMod Y oM mM tk)) (qiW rr D (cMod Y oM mMz tk) (va_A (cMod Y oM mM tk) sz)) 0 0 (va_A (cMod Y oM mM tk) sz) := by
  refine Met.ofW (cc := cX5_rolls) (maxL := 5) (ret := (some .int)) (by decide) rfl ?_
  intro p e s m args below meth c s₁ B hml hv
  obtain ⟨rfl, hsz, hP, hK, hD0⟩ := hv
  have hx := B.exec
  have hb := B.bytes
  have hr := B.returns
  have hts := atoms_spec (ws := wsX5_rolls) B.pre
  have hown : s.vm.findClass RX5 = some m.cls := findClass_of_methodNamed B.named
  have hlocks := B.notSynchronized
  subst hsz
  have hD := hD0.self (sz := s.heap.size)
  generalize hAe : va_A (cMod Y oM mM tk) s.heap.size = A at hD ⊢
  have hA : ∀ q : Nat, s.heap.size ≤ q → A q := fun q h => by rw [← hAe]; exact Or.inr h
  have hS : va_S A s.heap s.heap [] := va_S.rf
  have hi5 : ∀ w ∈ wsX50, w ∈ wsX5_rolls := fun w h => List.mem_cons_of_mem _ (List.mem_append_right _ h)
  have hl := lv_entry ([.ref (oM 0)]) (n := 5) (Nat.le_of_ble_eq_true rfl)
  rw [lg_entry_eq]
  generalize (lg_sl ([.ref (oM 0)]) ++ List.replicate (5 - (lg_sl ([.ref (oM 0)])).length) Slot.unset).toArray = ls at hl ⊢
  have hl : lv_has ls 5 [(0, .ref (oM 0))] := hl
  obtain ⟨QQ, hQQ⟩ : ∃ Q : State → Prop, Q = MQ below (qiW rr D (cMod Y oM mMz tk) A) ([.ref (oM 0)] : List Value).toArray s 0 0 A := ⟨_, rfl⟩
  rw [← hQQ]
  unfold MX5_rolls at hM
  suffices hI : ∀ (H : Heap) (locs : List Loc), va_P D vwCl (cMod Y oM mM tk) H → va_S A s.heap H locs → W p l e (headSpec wsX5_rolls rmX5_rolls).room s m ([.ref (oM 0)] : List Value).toArray below meth c H locs 0 0 QQ (F0 m 0 ls []) from hI _ _ hP hS
  clear hP hS
  intro H locs hP hS
  refine lv_iconst (v := (-1 : Int32)) hx hb dX5_rolls_0 (by decide) ?_
  refine lv_istore_n (lv' := [(1, .int (-1 : Int32)), (0, .ref (oM 0))]) hx hb dX5_rolls_1 rfl hl (by decide) rfl (fun ls hl => ?_)
  refine lv_iconst (v := (0 : Int32)) hx hb dX5_rolls_2 (by decide) ?_
  refine lv_istore_n (lv' := [(2, .int (0 : Int32)), (1, .int (-1 : Int32)), (0, .ref (oM 0))]) hx hb dX5_rolls_3 rfl hl (by decide) rfl (fun ls hl => ?_)
  refine jn2_at (fun (x1 : Int32) (mM_2 : GS) => ∀ (H : Heap) (locs : List Loc) (ls : Array Slot), va_P D vwCl (cMod Y oM mM_2 tk) H → va_S A s.heap H locs → lv_has ls 5 [(1, .int x1)] → W p l e (headSpec wsX5_rolls rmX5_rolls).room s m ([.ref (oM 0)] : List Value).toArray below meth c H locs 0 0 QQ (F0 m 109 ls [])) hM (fun x1 mM_2 hM H locs ls hP hS hl => ?_) (fun k3 hJ3 hM => ?_)
  · refine lv_iload_n hx hb dX5_rolls_109 rfl (lv_at hl 0 rfl) ?_
    cases hM
    rw [hQQ]
    exact W.iret hx hb hr (fun t ht hW => ⟨⟨_, (), rfl, rfl, by show va_P D vwCl _ t.heap; rw [ht]; exact hP⟩, hS.F ht⟩) hS.2.2 dX5_rolls_110
  · refine lq3_at (fun (x4 : Int32) (x5 : Int32) (mM_6 : GS) => ∀ (H : Heap) (locs : List Loc) (ls : Array Slot), va_P D vwCl (cMod Y oM mM_6 tk) H → va_S A s.heap H locs → lv_has ls 5 [(0, .ref (oM 0)), (1, .int x4), (2, .int x5)] → W p l e (headSpec wsX5_rolls rmX5_rolls).room s m ([.ref (oM 0)] : List Value).toArray below meth c H locs 0 0 QQ (F0 m 4 ls [])) (fun rec7 x4 x5 mM_6 ih7 hM H locs ls hP hS hl => ?_) FU (-1 : Int32) (0 : Int32) mM hM H locs ls hP hS (lv_sub hl [2, 1, 0] rfl)
    unfold BX5_rolls_4 at hM
    refine lv_iload_n hx hb dX5_rolls_4 rfl (lv_at hl 2 rfl) ?_
    refine lv_aload_n hx hb dX5_rolls_5 rfl (lv_at hl 0 rfl) ?_
    refine va_get hx hb hts hi5 hown hK hP 0 rfl rfl 2 (by decide) (hts (.fieldLink RX5 78 "NightPlotsModel" "houses" "I") (List.mem_of_getElem? (i := 1) rfl)) (fun _ h9 => h9) rfl dX5_rolls_6 ?_
    refine lv_icmp_ge (tgt := 109) hx hb dX5_rolls_9 (by decide) (fun c8 => ?_) (fun c8 => ?_)
    · replace hM := if_at_pos hM c8
      exact hJ3 x4 mM_6 hM H locs ls hP hS (lv_sub hl [1] rfl)
    · replace hM := if_at_neg hM c8
      refine lv_aload_n hx hb dX5_rolls_12 rfl (lv_at hl 0 rfl) ?_
      refine va_get hx hb hts hi5 hown hK hP 0 rfl rfl 34 (by decide) (hts (.fieldLink RX5 245 "NightPlotsModel" "triedLaw" "I") (List.mem_of_getElem? (i := 2) rfl)) (fun _ h9 => h9) rfl dX5_rolls_13 ?_
      refine lv_iconst (v := (1 : Int32)) hx hb dX5_rolls_16 (by decide) ?_
      refine jn1_at (fun (x9 : Int32) => ∀ (H : Heap) (locs : List Loc) (ls : Array Slot), va_P D vwCl (cMod Y oM mM_6 tk) H → va_S A s.heap H locs → lv_has ls 5 [(0, .ref (oM 0)), (1, .int x4), (2, .int x5)] → W p l e (headSpec wsX5_rolls rmX5_rolls).room s m ([.ref (oM 0)] : List Value).toArray below meth c H locs 0 0 QQ (F0 m 38 ls [.int x9])) hM (fun x9 hM H locs ls hP hS hl => ?_) (fun k10 hJ10 hM => ?_)
      · refine lv_istore_n (lv' := [(3, .int x9), (0, .ref (oM 0)), (1, .int x4), (2, .int x5)]) hx hb dX5_rolls_38 rfl hl (by decide) rfl (fun ls hl => ?_)
        refine lv_aload_n hx hb dX5_rolls_39 rfl (lv_at hl 1 rfl) ?_
        refine lv_iload_n hx hb dX5_rolls_40 rfl (lv_at hl 0 rfl) ?_
        obtain ⟨mM_11, hc12, hM⟩ := bnd1_at hM
        refine co_v (va_runV (As := [.int x9]) (rest := []) ⟨hx, hb, hml, hown, hts⟩ (ctX5_layWays l D Y oM H.size mM_6 tk x9 mM_11 hc12) (cwV 1 hts gX5_rolls_X5_layWays rfl rfl rfl (by decide +kernel) ⟨Nat.le_of_ble_eq_true rfl, Nat.le_of_ble_eq_true rfl⟩) (pcW_V0 (ci := 5) (q0 := 0) hK hP (hD.same rfl) rfl rfl) rfl rfl hl.1 rfl (lv_room (Nat.le_of_ble_eq_true rfl)) dX5_rolls_41 ⟨Nat.zero_le _, Nat.zero_le _⟩) (hD.same rfl) hS hA (fun H locs hP hS => ?_)
        refine lv_aload_n hx hb dX5_rolls_44 rfl (lv_at hl 1 rfl) ?_
        refine va_get hx hb hts hi5 hown hK hP 0 rfl rfl 32 (by decide) (hts (.fieldLink RX5 225 "NightPlotsModel" "wayMany" "I") (List.mem_of_getElem? (i := 4) rfl)) (fun _ h9 => h9) rfl dX5_rolls_45 ?_
        refine jn1_at (fun (x13 : Int32) => ∀ (H : Heap) (locs : List Loc) (ls : Array Slot), va_P D vwCl (cMod Y oM mM_11 tk) H → va_S A s.heap H locs → lv_has ls 5 [(0, .ref (oM 0)), (1, .int x4), (2, .int x5), (3, .int x9)] → W p l e (headSpec wsX5_rolls rmX5_rolls).room s m ([.ref (oM 0)] : List Value).toArray below meth c H locs 0 0 QQ (F0 m 90 ls [.int x13])) hM (fun x13 hM H locs ls hP hS hl => ?_) (fun k14 hJ14 hM => ?_)
        · refine lv_istore (lv' := [(4, .int x13), (0, .ref (oM 0)), (1, .int x4), (2, .int x5), (3, .int x9)]) hx hb dX5_rolls_90 hl (by decide) rfl (fun ls hl => ?_)
          refine lv_iload hx hb dX5_rolls_92 (lv_at hl 0 rfl) ?_
          refine jn1_at (fun (x15 : Int32) => ∀ (H : Heap) (locs : List Loc) (ls : Array Slot), va_P D vwCl (cMod Y oM mM_11 tk) H → va_S A s.heap H locs → lv_has ls 5 [(0, .ref (oM 0)), (2, .int x5)] → W p l e (headSpec wsX5_rolls rmX5_rolls).room s m ([.ref (oM 0)] : List Value).toArray below meth c H locs 0 0 QQ (F0 m 102 ls [.int x15])) hM (fun x15 hM H locs ls hP hS hl => ?_) (fun k16 hJ16 hM => ?_)
          · refine lv_istore_n (lv' := [(1, .int x15), (0, .ref (oM 0)), (2, .int x5)]) hx hb dX5_rolls_102 rfl hl (by decide) rfl (fun ls hl => ?_)
            obtain ⟨x17, ex17⟩ : ∃ z : Int32, z = (x5 + 1) := ⟨_, rfl⟩
            replace hM := nm_at hM ex17
            refine lv_iinc (v := x17) (lv' := [(2, .int x17), (1, .int x15), (0, .ref (oM 0))]) hx hb dX5_rolls_103 hl (k := 2) rfl (by rw [ex17]; rfl) (by decide) rfl (fun ls hl => ?_)
            refine lv_goto (tgt := 4) hx hb dX5_rolls_106 (by decide) ?_
            exact ih7 x15 x17 mM_11 hM H locs ls hP hS (lv_sub hl [2, 1, 0] rfl)
          · refine lv_if_eq (tgt := 101) hx hb dX5_rolls_94 (by decide) (fun c18 => ?_) (fun c18 => ?_)
            · replace hM := if_at_pos hM c18
              refine lv_iload_n hx hb dX5_rolls_101 rfl (lv_at hl 2 rfl) ?_
              exact hJ16 x4 hM H locs ls hP hS (lv_sub hl [1, 3] rfl)
            · replace hM := if_at_neg hM c18
              refine lv_iload_n hx hb dX5_rolls_97 rfl (lv_at hl 4 rfl) ?_
              refine lv_goto (tgt := 102) hx hb dX5_rolls_98 (by decide) ?_
              exact hJ16 x9 hM H locs ls hP hS (lv_sub hl [1, 3] rfl)
        · refine jn0_at (∀ (H : Heap) (locs : List Loc) (ls : Array Slot), va_P D vwCl (cMod Y oM mM_11 tk) H → va_S A s.heap H locs → lv_has ls 5 [(0, .ref (oM 0)), (1, .int x4), (2, .int x5), (3, .int x9)] → W p l e (headSpec wsX5_rolls rmX5_rolls).room s m ([.ref (oM 0)] : List Value).toArray below meth c H locs 0 0 QQ (F0 m 89 ls [])) hM (fun  hM H locs ls hP hS hl => ?_) (fun k19 hJ19 hM => ?_)
          · refine lv_iconst (v := (0 : Int32)) hx hb dX5_rolls_89 (by decide) ?_
            exact hJ14 (0 : Int32) hM H locs ls hP hS (lv_sub hl [0, 1, 2, 3] rfl)
          · refine lv_if_le (tgt := 89) hx hb dX5_rolls_48 (by decide) (fun c20 => ?_) (fun c20 => ?_)
            · replace hM := if_at_pos hM c20
              exact hJ19 hM H locs ls hP hS (lv_sub hl [1, 2, 3, 0] rfl)
            · replace hM := if_at_neg hM c20
              refine lv_iload_n hx hb dX5_rolls_51 rfl (lv_at hl 2 rfl) ?_
              refine lv_iconst (v := (-1 : Int32)) hx hb dX5_rolls_52 (by decide) ?_
              refine jn0_at (∀ (H : Heap) (locs : List Loc) (ls : Array Slot), va_P D vwCl (cMod Y oM mM_11 tk) H → va_S A s.heap H locs → lv_has ls 5 [(0, .ref (oM 0)), (1, .int x4), (2, .int x5), (3, .int x9)] → W p l e (headSpec wsX5_rolls rmX5_rolls).room s m ([.ref (oM 0)] : List Value).toArray below meth c H locs 0 0 QQ (F0 m 85 ls [])) hM (fun  hM H locs ls hP hS hl => ?_) (fun k21 hJ21 hM => ?_)
              · refine lv_iconst (v := (1 : Int32)) hx hb dX5_rolls_85 (by decide) ?_
                refine lv_goto (tgt := 90) hx hb dX5_rolls_86 (by decide) ?_
                exact hJ14 (1 : Int32) hM H locs ls hP hS (lv_sub hl [0, 1, 2, 3] rfl)
              · refine lv_icmp_eq (tgt := 85) hx hb dX5_rolls_53 (by decide) (fun c22 => ?_) (fun c22 => ?_)
                · replace hM := if_at_pos hM c22
                  exact hJ21 hM H locs ls hP hS (lv_sub hl [1, 2, 3, 0] rfl)
                · replace hM := if_at_neg hM c22
                  refine lv_aload_n hx hb dX5_rolls_56 rfl (lv_at hl 1 rfl) ?_
                  refine va_get hx hb hts hi5 hown hK hP 0 rfl rfl 34 (by decide) (hts (.fieldLink RX5 245 "NightPlotsModel" "triedLaw" "I") (List.mem_of_getElem? (i := 2) rfl)) (fun _ h9 => h9) rfl dX5_rolls_57 ?_
                  refine lv_iconst (v := (2 : Int32)) hx hb dX5_rolls_60 (by decide) ?_
                  refine lv_icmp_ne (tgt := 89) hx hb dX5_rolls_61 (by decide) (fun c23 => ?_) (fun c23 => ?_)
                  · replace hM := if_at_neg hM c23
                    exact hJ19 hM H locs ls hP hS (lv_sub hl [1, 2, 3, 0] rfl)
                  · replace hM := if_at_pos hM c23
                    refine lv_aload_n hx hb dX5_rolls_64 rfl (lv_at hl 1 rfl) ?_
                    refine va_get hx hb hts hi5 hown hK hP 0 rfl rfl 26 (by decide) (hts (.fieldLink RX5 38 "NightPlotsModel" "now" "[I") (List.mem_of_getElem? (i := 3) rfl)) (fun _ h9 => h9) rfl dX5_rolls_65 ?_
                    refine lv_bipush (v := (8 : Int32)) hx hb dX5_rolls_68 (by decide) ?_
                    refine lv_iload_n hx hb dX5_rolls_70 rfl (lv_at hl 0 rfl) ?_
                    refine lv_iadd hx hb dX5_rolls_71 ?_
                    obtain ⟨hi_24, hM⟩ := chkI_at hM
                    refine va_iald hx hb hK hP 8 0 rfl rfl hi_24 dX5_rolls_72 ?_
                    refine lv_aload_n hx hb dX5_rolls_73 rfl (lv_at hl 1 rfl) ?_
                    refine va_get hx hb hts hi5 hown hK hP 0 rfl rfl 26 (by decide) (hts (.fieldLink RX5 38 "NightPlotsModel" "now" "[I") (List.mem_of_getElem? (i := 3) rfl)) (fun _ h9 => h9) rfl dX5_rolls_74 ?_
                    refine lv_bipush (v := (8 : Int32)) hx hb dX5_rolls_77 (by decide) ?_
                    refine lv_iload_n hx hb dX5_rolls_79 rfl (lv_at hl 2 rfl) ?_
                    refine lv_iadd hx hb dX5_rolls_80 ?_
                    obtain ⟨hi_25, hM⟩ := chkI_at hM
                    refine va_iald hx hb hK hP 8 0 rfl rfl hi_25 dX5_rolls_81 ?_
                    refine lv_icmp_ge (tgt := 89) hx hb dX5_rolls_82 (by decide) (fun c26 => ?_) (fun c26 => ?_)
                    · replace hM := if_at_pos hM c26
                      exact hJ19 hM H locs ls hP hS (lv_sub hl [1, 2, 3, 0] rfl)
                    · replace hM := if_at_neg hM c26
                      exact hJ21 hM H locs ls hP hS (lv_sub hl [1, 2, 3, 0] rfl)
      · refine lv_icmp_ne (tgt := 37) hx hb dX5_rolls_17 (by decide) (fun c27 => ?_) (fun c27 => ?_)
        · replace hM := if_at_neg hM c27
          refine lv_iload_n hx hb dX5_rolls_37 rfl (lv_at hl 2 rfl) ?_
          exact hJ10 x5 hM H locs ls hP hS (lv_sub hl [0, 1, 2] rfl)
        · replace hM := if_at_pos hM c27
          refine lv_aload_n hx hb dX5_rolls_20 rfl (lv_at hl 0 rfl) ?_
          refine va_get hx hb hts hi5 hown hK hP 0 rfl rfl 26 (by decide) (hts (.fieldLink RX5 38 "NightPlotsModel" "now" "[I") (List.mem_of_getElem? (i := 3) rfl)) (fun _ h9 => h9) rfl dX5_rolls_21 ?_
          refine lv_bipush (v := (17 : Int32)) hx hb dX5_rolls_24 (by decide) ?_
          obtain ⟨hi_28, hM⟩ := chkI_at hM
          refine va_iald hx hb hK hP 8 0 rfl rfl hi_28 dX5_rolls_26 ?_
          refine lv_iload_n hx hb dX5_rolls_27 rfl (lv_at hl 2 rfl) ?_
          refine lv_iadd hx hb dX5_rolls_28 ?_
          refine lv_aload_n hx hb dX5_rolls_29 rfl (lv_at hl 0 rfl) ?_
          refine va_get hx hb hts hi5 hown hK hP 0 rfl rfl 2 (by decide) (hts (.fieldLink RX5 78 "NightPlotsModel" "houses" "I") (List.mem_of_getElem? (i := 1) rfl)) (fun _ h9 => h9) rfl dX5_rolls_30 ?_
          obtain ⟨hz29, hM⟩ := chkZ_at hM
          refine lv_irem hx hb dX5_rolls_33 hz29 ?_
          refine lv_goto (tgt := 38) hx hb dX5_rolls_34 (by decide) ?_
          exact hJ10 (((mM_6 8 (17 : Int32).toNatClampNeg) + x5) - ((mM_6 8 (17 : Int32).toNatClampNeg) + x5) / (mM_6 0 2) * (mM_6 0 2)) hM H locs ls hP hS (lv_sub hl [0, 1, 2] rfl)
noncomputable def BX5_goLot_68 (k13 : GS → Option (GS)) (k17 : Int32 → Int32 → GS → Option (GS)) (rec24 : Int32 → Int32 → GS → Option (GS)) (x21 : Int32) (x22 : Int32) (mM_23 : GS) : Option (GS) := if (mM_23 0 2) ≤ x22 then (k13 mM_23) else (bnd1 (MX5_layWays mM_23 x22) fun (mM_26 : GS) => jn0 (nm (x21 - (mM_26 0 32)) fun (x29 : Int32) => nm (x22 + 1) fun (x30 : Int32) => rec24 x29 x30 mM_26) (fun k28 => if x21 < 0 then (k28) else (if (mM_26 0 32) ≤ x21 then (k28) else (k17 x21 x22 mM_26))))
noncomputable def BX5_goLot_4 (k3 : Int32 → GS → Option (GS)) (rec36 : Int32 → Int32 → GS → Option (GS)) (x33 : Int32) (x34 : Int32) (mM_35 : GS) : Option (GS) := if (mM_35 0 2) ≤ x34 then (k3 x33 mM_35) else (bnd1 (MX5_layWays mM_35 x34) fun (mM_38 : GS) => nm (x33 + (mM_38 0 32)) fun (x40 : Int32) => nm (x34 + 1) fun (x41 : Int32) => rec36 x40 x41 mM_38)
noncomputable def MX5_goLot (mM : GS) : Option (GS) := jn2 (fun (x1 : Int32) (mM_2 : GS) => if x1 = 0 then (some (mM_2)) else (chkI (18 : Int32) 19 (nm (((16807 : Int32) * (mM_2 8 (18 : Int32).toNatClampNeg)) - ((16807 : Int32) * (mM_2 8 (18 : Int32).toNatClampNeg)) / (65521 : Int32) * (65521 : Int32)) fun (x6 : Int32) => chkI (18 : Int32) 19 (nm (upA mM_2 8 (upd (mM_2 8) (18 : Int32).toNatClampNeg x6)) fun (mM_8 : GS) => chkI (18 : Int32) 19 (chkZ x1 (nm ((mM_8 8 (18 : Int32).toNatClampNeg) - (mM_8 8 (18 : Int32).toNatClampNeg) / x1 * x1) fun (x11 : Int32) => jn1 (fun (mM_12 : GS) => some (mM_12)) (fun k13 => jn3 (fun (x14 : Int32) (x15 : Int32) (mM_16 : GS) => chkI x14 8 (bnd1 (MX5_rollTo mM_16 x15 (mM_16 13 x14.toNatClampNeg)) fun (mM_19 : GS) => some (mM_19))) (fun k17 => lq3 (BX5_goLot_68 k13 k17) FU x11 (0 : Int32) mM_8)))))))) (fun k3 => lq3 (BX5_goLot_4 k3) FU (0 : Int32) (0 : Int32) mM)
abbrev rmX5_goLot : Room := { frames := 4, cells := 0, slots := 0, locals := 160 }
set_option maxHeartbeats 4000000 in
set_option maxRecDepth 100000 in
theorem ctX5_goLot (l : Launch) (D : va_G) (Y : Nat → ClassId) (oM : Nat → Nat) (sz : Nat) (mM : GS) (tk : Int64) (mMz : GS) (hM : MX5_goLot mM = some (mMz)) : Met l yX5_goLot wsX5_goLot rmX5_goLot (pcW [.ref (oM 0)] sz D Y (cMod Y oM mM tk)) (qvW D (cMod Y oM mMz tk) (va_A (cMod Y oM mM tk) sz)) 0 0 (va_A (cMod Y oM mM tk) sz) := by
  refine Met.ofW (cc := cX5_goLot) (maxL := 4) (ret := (none)) (by decide) rfl ?_
  intro p e s m args below meth c s₁ B hml hv
  obtain ⟨rfl, hsz, hP, hK, hD0⟩ := hv
  have hx := B.exec
  have hb := B.bytes
  have hr := B.returns
  have hts := atoms_spec (ws := wsX5_goLot) B.pre
  have hown : s.vm.findClass RX5 = some m.cls := findClass_of_methodNamed B.named
  have hlocks := B.notSynchronized
  subst hsz
  have hD := hD0.self (sz := s.heap.size)
  generalize hAe : va_A (cMod Y oM mM tk) s.heap.size = A at hD ⊢
  have hA : ∀ q : Nat, s.heap.size ≤ q → A q := fun q h => by rw [← hAe]; exact Or.inr h
  have hS : va_S A s.heap s.heap [] := va_S.rf
  have hi5 : ∀ w ∈ wsX50, w ∈ wsX5_goLot := fun w h => List.mem_cons_of_mem _ (List.mem_append_right _ h)
  have hl := lv_entry ([.ref (oM 0)]) (n := 4) (Nat.le_of_ble_eq_true rfl)
  rw [lg_entry_eq]
  generalize (lg_sl ([.ref (oM 0)]) ++ List.replicate (4 - (lg_sl ([.ref (oM 0)])).length) Slot.unset).toArray = ls at hl ⊢
  have hl : lv_has ls 4 [(0, .ref (oM 0))] := hl
  obtain ⟨QQ, hQQ⟩ : ∃ Q : State → Prop, Q = MQ below (qvW D (cMod Y oM mMz tk) A) ([.ref (oM 0)] : List Value).toArray s 0 0 A := ⟨_, rfl⟩
  rw [← hQQ]
  unfold MX5_goLot at hM
  suffices hI : ∀ (H : Heap) (locs : List Loc), va_P D vwCl (cMod Y oM mM tk) H → va_S A s.heap H locs → W p l e (headSpec wsX5_goLot rmX5_goLot).room s m ([.ref (oM 0)] : List Value).toArray below meth c H locs 0 0 QQ (F0 m 0 ls []) from hI _ _ hP hS
  clear hP hS
  intro H locs hP hS
  refine lv_iconst (v := (0 : Int32)) hx hb dX5_goLot_0 (by decide) ?_
  refine lv_istore_n (lv' := [(1, .int (0 : Int32)), (0, .ref (oM 0))]) hx hb dX5_goLot_1 rfl hl (by decide) rfl (fun ls hl => ?_)
  refine lv_iconst (v := (0 : Int32)) hx hb dX5_goLot_2 (by decide) ?_
  refine lv_istore_n (lv' := [(2, .int (0 : Int32)), (1, .int (0 : Int32)), (0, .ref (oM 0))]) hx hb dX5_goLot_3 rfl hl (by decide) rfl (fun ls hl => ?_)
  refine jn2_at (fun (x1 : Int32) (mM_2 : GS) => ∀ (H : Heap) (locs : List Loc) (ls : Array Slot), va_P D vwCl (cMod Y oM mM_2 tk) H → va_S A s.heap H locs → lv_has ls 4 [(0, .ref (oM 0)), (1, .int x1)] → W p l e (headSpec wsX5_goLot rmX5_goLot).room s m ([.ref (oM 0)] : List Value).toArray below meth c H locs 0 0 QQ (F0 m 30 ls [])) hM (fun x1 mM_2 hM H locs ls hP hS hl => ?_) (fun k3 hJ3 hM => ?_)
  · refine lv_iload_n hx hb dX5_goLot_30 rfl (lv_at hl 1 rfl) ?_
    refine lv_if_ne (tgt := 35) hx hb dX5_goLot_31 (by decide) (fun c4 => ?_) (fun c4 => ?_)
    · replace hM := if_at_neg hM c4
      refine lv_aload_n hx hb dX5_goLot_35 rfl (lv_at hl 0 rfl) ?_
      refine va_get hx hb hts hi5 hown hK hP 0 rfl rfl 26 (by decide) (hts (.fieldLink RX5 38 "NightPlotsModel" "now" "[I") (List.mem_of_getElem? (i := 3) rfl)) (fun _ h9 => h9) rfl dX5_goLot_36 ?_
      refine lv_bipush (v := (18 : Int32)) hx hb dX5_goLot_39 (by decide) ?_
      refine lv_sipush (v := (16807 : Int32)) hx hb dX5_goLot_41 (by decide) ?_
      refine lv_aload_n hx hb dX5_goLot_44 rfl (lv_at hl 0 rfl) ?_
      refine va_get hx hb hts hi5 hown hK hP 0 rfl rfl 26 (by decide) (hts (.fieldLink RX5 38 "NightPlotsModel" "now" "[I") (List.mem_of_getElem? (i := 3) rfl)) (fun _ h9 => h9) rfl dX5_goLot_45 ?_
      refine lv_bipush (v := (18 : Int32)) hx hb dX5_goLot_48 (by decide) ?_
      obtain ⟨hi_5, hM⟩ := chkI_at hM
      refine va_iald hx hb hK hP 8 0 rfl rfl hi_5 dX5_goLot_50 ?_
      refine lv_imul hx hb dX5_goLot_51 ?_
      refine lv_ldc (v := (65521 : Int32)) hx hb hown (hts (.constant RX5 248 (65521)) (List.mem_of_getElem? (i := 4) rfl)) dX5_goLot_52 ?_
      refine lv_irem hx hb dX5_goLot_54 (by decide) ?_
      refine lv_topi (fun x6 ex6 => ?_)
      replace hM := nm_at hM ex6
      obtain ⟨hi_7, hM⟩ := chkI_at hM
      refine va_iast hx hb hK hP (hD.same rfl) hS 8 0 rfl rfl hi_7 dX5_goLot_55 (fun H locs hP _ hS => ?_)
      obtain ⟨mM_8, emM_8⟩ : ∃ z : GS, z = (upA mM_2 8 (upd (mM_2 8) (18 : Int32).toNatClampNeg x6)) := ⟨_, rfl⟩
      have hP : va_P D vwCl (cMod Y oM mM_8 tk) H := by rw [emM_8]; exact hP
      replace hM := nm_at hM emM_8
      refine lv_aload_n hx hb dX5_goLot_56 rfl (lv_at hl 0 rfl) ?_
      refine va_get hx hb hts hi5 hown hK hP 0 rfl rfl 26 (by decide) (hts (.fieldLink RX5 38 "NightPlotsModel" "now" "[I") (List.mem_of_getElem? (i := 3) rfl)) (fun _ h9 => h9) rfl dX5_goLot_57 ?_
      refine lv_bipush (v := (18 : Int32)) hx hb dX5_goLot_60 (by decide) ?_
      obtain ⟨hi_9, hM⟩ := chkI_at hM
      refine va_iald hx hb hK hP 8 0 rfl rfl hi_9 dX5_goLot_62 ?_
      refine lv_iload_n hx hb dX5_goLot_63 rfl (lv_at hl 1 rfl) ?_
      obtain ⟨hz10, hM⟩ := chkZ_at hM
      refine lv_irem hx hb dX5_goLot_64 hz10 ?_
      refine lv_topi (fun x11 ex11 => ?_)
      replace hM := nm_at hM ex11
      refine lv_istore_n (lv' := [(2, .int x11), (0, .ref (oM 0)), (1, .int x1)]) hx hb dX5_goLot_65 rfl hl (by decide) rfl (fun ls hl => ?_)
      refine lv_iconst (v := (0 : Int32)) hx hb dX5_goLot_66 (by decide) ?_
      refine lv_istore_n (lv' := [(3, .int (0 : Int32)), (2, .int x11), (0, .ref (oM 0)), (1, .int x1)]) hx hb dX5_goLot_67 rfl hl (by decide) rfl (fun ls hl => ?_)
      refine jn1_at (fun (mM_12 : GS) => ∀ (H : Heap) (locs : List Loc) (ls : Array Slot), va_P D vwCl (cMod Y oM mM_12 tk) H → va_S A s.heap H locs → lv_has ls 4 [] → W p l e (headSpec wsX5_goLot rmX5_goLot).room s m ([.ref (oM 0)] : List Value).toArray below meth c H locs 0 0 QQ (F0 m 118 ls [])) hM (fun mM_12 hM H locs ls hP hS hl => ?_) (fun k13 hJ13 hM => ?_)
      · cases hM
        rw [hQQ]
        exact W.vret hx hb hr (fun t ht hW => ⟨⟨(), rfl, trivial, by show va_P D vwCl _ t.heap; rw [ht]; exact hP⟩, hS.F ht⟩) hS.2.2 dX5_goLot_118
      · refine jn3_at (fun (x14 : Int32) (x15 : Int32) (mM_16 : GS) => ∀ (H : Heap) (locs : List Loc) (ls : Array Slot), va_P D vwCl (cMod Y oM mM_16 tk) H → va_S A s.heap H locs → lv_has ls 4 [(0, .ref (oM 0)), (2, .int x14), (3, .int x15)] → W p l e (headSpec wsX5_goLot rmX5_goLot).room s m ([.ref (oM 0)] : List Value).toArray below meth c H locs 0 0 QQ (F0 m 93 ls [])) hM (fun x14 x15 mM_16 hM H locs ls hP hS hl => ?_) (fun k17 hJ17 hM => ?_)
        · refine lv_aload_n hx hb dX5_goLot_93 rfl (lv_at hl 0 rfl) ?_
          refine lv_iload_n hx hb dX5_goLot_94 rfl (lv_at hl 2 rfl) ?_
          refine lv_aload_n hx hb dX5_goLot_95 rfl (lv_at hl 0 rfl) ?_
          refine va_get hx hb hts hi5 hown hK hP 0 rfl rfl 33 (by decide) (hts (.fieldLink RX5 54 "NightPlotsModel" "way" "[I") (List.mem_of_getElem? (i := 5) rfl)) (fun _ h9 => h9) rfl dX5_goLot_96 ?_
          refine lv_iload_n hx hb dX5_goLot_99 rfl (lv_at hl 1 rfl) ?_
          obtain ⟨hi_18, hM⟩ := chkI_at hM
          refine va_iald hx hb hK hP 13 0 rfl rfl hi_18 dX5_goLot_100 ?_
          obtain ⟨mM_19, hc20, hM⟩ := bnd1_at hM
          refine co_v (va_runV (As := [.int x15, .int (mM_16 13 x14.toNatClampNeg)]) (rest := []) ⟨hx, hb, hml, hown, hts⟩ (ctX5_rollTo l D Y oM H.size mM_16 tk x15 (mM_16 13 x14.toNatClampNeg) mM_19 hc20) (cwV 2 hts gX5_goLot_X5_rollTo rfl rfl rfl (by decide +kernel) ⟨Nat.le_of_ble_eq_true rfl, Nat.le_of_ble_eq_true rfl⟩) (pcW_V0 (ci := 5) (q0 := 0) hK hP (hD.same rfl) rfl rfl) rfl rfl hl.1 rfl (lv_room (Nat.le_of_ble_eq_true rfl)) dX5_goLot_101 ⟨Nat.zero_le _, Nat.zero_le _⟩) (hD.same rfl) hS hA (fun H locs hP hS => ?_)
          cases hM
          rw [hQQ]
          exact W.vret hx hb hr (fun t ht hW => ⟨⟨(), rfl, trivial, by show va_P D vwCl _ t.heap; rw [ht]; exact hP⟩, hS.F ht⟩) hS.2.2 dX5_goLot_104
        · refine lq3_at (fun (x21 : Int32) (x22 : Int32) (mM_23 : GS) => ∀ (H : Heap) (locs : List Loc) (ls : Array Slot), va_P D vwCl (cMod Y oM mM_23 tk) H → va_S A s.heap H locs → lv_has ls 4 [(0, .ref (oM 0)), (2, .int x21), (3, .int x22)] → W p l e (headSpec wsX5_goLot rmX5_goLot).room s m ([.ref (oM 0)] : List Value).toArray below meth c H locs 0 0 QQ (F0 m 68 ls [])) (fun rec24 x21 x22 mM_23 ih24 hM H locs ls hP hS hl => ?_) FU x11 (0 : Int32) mM_8 hM H locs ls hP hS (lv_sub hl [2, 1, 0] rfl)
          unfold BX5_goLot_68 at hM
          refine lv_iload_n hx hb dX5_goLot_68 rfl (lv_at hl 2 rfl) ?_
          refine lv_aload_n hx hb dX5_goLot_69 rfl (lv_at hl 0 rfl) ?_
          refine va_get hx hb hts hi5 hown hK hP 0 rfl rfl 2 (by decide) (hts (.fieldLink RX5 78 "NightPlotsModel" "houses" "I") (List.mem_of_getElem? (i := 1) rfl)) (fun _ h9 => h9) rfl dX5_goLot_70 ?_
          refine lv_icmp_ge (tgt := 118) hx hb dX5_goLot_73 (by decide) (fun c25 => ?_) (fun c25 => ?_)
          · replace hM := if_at_pos hM c25
            exact hJ13 mM_23 hM H locs ls hP hS (lv_sub hl [] rfl)
          · replace hM := if_at_neg hM c25
            refine lv_aload_n hx hb dX5_goLot_76 rfl (lv_at hl 0 rfl) ?_
            refine lv_iload_n hx hb dX5_goLot_77 rfl (lv_at hl 2 rfl) ?_
            obtain ⟨mM_26, hc27, hM⟩ := bnd1_at hM
            refine co_v (va_runV (As := [.int x22]) (rest := []) ⟨hx, hb, hml, hown, hts⟩ (ctX5_layWays l D Y oM H.size mM_23 tk x22 mM_26 hc27) (cwV 1 hts gX5_goLot_X5_layWays rfl rfl rfl (by decide +kernel) ⟨Nat.le_of_ble_eq_true rfl, Nat.le_of_ble_eq_true rfl⟩) (pcW_V0 (ci := 5) (q0 := 0) hK hP (hD.same rfl) rfl rfl) rfl rfl hl.1 rfl (lv_room (Nat.le_of_ble_eq_true rfl)) dX5_goLot_78 ⟨Nat.zero_le _, Nat.zero_le _⟩) (hD.same rfl) hS hA (fun H locs hP hS => ?_)
            refine lv_iload_n hx hb dX5_goLot_81 rfl (lv_at hl 1 rfl) ?_
            refine jn0_at (∀ (H : Heap) (locs : List Loc) (ls : Array Slot), va_P D vwCl (cMod Y oM mM_26 tk) H → va_S A s.heap H locs → lv_has ls 4 [(0, .ref (oM 0)), (2, .int x21), (3, .int x22)] → W p l e (headSpec wsX5_goLot rmX5_goLot).room s m ([.ref (oM 0)] : List Value).toArray below meth c H locs 0 0 QQ (F0 m 105 ls [])) hM (fun  hM H locs ls hP hS hl => ?_) (fun k28 hJ28 hM => ?_)
            · refine lv_iload_n hx hb dX5_goLot_105 rfl (lv_at hl 1 rfl) ?_
              refine lv_aload_n hx hb dX5_goLot_106 rfl (lv_at hl 0 rfl) ?_
              refine va_get hx hb hts hi5 hown hK hP 0 rfl rfl 32 (by decide) (hts (.fieldLink RX5 225 "NightPlotsModel" "wayMany" "I") (List.mem_of_getElem? (i := 2) rfl)) (fun _ h9 => h9) rfl dX5_goLot_107 ?_
              refine lv_isub hx hb dX5_goLot_110 ?_
              refine lv_topi (fun x29 ex29 => ?_)
              replace hM := nm_at hM ex29
              refine lv_istore_n (lv' := [(2, .int x29), (0, .ref (oM 0)), (3, .int x22)]) hx hb dX5_goLot_111 rfl hl (by decide) rfl (fun ls hl => ?_)
              obtain ⟨x30, ex30⟩ : ∃ z : Int32, z = (x22 + 1) := ⟨_, rfl⟩
              replace hM := nm_at hM ex30
              refine lv_iinc (v := x30) (lv' := [(3, .int x30), (2, .int x29), (0, .ref (oM 0))]) hx hb dX5_goLot_112 hl (k := 2) rfl (by rw [ex30]; rfl) (by decide) rfl (fun ls hl => ?_)
              refine lv_goto (tgt := 68) hx hb dX5_goLot_115 (by decide) ?_
              exact ih24 x29 x30 mM_26 hM H locs ls hP hS (lv_sub hl [2, 1, 0] rfl)
            · refine lv_if_lt (tgt := 105) hx hb dX5_goLot_82 (by decide) (fun c31 => ?_) (fun c31 => ?_)
              · replace hM := if_at_pos hM c31
                exact hJ28 hM H locs ls hP hS (lv_sub hl [0, 1, 2] rfl)
              · replace hM := if_at_neg hM c31
                refine lv_iload_n hx hb dX5_goLot_85 rfl (lv_at hl 1 rfl) ?_
                refine lv_aload_n hx hb dX5_goLot_86 rfl (lv_at hl 0 rfl) ?_
                refine va_get hx hb hts hi5 hown hK hP 0 rfl rfl 32 (by decide) (hts (.fieldLink RX5 225 "NightPlotsModel" "wayMany" "I") (List.mem_of_getElem? (i := 2) rfl)) (fun _ h9 => h9) rfl dX5_goLot_87 ?_
                refine lv_icmp_ge (tgt := 105) hx hb dX5_goLot_90 (by decide) (fun c32 => ?_) (fun c32 => ?_)
                · replace hM := if_at_pos hM c32
                  exact hJ28 hM H locs ls hP hS (lv_sub hl [0, 1, 2] rfl)
                · replace hM := if_at_neg hM c32
                  exact hJ17 x21 x22 mM_26 hM H locs ls hP hS (lv_sub hl [0, 1, 2] rfl)
    · replace hM := if_at_pos hM c4
      cases hM
      rw [hQQ]
      exact W.vret hx hb hr (fun t ht hW => ⟨⟨(), rfl, trivial, by show va_P D vwCl _ t.heap; rw [ht]; exact hP⟩, hS.F ht⟩) hS.2.2 dX5_goLot_34
  · refine lq3_at (fun (x33 : Int32) (x34 : Int32) (mM_35 : GS) => ∀ (H : Heap) (locs : List Loc) (ls : Array Slot), va_P D vwCl (cMod Y oM mM_35 tk) H → va_S A s.heap H locs → lv_has ls 4 [(0, .ref (oM 0)), (1, .int x33), (2, .int x34)] → W p l e (headSpec wsX5_goLot rmX5_goLot).room s m ([.ref (oM 0)] : List Value).toArray below meth c H locs 0 0 QQ (F0 m 4 ls [])) (fun rec36 x33 x34 mM_35 ih36 hM H locs ls hP hS hl => ?_) FU (0 : Int32) (0 : Int32) mM hM H locs ls hP hS (lv_sub hl [2, 1, 0] rfl)
    unfold BX5_goLot_4 at hM
    refine lv_iload_n hx hb dX5_goLot_4 rfl (lv_at hl 2 rfl) ?_
    refine lv_aload_n hx hb dX5_goLot_5 rfl (lv_at hl 0 rfl) ?_
    refine va_get hx hb hts hi5 hown hK hP 0 rfl rfl 2 (by decide) (hts (.fieldLink RX5 78 "NightPlotsModel" "houses" "I") (List.mem_of_getElem? (i := 1) rfl)) (fun _ h9 => h9) rfl dX5_goLot_6 ?_
    refine lv_icmp_ge (tgt := 30) hx hb dX5_goLot_9 (by decide) (fun c37 => ?_) (fun c37 => ?_)
    · replace hM := if_at_pos hM c37
      exact hJ3 x33 mM_35 hM H locs ls hP hS (lv_sub hl [0, 1] rfl)
    · replace hM := if_at_neg hM c37
      refine lv_aload_n hx hb dX5_goLot_12 rfl (lv_at hl 0 rfl) ?_
      refine lv_iload_n hx hb dX5_goLot_13 rfl (lv_at hl 2 rfl) ?_
      obtain ⟨mM_38, hc39, hM⟩ := bnd1_at hM
      refine co_v (va_runV (As := [.int x34]) (rest := []) ⟨hx, hb, hml, hown, hts⟩ (ctX5_layWays l D Y oM H.size mM_35 tk x34 mM_38 hc39) (cwV 1 hts gX5_goLot_X5_layWays rfl rfl rfl (by decide +kernel) ⟨Nat.le_of_ble_eq_true rfl, Nat.le_of_ble_eq_true rfl⟩) (pcW_V0 (ci := 5) (q0 := 0) hK hP (hD.same rfl) rfl rfl) rfl rfl hl.1 rfl (lv_room (Nat.le_of_ble_eq_true rfl)) dX5_goLot_14 ⟨Nat.zero_le _, Nat.zero_le _⟩) (hD.same rfl) hS hA (fun H locs hP hS => ?_)
      refine lv_iload_n hx hb dX5_goLot_17 rfl (lv_at hl 1 rfl) ?_
      refine lv_aload_n hx hb dX5_goLot_18 rfl (lv_at hl 0 rfl) ?_
      refine va_get hx hb hts hi5 hown hK hP 0 rfl rfl 32 (by decide) (hts (.fieldLink RX5 225 "NightPlotsModel" "wayMany" "I") (List.mem_of_getElem? (i := 2) rfl)) (fun _ h9 => h9) rfl dX5_goLot_19 ?_
      refine lv_iadd hx hb dX5_goLot_22 ?_
      refine lv_topi (fun x40 ex40 => ?_)
      replace hM := nm_at hM ex40
      refine lv_istore_n (lv' := [(1, .int x40), (0, .ref (oM 0)), (2, .int x34)]) hx hb dX5_goLot_23 rfl hl (by decide) rfl (fun ls hl => ?_)
      obtain ⟨x41, ex41⟩ : ∃ z : Int32, z = (x34 + 1) := ⟨_, rfl⟩
      replace hM := nm_at hM ex41
      refine lv_iinc (v := x41) (lv' := [(2, .int x41), (1, .int x40), (0, .ref (oM 0))]) hx hb dX5_goLot_24 hl (k := 2) rfl (by rw [ex41]; rfl) (by decide) rfl (fun ls hl => ?_)
      refine lv_goto (tgt := 4) hx hb dX5_goLot_27 (by decide) ?_
      exact ih36 x40 x41 mM_38 hM H locs ls hP hS (lv_sub hl [2, 1, 0] rfl)
noncomputable def MX5_goNight (mM : GS) : Option (GS) := jn1 (fun (mM_1 : GS) => chkI (16 : Int32) 19 (nm ((mM_1 8 (16 : Int32).toNatClampNeg) + (1 : Int32)) fun (x4 : Int32) => chkI (16 : Int32) 19 (nm (upA mM_1 8 (upd (mM_1 8) (16 : Int32).toNatClampNeg x4)) fun (mM_6 : GS) => some (mM_6)))) (fun k2 => if (mM 0 34) = (3 : Int32) then (bnd1 (MX5_goLot mM) fun (mM_24 : GS) => k2 mM_24) else (bnd2 (MX5_rolls mM) fun (r8 : Int32) (mM_9 : GS) => if r8 = (-1 : Int32) then (k2 mM_9) else (bnd1 (MX5_layWays mM_9 r8) fun (mM_12 : GS) => chkI (0 : Int32) 8 (bnd1 (MX5_rollTo mM_12 r8 (mM_12 13 (0 : Int32).toNatClampNeg)) fun (mM_15 : GS) => jn1 (fun (x17 : Int32) => chkI (17 : Int32) 19 (nm (upA mM_15 8 (upd (mM_15 8) (17 : Int32).toNatClampNeg x17)) fun (mM_20 : GS) => k2 mM_20)) (fun k18 => if (mM_15 0 34) = (1 : Int32) then (chkZ (mM_15 0 2) (k18 ((r8 + (1 : Int32)) - (r8 + (1 : Int32)) / (mM_15 0 2) * (mM_15 0 2)))) else (chkI (17 : Int32) 19 (k18 (mM_15 8 (17 : Int32).toNatClampNeg))))))))
abbrev rmX5_goNight : Room := { frames := 5, cells := 0, slots := 0, locals := 200 }
set_option maxHeartbeats 4000000 in
set_option maxRecDepth 100000 in
theorem ctX5_goNight (l : Launch) (D : va_G) (Y : Nat → ClassId) (oM : Nat → Nat) (sz : Nat) (mM : GS) (tk : Int64) (mMz : GS) (hM : MX5_goNight mM = some (mMz)) : Met l yX5_goNight wsX5_goNight rmX5_goNight (pcW [.ref (oM 0)] sz D Y (cMod Y oM mM tk)) (qvW D (cMod Y oM mMz tk) (va_A (cMod Y oM mM tk) sz)) 0 0 (va_A (cMod Y oM mM tk) sz) := by
  refine Met.ofW (cc := cX5_goNight) (maxL := 2) (ret := (none)) (by decide) rfl ?_
  intro p e s m args below meth c s₁ B hml hv
  obtain ⟨rfl, hsz, hP, hK, hD0⟩ := hv
  have hx := B.exec
  have hb := B.bytes
  have hr := B.returns
  have hts := atoms_spec (ws := wsX5_goNight) B.pre
  have hown : s.vm.findClass RX5 = some m.cls := findClass_of_methodNamed B.named
  have hlocks := B.notSynchronized
  subst hsz
  have hD := hD0.self (sz := s.heap.size)
  generalize hAe : va_A (cMod Y oM mM tk) s.heap.size = A at hD ⊢
  have hA : ∀ q : Nat, s.heap.size ≤ q → A q := fun q h => by rw [← hAe]; exact Or.inr h
  have hS : va_S A s.heap s.heap [] := va_S.rf
  have hi5 : ∀ w ∈ wsX50, w ∈ wsX5_goNight := fun w h => List.mem_cons_of_mem _ (List.mem_append_right _ h)
  have hl := lv_entry ([.ref (oM 0)]) (n := 2) (Nat.le_of_ble_eq_true rfl)
  rw [lg_entry_eq]
  generalize (lg_sl ([.ref (oM 0)]) ++ List.replicate (2 - (lg_sl ([.ref (oM 0)])).length) Slot.unset).toArray = ls at hl ⊢
  have hl : lv_has ls 2 [(0, .ref (oM 0))] := hl
  obtain ⟨QQ, hQQ⟩ : ∃ Q : State → Prop, Q = MQ below (qvW D (cMod Y oM mMz tk) A) ([.ref (oM 0)] : List Value).toArray s 0 0 A := ⟨_, rfl⟩
  rw [← hQQ]
  unfold MX5_goNight at hM
  suffices hI : ∀ (H : Heap) (locs : List Loc), va_P D vwCl (cMod Y oM mM tk) H → va_S A s.heap H locs → W p l e (headSpec wsX5_goNight rmX5_goNight).room s m ([.ref (oM 0)] : List Value).toArray below meth c H locs 0 0 QQ (F0 m 0 ls []) from hI _ _ hP hS
  clear hP hS
  intro H locs hP hS
  refine lv_aload_n hx hb dX5_goNight_0 rfl (lv_at hl 0 rfl) ?_
  refine va_get hx hb hts hi5 hown hK hP 0 rfl rfl 34 (by decide) (hts (.fieldLink RX5 245 "NightPlotsModel" "triedLaw" "I") (List.mem_of_getElem? (i := 1) rfl)) (fun _ h9 => h9) rfl dX5_goNight_1 ?_
  refine lv_iconst (v := (3 : Int32)) hx hb dX5_goNight_4 (by decide) ?_
  refine jn1_at (fun (mM_1 : GS) => ∀ (H : Heap) (locs : List Loc) (ls : Array Slot), va_P D vwCl (cMod Y oM mM_1 tk) H → va_S A s.heap H locs → lv_has ls 2 [(0, .ref (oM 0))] → W p l e (headSpec wsX5_goNight rmX5_goNight).room s m ([.ref (oM 0)] : List Value).toArray below meth c H locs 0 0 QQ (F0 m 74 ls [])) hM (fun mM_1 hM H locs ls hP hS hl => ?_) (fun k2 hJ2 hM => ?_)
  · refine lv_aload_n hx hb dX5_goNight_74 rfl (lv_at hl 0 rfl) ?_
    refine va_get hx hb hts hi5 hown hK hP 0 rfl rfl 26 (by decide) (hts (.fieldLink RX5 38 "NightPlotsModel" "now" "[I") (List.mem_of_getElem? (i := 3) rfl)) (fun _ h9 => h9) rfl dX5_goNight_75 ?_
    refine lv_bipush (v := (16 : Int32)) hx hb dX5_goNight_78 (by decide) ?_
    refine lv_dup2_11 hx hb dX5_goNight_80 rfl rfl ?_
    obtain ⟨hi_3, hM⟩ := chkI_at hM
    refine va_iald hx hb hK hP 8 0 rfl rfl hi_3 dX5_goNight_81 ?_
    refine lv_iconst (v := (1 : Int32)) hx hb dX5_goNight_82 (by decide) ?_
    refine lv_iadd hx hb dX5_goNight_83 ?_
    refine lv_topi (fun x4 ex4 => ?_)
    replace hM := nm_at hM ex4
    obtain ⟨hi_5, hM⟩ := chkI_at hM
    refine va_iast hx hb hK hP (hD.same rfl) hS 8 0 rfl rfl hi_5 dX5_goNight_84 (fun H locs hP _ hS => ?_)
    obtain ⟨mM_6, emM_6⟩ : ∃ z : GS, z = (upA mM_1 8 (upd (mM_1 8) (16 : Int32).toNatClampNeg x4)) := ⟨_, rfl⟩
    have hP : va_P D vwCl (cMod Y oM mM_6 tk) H := by rw [emM_6]; exact hP
    replace hM := nm_at hM emM_6
    cases hM
    rw [hQQ]
    exact W.vret hx hb hr (fun t ht hW => ⟨⟨(), rfl, trivial, by show va_P D vwCl _ t.heap; rw [ht]; exact hP⟩, hS.F ht⟩) hS.2.2 dX5_goNight_85
  · refine lv_icmp_ne (tgt := 15) hx hb dX5_goNight_5 (by decide) (fun c7 => ?_) (fun c7 => ?_)
    · replace hM := if_at_neg hM c7
      refine lv_aload_n hx hb dX5_goNight_15 rfl (lv_at hl 0 rfl) ?_
      obtain ⟨r8, mM_9, hc10, hM⟩ := bnd2_at hM
      refine co_i (va_runV (As := []) (rest := []) ⟨hx, hb, hml, hown, hts⟩ (ctX5_rolls l D Y oM H.size mM tk r8 mM_9 hc10) (cwV 0 hts gX5_goNight_X5_rolls rfl rfl rfl (by decide +kernel) ⟨Nat.le_of_ble_eq_true rfl, Nat.le_of_ble_eq_true rfl⟩) (pcW_V0 (ci := 5) (q0 := 0) hK hP (hD.same rfl) rfl rfl) rfl rfl hl.1 rfl (lv_room (Nat.le_of_ble_eq_true rfl)) dX5_goNight_16 ⟨Nat.zero_le _, Nat.zero_le _⟩) (hD.same rfl) hS hA (fun H locs hP hS => ?_)
      refine lv_istore_n (lv' := [(1, .int r8), (0, .ref (oM 0))]) hx hb dX5_goNight_19 rfl hl (by decide) rfl (fun ls hl => ?_)
      refine lv_iload_n hx hb dX5_goNight_20 rfl (lv_at hl 0 rfl) ?_
      refine lv_iconst (v := (-1 : Int32)) hx hb dX5_goNight_21 (by decide) ?_
      refine lv_icmp_eq (tgt := 74) hx hb dX5_goNight_22 (by decide) (fun c11 => ?_) (fun c11 => ?_)
      · replace hM := if_at_pos hM c11
        exact hJ2 mM_9 hM H locs ls hP hS (lv_sub hl [1] rfl)
      · replace hM := if_at_neg hM c11
        refine lv_aload_n hx hb dX5_goNight_25 rfl (lv_at hl 1 rfl) ?_
        refine lv_iload_n hx hb dX5_goNight_26 rfl (lv_at hl 0 rfl) ?_
        obtain ⟨mM_12, hc13, hM⟩ := bnd1_at hM
        refine co_v (va_runV (As := [.int r8]) (rest := []) ⟨hx, hb, hml, hown, hts⟩ (ctX5_layWays l D Y oM H.size mM_9 tk r8 mM_12 hc13) (cwV 1 hts gX5_goNight_X5_layWays rfl rfl rfl (by decide +kernel) ⟨Nat.le_of_ble_eq_true rfl, Nat.le_of_ble_eq_true rfl⟩) (pcW_V0 (ci := 5) (q0 := 0) hK hP (hD.same rfl) rfl rfl) rfl rfl hl.1 rfl (lv_room (Nat.le_of_ble_eq_true rfl)) dX5_goNight_27 ⟨Nat.zero_le _, Nat.zero_le _⟩) (hD.same rfl) hS hA (fun H locs hP hS => ?_)
        refine lv_aload_n hx hb dX5_goNight_30 rfl (lv_at hl 1 rfl) ?_
        refine lv_iload_n hx hb dX5_goNight_31 rfl (lv_at hl 0 rfl) ?_
        refine lv_aload_n hx hb dX5_goNight_32 rfl (lv_at hl 1 rfl) ?_
        refine va_get hx hb hts hi5 hown hK hP 0 rfl rfl 33 (by decide) (hts (.fieldLink RX5 54 "NightPlotsModel" "way" "[I") (List.mem_of_getElem? (i := 2) rfl)) (fun _ h9 => h9) rfl dX5_goNight_33 ?_
        refine lv_iconst (v := (0 : Int32)) hx hb dX5_goNight_36 (by decide) ?_
        obtain ⟨hi_14, hM⟩ := chkI_at hM
        refine va_iald hx hb hK hP 13 0 rfl rfl hi_14 dX5_goNight_37 ?_
        obtain ⟨mM_15, hc16, hM⟩ := bnd1_at hM
        refine co_v (va_runV (As := [.int r8, .int (mM_12 13 (0 : Int32).toNatClampNeg)]) (rest := []) ⟨hx, hb, hml, hown, hts⟩ (ctX5_rollTo l D Y oM H.size mM_12 tk r8 (mM_12 13 (0 : Int32).toNatClampNeg) mM_15 hc16) (cwV 2 hts gX5_goNight_X5_rollTo rfl rfl rfl (by decide +kernel) ⟨Nat.le_of_ble_eq_true rfl, Nat.le_of_ble_eq_true rfl⟩) (pcW_V0 (ci := 5) (q0 := 0) hK hP (hD.same rfl) rfl rfl) rfl rfl hl.1 rfl (lv_room (Nat.le_of_ble_eq_true rfl)) dX5_goNight_38 ⟨Nat.zero_le _, Nat.zero_le _⟩) (hD.same rfl) hS hA (fun H locs hP hS => ?_)
        refine lv_aload_n hx hb dX5_goNight_41 rfl (lv_at hl 1 rfl) ?_
        refine va_get hx hb hts hi5 hown hK hP 0 rfl rfl 26 (by decide) (hts (.fieldLink RX5 38 "NightPlotsModel" "now" "[I") (List.mem_of_getElem? (i := 3) rfl)) (fun _ h9 => h9) rfl dX5_goNight_42 ?_
        refine lv_bipush (v := (17 : Int32)) hx hb dX5_goNight_45 (by decide) ?_
        refine lv_aload_n hx hb dX5_goNight_47 rfl (lv_at hl 1 rfl) ?_
        refine va_get hx hb hts hi5 hown hK hP 0 rfl rfl 34 (by decide) (hts (.fieldLink RX5 245 "NightPlotsModel" "triedLaw" "I") (List.mem_of_getElem? (i := 1) rfl)) (fun _ h9 => h9) rfl dX5_goNight_48 ?_
        refine lv_iconst (v := (1 : Int32)) hx hb dX5_goNight_51 (by decide) ?_
        refine jn1_at (fun (x17 : Int32) => ∀ (H : Heap) (locs : List Loc) (ls : Array Slot), va_P D vwCl (cMod Y oM mM_15 tk) H → va_S A s.heap H locs → lv_has ls 2 [(0, .ref (oM 0))] → W p l e (headSpec wsX5_goNight rmX5_goNight).room s m ([.ref (oM 0)] : List Value).toArray below meth c H locs 0 0 QQ (F0 m 73 ls [.int x17, .int (17 : Int32), .ref (oM 8)])) hM (fun x17 hM H locs ls hP hS hl => ?_) (fun k18 hJ18 hM => ?_)
        · obtain ⟨hi_19, hM⟩ := chkI_at hM
          refine va_iast hx hb hK hP (hD.same rfl) hS 8 0 rfl rfl hi_19 dX5_goNight_73 (fun H locs hP _ hS => ?_)
          obtain ⟨mM_20, emM_20⟩ : ∃ z : GS, z = (upA mM_15 8 (upd (mM_15 8) (17 : Int32).toNatClampNeg x17)) := ⟨_, rfl⟩
          have hP : va_P D vwCl (cMod Y oM mM_20 tk) H := by rw [emM_20]; exact hP
          replace hM := nm_at hM emM_20
          exact hJ2 mM_20 hM H locs ls hP hS (lv_sub hl [0] rfl)
        · refine lv_icmp_ne (tgt := 66) hx hb dX5_goNight_52 (by decide) (fun c21 => ?_) (fun c21 => ?_)
          · replace hM := if_at_neg hM c21
            refine lv_aload_n hx hb dX5_goNight_66 rfl (lv_at hl 1 rfl) ?_
            refine va_get hx hb hts hi5 hown hK hP 0 rfl rfl 26 (by decide) (hts (.fieldLink RX5 38 "NightPlotsModel" "now" "[I") (List.mem_of_getElem? (i := 3) rfl)) (fun _ h9 => h9) rfl dX5_goNight_67 ?_
            refine lv_bipush (v := (17 : Int32)) hx hb dX5_goNight_70 (by decide) ?_
            obtain ⟨hi_22, hM⟩ := chkI_at hM
            refine va_iald hx hb hK hP 8 0 rfl rfl hi_22 dX5_goNight_72 ?_
            exact hJ18 (mM_15 8 (17 : Int32).toNatClampNeg) hM H locs ls hP hS (lv_sub hl [1] rfl)
          · replace hM := if_at_pos hM c21
            refine lv_iload_n hx hb dX5_goNight_55 rfl (lv_at hl 0 rfl) ?_
            refine lv_iconst (v := (1 : Int32)) hx hb dX5_goNight_56 (by decide) ?_
            refine lv_iadd hx hb dX5_goNight_57 ?_
            refine lv_aload_n hx hb dX5_goNight_58 rfl (lv_at hl 1 rfl) ?_
            refine va_get hx hb hts hi5 hown hK hP 0 rfl rfl 2 (by decide) (hts (.fieldLink RX5 78 "NightPlotsModel" "houses" "I") (List.mem_of_getElem? (i := 4) rfl)) (fun _ h9 => h9) rfl dX5_goNight_59 ?_
            obtain ⟨hz23, hM⟩ := chkZ_at hM
            refine lv_irem hx hb dX5_goNight_62 hz23 ?_
            refine lv_goto (tgt := 73) hx hb dX5_goNight_63 (by decide) ?_
            exact hJ18 ((r8 + (1 : Int32)) - (r8 + (1 : Int32)) / (mM_15 0 2) * (mM_15 0 2)) hM H locs ls hP hS (lv_sub hl [1] rfl)
    · replace hM := if_at_pos hM c7
      refine lv_aload_n hx hb dX5_goNight_8 rfl (lv_at hl 0 rfl) ?_
      obtain ⟨mM_24, hc25, hM⟩ := bnd1_at hM
      refine co_v (va_runV (As := []) (rest := []) ⟨hx, hb, hml, hown, hts⟩ (ctX5_goLot l D Y oM H.size mM tk mM_24 hc25) (cwV 0 hts gX5_goNight_X5_goLot rfl rfl rfl (by decide +kernel) ⟨Nat.le_of_ble_eq_true rfl, Nat.le_of_ble_eq_true rfl⟩) (pcW_V0 (ci := 5) (q0 := 0) hK hP (hD.same rfl) rfl rfl) rfl rfl hl.1 rfl (lv_room (Nat.le_of_ble_eq_true rfl)) dX5_goNight_9 ⟨Nat.zero_le _, Nat.zero_le _⟩) (hD.same rfl) hS hA (fun H locs hP hS => ?_)
      refine lv_goto (tgt := 74) hx hb dX5_goNight_12 (by decide) ?_
      exact hJ2 mM_24 hM H locs ls hP hS (lv_sub hl [0] rfl)
noncomputable def BX5_go_41 (i1 : Int32) (k9 : GS → Option (Int32 × GS)) (rec13 : Int32 → GS → Option (Int32 × GS)) (x11 : Int32) (mM_12 : GS) : Option (Int32 × GS) := if i1 ≤ x11 then (k9 mM_12) else (bnd1 (MX5_goNight mM_12) fun (mM_15 : GS) => nm (x11 + 1) fun (x17 : Int32) => rec13 x17 mM_15)
noncomputable def MX5_go (mM : GS) (i1 : Int32) : Option (Int32 × GS) := bnd1 (MX5_in i1 (1 : Int32) (99 : Int32)) fun (r1 : Int32) => if r1 = 0 then (some ((-3 : Int32), mM)) else (chkI (16 : Int32) 19 (if ((mM 8 (16 : Int32).toNatClampNeg) + i1) ≤ (9999 : Int32) then (nm (mM 0 9) fun (x6 : Int32) => nm (up2 mM 0 34 x6) fun (mM_7 : GS) => jn1 (fun (mM_8 : GS) => chkI (16 : Int32) 19 (some ((mM_8 8 (16 : Int32).toNatClampNeg), mM_8))) (fun k9 => lq2 (BX5_go_41 i1 k9) FU (0 : Int32) mM_7)) else (some ((-5 : Int32), mM))))
abbrev rmX5_go : Room := { frames := 6, cells := 0, slots := 0, locals := 240 }
set_option maxHeartbeats 4000000 in
set_option maxRecDepth 100000 in
theorem ctX5_go (l : Launch) (D : va_G) (Y : Nat → ClassId) (oM : Nat → Nat) (sz : Nat) (mM : GS) (tk : Int64) (i1 : Int32) (rr : Int32) (mMz : GS) (hM : MX5_go mM i1 = some (rr, mMz)) : Met l yX5_go wsX5_go rmX5_go (pcW [.ref (oM 0), .int i1] sz D Y (cMod Y oM mM tk)) (qiW rr D (cMod Y oM mMz tk) (va_A (cMod Y oM mM tk) sz)) 0 0 (va_A (cMod Y oM mM tk) sz) := by
  refine Met.ofW (cc := cX5_go) (maxL := 3) (ret := (some .int)) (by decide) rfl ?_
  intro p e s m args below meth c s₁ B hml hv
  obtain ⟨rfl, hsz, hP, hK, hD0⟩ := hv
  have hx := B.exec
  have hb := B.bytes
  have hr := B.returns
  have hts := atoms_spec (ws := wsX5_go) B.pre
  have hown : s.vm.findClass RX5 = some m.cls := findClass_of_methodNamed B.named
  have hlocks := B.notSynchronized
  subst hsz
  have hD := hD0.self (sz := s.heap.size)
  generalize hAe : va_A (cMod Y oM mM tk) s.heap.size = A at hD ⊢
  have hA : ∀ q : Nat, s.heap.size ≤ q → A q := fun q h => by rw [← hAe]; exact Or.inr h
  have hS : va_S A s.heap s.heap [] := va_S.rf
  have hi5 : ∀ w ∈ wsX50, w ∈ wsX5_go := fun w h => List.mem_cons_of_mem _ (List.mem_append_right _ h)
  have hl := lv_entry ([.ref (oM 0), .int i1]) (n := 3) (Nat.le_of_ble_eq_true rfl)
  rw [lg_entry_eq]
  generalize (lg_sl ([.ref (oM 0), .int i1]) ++ List.replicate (3 - (lg_sl ([.ref (oM 0), .int i1])).length) Slot.unset).toArray = ls at hl ⊢
  have hl : lv_has ls 3 [(0, .ref (oM 0)), (1, .int i1)] := hl
  obtain ⟨QQ, hQQ⟩ : ∃ Q : State → Prop, Q = MQ below (qiW rr D (cMod Y oM mMz tk) A) ([.ref (oM 0), .int i1] : List Value).toArray s 0 0 A := ⟨_, rfl⟩
  rw [← hQQ]
  unfold MX5_go at hM
  suffices hI : ∀ (H : Heap) (locs : List Loc), va_P D vwCl (cMod Y oM mM tk) H → va_S A s.heap H locs → W p l e (headSpec wsX5_go rmX5_go).room s m ([.ref (oM 0), .int i1] : List Value).toArray below meth c H locs 0 0 QQ (F0 m 0 ls []) from hI _ _ hP hS
  clear hP hS
  intro H locs hP hS
  refine lv_iload_n hx hb dX5_go_0 rfl (lv_at hl 1 rfl) ?_
  refine lv_iconst (v := (1 : Int32)) hx hb dX5_go_1 (by decide) ?_
  refine lv_bipush (v := (99 : Int32)) hx hb dX5_go_2 (by decide) ?_
  obtain ⟨r1, hc2, hM⟩ := bnd1_at hM
  refine cm_i (w2 := (cMod Y oM mM tk)) (va_runS (As := [.int i1, .int (1 : Int32), .int (99 : Int32)]) (rest := []) ⟨hx, hb, hml, hown, hts⟩ (ctX5_in l D Y H.size i1 (1 : Int32) (99 : Int32) r1 hc2) (cwS 3 hts gX5_go_X5_in rfl rfl rfl (by decide +kernel) ⟨Nat.le_of_ble_eq_true rfl, Nat.le_of_ble_eq_true rfl⟩) (pcW_S hK hP (hD.same rfl) [] rfl (pc_map pc_nil)) rfl rfl hl.1 rfl (lv_room (Nat.le_of_ble_eq_true rfl)) dX5_go_4 ⟨Nat.zero_le _, Nat.zero_le _⟩) hP (hD.same rfl) hS hA [] (pc_map pc_nil) (up_old rfl rfl (up_old rfl rfl (up_old rfl rfl (up_old rfl rfl (up_old rfl rfl (up_old rfl rfl (up_old rfl rfl (up_old rfl rfl (up_old rfl rfl (up_old rfl rfl (up_old rfl rfl (up_old rfl rfl (up_old rfl rfl (up_old rfl rfl (up_old rfl rfl (up_old rfl rfl (up_old rfl rfl (up_old rfl rfl (up_old rfl rfl up_nil))))))))))))))))))) (fun H locs hP hS => ?_)
  refine lv_if_ne (tgt := 13) hx hb dX5_go_7 (by decide) (fun c3 => ?_) (fun c3 => ?_)
  · replace hM := if_at_neg hM c3
    refine lv_aload_n hx hb dX5_go_13 rfl (lv_at hl 0 rfl) ?_
    refine va_get hx hb hts hi5 hown hK hP 0 rfl rfl 26 (by decide) (hts (.fieldLink RX5 38 "NightPlotsModel" "now" "[I") (List.mem_of_getElem? (i := 1) rfl)) (fun _ h9 => h9) rfl dX5_go_14 ?_
    refine lv_bipush (v := (16 : Int32)) hx hb dX5_go_17 (by decide) ?_
    obtain ⟨hi_4, hM⟩ := chkI_at hM
    refine va_iald hx hb hK hP 8 0 rfl rfl hi_4 dX5_go_19 ?_
    refine lv_iload_n hx hb dX5_go_20 rfl (lv_at hl 1 rfl) ?_
    refine lv_iadd hx hb dX5_go_21 ?_
    refine lv_sipush (v := (9999 : Int32)) hx hb dX5_go_22 (by decide) ?_
    refine lv_icmp_le (tgt := 31) hx hb dX5_go_25 (by decide) (fun c5 => ?_) (fun c5 => ?_)
    · replace hM := if_at_pos hM c5
      refine lv_aload_n hx hb dX5_go_31 rfl (lv_at hl 0 rfl) ?_
      refine lv_aload_n hx hb dX5_go_32 rfl (lv_at hl 0 rfl) ?_
      refine va_get hx hb hts hi5 hown hK hP 0 rfl rfl 9 (by decide) (hts (.fieldLink RX5 91 "NightPlotsModel" "law" "I") (List.mem_of_getElem? (i := 2) rfl)) (fun _ h9 => h9) rfl dX5_go_33 ?_
      refine lv_topi (fun x6 ex6 => ?_)
      replace hM := nm_at hM ex6
      refine va_put (ty := .int) hx hb hts hi5 tyX5 tyX5_ok nmX5 hown hK hP (hD.same rfl) hS 0 rfl rfl 34 (by decide) (hts (.fieldLink RX5 245 "NightPlotsModel" "triedLaw" "I") (List.mem_of_getElem? (i := 3) rfl)) (fun _ h9 => h9) rfl (by decide +kernel) rfl rfl (Nat.le_of_ble_eq_true rfl) dX5_go_36 (fun H locs hP _ hS => ?_)
      obtain ⟨mM_7, emM_7⟩ : ∃ z : GS, z = (up2 mM 0 34 x6) := ⟨_, rfl⟩
      have hP : va_P D vwCl (cMod Y oM mM_7 tk) H := by rw [emM_7]; exact hP
      replace hM := nm_at hM emM_7
      refine lv_iconst (v := (0 : Int32)) hx hb dX5_go_39 (by decide) ?_
      refine lv_istore_n (lv' := [(2, .int (0 : Int32)), (0, .ref (oM 0)), (1, .int i1)]) hx hb dX5_go_40 rfl hl (by decide) rfl (fun ls hl => ?_)
      refine jn1_at (fun (mM_8 : GS) => ∀ (H : Heap) (locs : List Loc) (ls : Array Slot), va_P D vwCl (cMod Y oM mM_8 tk) H → va_S A s.heap H locs → lv_has ls 3 [(0, .ref (oM 0))] → W p l e (headSpec wsX5_go rmX5_go).room s m ([.ref (oM 0), .int i1] : List Value).toArray below meth c H locs 0 0 QQ (F0 m 56 ls [])) hM (fun mM_8 hM H locs ls hP hS hl => ?_) (fun k9 hJ9 hM => ?_)
      · refine lv_aload_n hx hb dX5_go_56 rfl (lv_at hl 0 rfl) ?_
        refine va_get hx hb hts hi5 hown hK hP 0 rfl rfl 26 (by decide) (hts (.fieldLink RX5 38 "NightPlotsModel" "now" "[I") (List.mem_of_getElem? (i := 1) rfl)) (fun _ h9 => h9) rfl dX5_go_57 ?_
        refine lv_bipush (v := (16 : Int32)) hx hb dX5_go_60 (by decide) ?_
        obtain ⟨hi_10, hM⟩ := chkI_at hM
        refine va_iald hx hb hK hP 8 0 rfl rfl hi_10 dX5_go_62 ?_
        cases hM
        rw [hQQ]
        exact W.iret hx hb hr (fun t ht hW => ⟨⟨_, (), rfl, rfl, by show va_P D vwCl _ t.heap; rw [ht]; exact hP⟩, hS.F ht⟩) hS.2.2 dX5_go_63
      · refine lq2_at (fun (x11 : Int32) (mM_12 : GS) => ∀ (H : Heap) (locs : List Loc) (ls : Array Slot), va_P D vwCl (cMod Y oM mM_12 tk) H → va_S A s.heap H locs → lv_has ls 3 [(0, .ref (oM 0)), (1, .int i1), (2, .int x11)] → W p l e (headSpec wsX5_go rmX5_go).room s m ([.ref (oM 0), .int i1] : List Value).toArray below meth c H locs 0 0 QQ (F0 m 41 ls [])) (fun rec13 x11 mM_12 ih13 hM H locs ls hP hS hl => ?_) FU (0 : Int32) mM_7 hM H locs ls hP hS (lv_sub hl [1, 2, 0] rfl)
        unfold BX5_go_41 at hM
        refine lv_iload_n hx hb dX5_go_41 rfl (lv_at hl 2 rfl) ?_
        refine lv_iload_n hx hb dX5_go_42 rfl (lv_at hl 1 rfl) ?_
        refine lv_icmp_ge (tgt := 56) hx hb dX5_go_43 (by decide) (fun c14 => ?_) (fun c14 => ?_)
        · replace hM := if_at_pos hM c14
          exact hJ9 mM_12 hM H locs ls hP hS (lv_sub hl [0] rfl)
        · replace hM := if_at_neg hM c14
          refine lv_aload_n hx hb dX5_go_46 rfl (lv_at hl 0 rfl) ?_
          obtain ⟨mM_15, hc16, hM⟩ := bnd1_at hM
          refine co_v (va_runV (As := []) (rest := []) ⟨hx, hb, hml, hown, hts⟩ (ctX5_goNight l D Y oM H.size mM_12 tk mM_15 hc16) (cwV 0 hts gX5_go_X5_goNight rfl rfl rfl (by decide +kernel) ⟨Nat.le_of_ble_eq_true rfl, Nat.le_of_ble_eq_true rfl⟩) (pcW_V0 (ci := 5) (q0 := 0) hK hP (hD.same rfl) rfl rfl) rfl rfl hl.1 rfl (lv_room (Nat.le_of_ble_eq_true rfl)) dX5_go_47 ⟨Nat.zero_le _, Nat.zero_le _⟩) (hD.same rfl) hS hA (fun H locs hP hS => ?_)
          obtain ⟨x17, ex17⟩ : ∃ z : Int32, z = (x11 + 1) := ⟨_, rfl⟩
          replace hM := nm_at hM ex17
          refine lv_iinc (v := x17) (lv' := [(2, .int x17), (0, .ref (oM 0)), (1, .int i1)]) hx hb dX5_go_50 hl (k := 2) rfl (by rw [ex17]; rfl) (by decide) rfl (fun ls hl => ?_)
          refine lv_goto (tgt := 41) hx hb dX5_go_53 (by decide) ?_
          exact ih13 x17 mM_15 hM H locs ls hP hS (lv_sub hl [1, 2, 0] rfl)
    · replace hM := if_at_neg hM c5
      refine lv_bipush (v := (-5 : Int32)) hx hb dX5_go_28 (by decide) ?_
      cases hM
      rw [hQQ]
      exact W.iret hx hb hr (fun t ht hW => ⟨⟨_, (), rfl, rfl, by show va_P D vwCl _ t.heap; rw [ht]; exact hP⟩, hS.F ht⟩) hS.2.2 dX5_go_30
  · replace hM := if_at_pos hM c3
    refine lv_bipush (v := (-3 : Int32)) hx hb dX5_go_10 (by decide) ?_
    cases hM
    rw [hQQ]
    exact W.iret hx hb hr (fun t ht hW => ⟨⟨_, (), rfl, rfl, by show va_P D vwCl _ t.heap; rw [ht]; exact hP⟩, hS.F ht⟩) hS.2.2 dX5_go_12
noncomputable def BX5_roll_29 (mM_8 : GS) (k11 : Int32 → Option (Int32 × GS)) (i2 : Int32) (rec31 : Int32 → Int32 → Option (Int32 × GS)) (x29 : Int32) (x30 : Int32) : Option (Int32 × GS) := if (mM_8 0 32) ≤ x30 then (k11 x29) else (jn1 (fun (x33 : Int32) => nm (x30 + 1) fun (x35 : Int32) => rec31 x33 x35) (fun k34 => jn0 (k34 (1 : Int32)) (fun k36 => if x29 = 0 then (chkI x30 8 (if (mM_8 13 x30.toNatClampNeg) = i2 then (k36) else (k34 (0 : Int32)))) else (k36))))
noncomputable def MX5_roll (mM : GS) (i1 : Int32) (i2 : Int32) : Option (Int32 × GS) := bnd1 (MX5_isHouse mM i1) fun (r1 : Int32) => jn0 (some ((-2 : Int32), mM)) (fun k3 => if r1 = 0 then (k3) else (bnd1 (MX5_isPlot mM i2) fun (r5 : Int32) => if r5 = 0 then (k3) else (bnd1 (MX5_layWays mM i1) fun (mM_8 : GS) => jn1 (fun (x10 : Int32) => if x10 = 0 then (some ((-4 : Int32), mM_8)) else (chkI (16 : Int32) 19 (if (mM_8 8 (16 : Int32).toNatClampNeg) = (9999 : Int32) then (some ((-5 : Int32), mM_8)) else (bnd1 (MX5_rollTo mM_8 i1 i2) fun (mM_15 : GS) => jn1 (fun (x17 : Int32) => chkI (17 : Int32) 19 (nm (upA mM_15 8 (upd (mM_15 8) (17 : Int32).toNatClampNeg x17)) fun (mM_20 : GS) => chkI (16 : Int32) 19 (nm ((mM_20 8 (16 : Int32).toNatClampNeg) + (1 : Int32)) fun (x22 : Int32) => chkI (16 : Int32) 19 (nm (upA mM_20 8 (upd (mM_20 8) (16 : Int32).toNatClampNeg x22)) fun (mM_24 : GS) => chkI (16 : Int32) 19 (some ((mM_24 8 (16 : Int32).toNatClampNeg), mM_24)))))) (fun k18 => if (mM_15 0 9) = (1 : Int32) then (chkZ (mM_15 0 2) (k18 ((i1 + (1 : Int32)) - (i1 + (1 : Int32)) / (mM_15 0 2) * (mM_15 0 2)))) else (chkI (17 : Int32) 19 (k18 (mM_15 8 (17 : Int32).toNatClampNeg)))))))) (fun k11 => lq2 (BX5_roll_29 mM_8 k11 i2) FU (0 : Int32) (0 : Int32)))))
abbrev rmX5_roll : Room := { frames := 4, cells := 0, slots := 0, locals := 160 }
set_option maxHeartbeats 4000000 in
set_option maxRecDepth 100000 in
theorem ctX5_roll (l : Launch) (D : va_G) (Y : Nat → ClassId) (oM : Nat → Nat) (sz : Nat) (mM : GS) (tk : Int64) (i1 : Int32) (i2 : Int32) (rr : Int32) (mMz : GS) (hM : MX5_roll mM i1 i2 = some (rr, mMz)) : Met l yX5_roll wsX5_roll rmX5_roll (pcW [.ref (oM 0), .int i1, .int i2] sz D Y (cMod Y oM mM tk)) (qiW rr D (cMod Y oM mMz tk) (va_A (cMod Y oM mM tk) sz)) 0 0 (va_A (cMod Y oM mM tk) sz) := by
  refine Met.ofW (cc := cX5_roll) (maxL := 5) (ret := (some .int)) (by decide) rfl ?_
  intro p e s m args below meth c s₁ B hml hv
  obtain ⟨rfl, hsz, hP, hK, hD0⟩ := hv
  have hx := B.exec
  have hb := B.bytes
  have hr := B.returns
  have hts := atoms_spec (ws := wsX5_roll) B.pre
  have hown : s.vm.findClass RX5 = some m.cls := findClass_of_methodNamed B.named
  have hlocks := B.notSynchronized
  subst hsz
  have hD := hD0.self (sz := s.heap.size)
  generalize hAe : va_A (cMod Y oM mM tk) s.heap.size = A at hD ⊢
  have hA : ∀ q : Nat, s.heap.size ≤ q → A q := fun q h => by rw [← hAe]; exact Or.inr h
  have hS : va_S A s.heap s.heap [] := va_S.rf
  have hi5 : ∀ w ∈ wsX50, w ∈ wsX5_roll := fun w h => List.mem_cons_of_mem _ (List.mem_append_right _ h)
  have hl := lv_entry ([.ref (oM 0), .int i1, .int i2]) (n := 5) (Nat.le_of_ble_eq_true rfl)
  rw [lg_entry_eq]
  generalize (lg_sl ([.ref (oM 0), .int i1, .int i2]) ++ List.replicate (5 - (lg_sl ([.ref (oM 0), .int i1, .int i2])).length) Slot.unset).toArray = ls at hl ⊢
  have hl : lv_has ls 5 [(0, .ref (oM 0)), (1, .int i1), (2, .int i2)] := hl
  obtain ⟨QQ, hQQ⟩ : ∃ Q : State → Prop, Q = MQ below (qiW rr D (cMod Y oM mMz tk) A) ([.ref (oM 0), .int i1, .int i2] : List Value).toArray s 0 0 A := ⟨_, rfl⟩
  rw [← hQQ]
  unfold MX5_roll at hM
  suffices hI : ∀ (H : Heap) (locs : List Loc), va_P D vwCl (cMod Y oM mM tk) H → va_S A s.heap H locs → W p l e (headSpec wsX5_roll rmX5_roll).room s m ([.ref (oM 0), .int i1, .int i2] : List Value).toArray below meth c H locs 0 0 QQ (F0 m 0 ls []) from hI _ _ hP hS
  clear hP hS
  intro H locs hP hS
  refine lv_aload_n hx hb dX5_roll_0 rfl (lv_at hl 0 rfl) ?_
  refine lv_iload_n hx hb dX5_roll_1 rfl (lv_at hl 1 rfl) ?_
  obtain ⟨r1, hc2, hM⟩ := bnd1_at hM
  refine co_i (va_runV (As := [.int i1]) (rest := []) ⟨hx, hb, hml, hown, hts⟩ (ctX5_isHouse l D Y oM H.size mM tk i1 r1 hc2) (cwV 1 hts gX5_roll_X5_isHouse rfl rfl rfl (by decide +kernel) ⟨Nat.le_of_ble_eq_true rfl, Nat.le_of_ble_eq_true rfl⟩) (pcW_V0 (ci := 5) (q0 := 0) hK hP (hD.same rfl) rfl rfl) rfl rfl hl.1 rfl (lv_room (Nat.le_of_ble_eq_true rfl)) dX5_roll_2 ⟨Nat.zero_le _, Nat.zero_le _⟩) (hD.same rfl) hS hA (fun H locs hP hS => ?_)
  refine jn0_at (∀ (H : Heap) (locs : List Loc) (ls : Array Slot), va_P D vwCl (cMod Y oM mM tk) H → va_S A s.heap H locs → lv_has ls 5 [] → W p l e (headSpec wsX5_roll rmX5_roll).room s m ([.ref (oM 0), .int i1, .int i2] : List Value).toArray below meth c H locs 0 0 QQ (F0 m 16 ls [])) hM (fun  hM H locs ls hP hS hl => ?_) (fun k3 hJ3 hM => ?_)
  · refine lv_bipush (v := (-2 : Int32)) hx hb dX5_roll_16 (by decide) ?_
    cases hM
    rw [hQQ]
    exact W.iret hx hb hr (fun t ht hW => ⟨⟨_, (), rfl, rfl, by show va_P D vwCl _ t.heap; rw [ht]; exact hP⟩, hS.F ht⟩) hS.2.2 dX5_roll_18
  · refine lv_if_eq (tgt := 16) hx hb dX5_roll_5 (by decide) (fun c4 => ?_) (fun c4 => ?_)
    · replace hM := if_at_pos hM c4
      exact hJ3 hM H locs ls hP hS (lv_sub hl [] rfl)
    · replace hM := if_at_neg hM c4
      refine lv_aload_n hx hb dX5_roll_8 rfl (lv_at hl 0 rfl) ?_
      refine lv_iload_n hx hb dX5_roll_9 rfl (lv_at hl 2 rfl) ?_
      obtain ⟨r5, hc6, hM⟩ := bnd1_at hM
      refine co_i (va_runV (As := [.int i2]) (rest := []) ⟨hx, hb, hml, hown, hts⟩ (ctX5_isPlot l D Y oM H.size mM tk i2 r5 hc6) (cwV 1 hts gX5_roll_X5_isPlot rfl rfl rfl (by decide +kernel) ⟨Nat.le_of_ble_eq_true rfl, Nat.le_of_ble_eq_true rfl⟩) (pcW_V0 (ci := 5) (q0 := 0) hK hP (hD.same rfl) rfl rfl) rfl rfl hl.1 rfl (lv_room (Nat.le_of_ble_eq_true rfl)) dX5_roll_10 ⟨Nat.zero_le _, Nat.zero_le _⟩) (hD.same rfl) hS hA (fun H locs hP hS => ?_)
      refine lv_if_ne (tgt := 19) hx hb dX5_roll_13 (by decide) (fun c7 => ?_) (fun c7 => ?_)
      · replace hM := if_at_neg hM c7
        refine lv_aload_n hx hb dX5_roll_19 rfl (lv_at hl 0 rfl) ?_
        refine lv_iload_n hx hb dX5_roll_20 rfl (lv_at hl 1 rfl) ?_
        obtain ⟨mM_8, hc9, hM⟩ := bnd1_at hM
        refine co_v (va_runV (As := [.int i1]) (rest := []) ⟨hx, hb, hml, hown, hts⟩ (ctX5_layWays l D Y oM H.size mM tk i1 mM_8 hc9) (cwV 1 hts gX5_roll_X5_layWays rfl rfl rfl (by decide +kernel) ⟨Nat.le_of_ble_eq_true rfl, Nat.le_of_ble_eq_true rfl⟩) (pcW_V0 (ci := 5) (q0 := 0) hK hP (hD.same rfl) rfl rfl) rfl rfl hl.1 rfl (lv_room (Nat.le_of_ble_eq_true rfl)) dX5_roll_21 ⟨Nat.zero_le _, Nat.zero_le _⟩) (hD.same rfl) hS hA (fun H locs hP hS => ?_)
        refine lv_iconst (v := (0 : Int32)) hx hb dX5_roll_24 (by decide) ?_
        refine lv_istore_n (lv' := [(3, .int (0 : Int32)), (0, .ref (oM 0)), (1, .int i1), (2, .int i2)]) hx hb dX5_roll_25 rfl hl (by decide) rfl (fun ls hl => ?_)
        refine lv_iconst (v := (0 : Int32)) hx hb dX5_roll_26 (by decide) ?_
        refine lv_istore (lv' := [(4, .int (0 : Int32)), (3, .int (0 : Int32)), (0, .ref (oM 0)), (1, .int i1), (2, .int i2)]) hx hb dX5_roll_27 hl (by decide) rfl (fun ls hl => ?_)
        refine jn1_at (fun (x10 : Int32) => ∀ (H : Heap) (locs : List Loc) (ls : Array Slot), va_P D vwCl (cMod Y oM mM_8 tk) H → va_S A s.heap H locs → lv_has ls 5 [(0, .ref (oM 0)), (1, .int i1), (2, .int i2), (3, .int x10)] → W p l e (headSpec wsX5_roll rmX5_roll).room s m ([.ref (oM 0), .int i1, .int i2] : List Value).toArray below meth c H locs 0 0 QQ (F0 m 65 ls [])) hM (fun x10 hM H locs ls hP hS hl => ?_) (fun k11 hJ11 hM => ?_)
        · refine lv_iload_n hx hb dX5_roll_65 rfl (lv_at hl 3 rfl) ?_
          refine lv_if_ne (tgt := 72) hx hb dX5_roll_66 (by decide) (fun c12 => ?_) (fun c12 => ?_)
          · replace hM := if_at_neg hM c12
            refine lv_aload_n hx hb dX5_roll_72 rfl (lv_at hl 0 rfl) ?_
            refine va_get hx hb hts hi5 hown hK hP 0 rfl rfl 26 (by decide) (hts (.fieldLink RX5 38 "NightPlotsModel" "now" "[I") (List.mem_of_getElem? (i := 3) rfl)) (fun _ h9 => h9) rfl dX5_roll_73 ?_
            refine lv_bipush (v := (16 : Int32)) hx hb dX5_roll_76 (by decide) ?_
            obtain ⟨hi_13, hM⟩ := chkI_at hM
            refine va_iald hx hb hK hP 8 0 rfl rfl hi_13 dX5_roll_78 ?_
            refine lv_sipush (v := (9999 : Int32)) hx hb dX5_roll_79 (by decide) ?_
            refine lv_icmp_ne (tgt := 88) hx hb dX5_roll_82 (by decide) (fun c14 => ?_) (fun c14 => ?_)
            · replace hM := if_at_neg hM c14
              refine lv_aload_n hx hb dX5_roll_88 rfl (lv_at hl 0 rfl) ?_
              refine lv_iload_n hx hb dX5_roll_89 rfl (lv_at hl 1 rfl) ?_
              refine lv_iload_n hx hb dX5_roll_90 rfl (lv_at hl 2 rfl) ?_
              obtain ⟨mM_15, hc16, hM⟩ := bnd1_at hM
              refine co_v (va_runV (As := [.int i1, .int i2]) (rest := []) ⟨hx, hb, hml, hown, hts⟩ (ctX5_rollTo l D Y oM H.size mM_8 tk i1 i2 mM_15 hc16) (cwV 2 hts gX5_roll_X5_rollTo rfl rfl rfl (by decide +kernel) ⟨Nat.le_of_ble_eq_true rfl, Nat.le_of_ble_eq_true rfl⟩) (pcW_V0 (ci := 5) (q0 := 0) hK hP (hD.same rfl) rfl rfl) rfl rfl hl.1 rfl (lv_room (Nat.le_of_ble_eq_true rfl)) dX5_roll_91 ⟨Nat.zero_le _, Nat.zero_le _⟩) (hD.same rfl) hS hA (fun H locs hP hS => ?_)
              refine lv_aload_n hx hb dX5_roll_94 rfl (lv_at hl 0 rfl) ?_
              refine va_get hx hb hts hi5 hown hK hP 0 rfl rfl 26 (by decide) (hts (.fieldLink RX5 38 "NightPlotsModel" "now" "[I") (List.mem_of_getElem? (i := 3) rfl)) (fun _ h9 => h9) rfl dX5_roll_95 ?_
              refine lv_bipush (v := (17 : Int32)) hx hb dX5_roll_98 (by decide) ?_
              refine lv_aload_n hx hb dX5_roll_100 rfl (lv_at hl 0 rfl) ?_
              refine va_get hx hb hts hi5 hown hK hP 0 rfl rfl 9 (by decide) (hts (.fieldLink RX5 91 "NightPlotsModel" "law" "I") (List.mem_of_getElem? (i := 4) rfl)) (fun _ h9 => h9) rfl dX5_roll_101 ?_
              refine lv_iconst (v := (1 : Int32)) hx hb dX5_roll_104 (by decide) ?_
              refine jn1_at (fun (x17 : Int32) => ∀ (H : Heap) (locs : List Loc) (ls : Array Slot), va_P D vwCl (cMod Y oM mM_15 tk) H → va_S A s.heap H locs → lv_has ls 5 [(0, .ref (oM 0))] → W p l e (headSpec wsX5_roll rmX5_roll).room s m ([.ref (oM 0), .int i1, .int i2] : List Value).toArray below meth c H locs 0 0 QQ (F0 m 126 ls [.int x17, .int (17 : Int32), .ref (oM 8)])) hM (fun x17 hM H locs ls hP hS hl => ?_) (fun k18 hJ18 hM => ?_)
              · obtain ⟨hi_19, hM⟩ := chkI_at hM
                refine va_iast hx hb hK hP (hD.same rfl) hS 8 0 rfl rfl hi_19 dX5_roll_126 (fun H locs hP _ hS => ?_)
                obtain ⟨mM_20, emM_20⟩ : ∃ z : GS, z = (upA mM_15 8 (upd (mM_15 8) (17 : Int32).toNatClampNeg x17)) := ⟨_, rfl⟩
                have hP : va_P D vwCl (cMod Y oM mM_20 tk) H := by rw [emM_20]; exact hP
                replace hM := nm_at hM emM_20
                refine lv_aload_n hx hb dX5_roll_127 rfl (lv_at hl 0 rfl) ?_
                refine va_get hx hb hts hi5 hown hK hP 0 rfl rfl 26 (by decide) (hts (.fieldLink RX5 38 "NightPlotsModel" "now" "[I") (List.mem_of_getElem? (i := 3) rfl)) (fun _ h9 => h9) rfl dX5_roll_128 ?_
                refine lv_bipush (v := (16 : Int32)) hx hb dX5_roll_131 (by decide) ?_
                refine lv_dup2_11 hx hb dX5_roll_133 rfl rfl ?_
                obtain ⟨hi_21, hM⟩ := chkI_at hM
                refine va_iald hx hb hK hP 8 0 rfl rfl hi_21 dX5_roll_134 ?_
                refine lv_iconst (v := (1 : Int32)) hx hb dX5_roll_135 (by decide) ?_
                refine lv_iadd hx hb dX5_roll_136 ?_
                refine lv_topi (fun x22 ex22 => ?_)
                replace hM := nm_at hM ex22
                obtain ⟨hi_23, hM⟩ := chkI_at hM
                refine va_iast hx hb hK hP (hD.same rfl) hS 8 0 rfl rfl hi_23 dX5_roll_137 (fun H locs hP _ hS => ?_)
                obtain ⟨mM_24, emM_24⟩ : ∃ z : GS, z = (upA mM_20 8 (upd (mM_20 8) (16 : Int32).toNatClampNeg x22)) := ⟨_, rfl⟩
                have hP : va_P D vwCl (cMod Y oM mM_24 tk) H := by rw [emM_24]; exact hP
                replace hM := nm_at hM emM_24
                refine lv_aload_n hx hb dX5_roll_138 rfl (lv_at hl 0 rfl) ?_
                refine va_get hx hb hts hi5 hown hK hP 0 rfl rfl 26 (by decide) (hts (.fieldLink RX5 38 "NightPlotsModel" "now" "[I") (List.mem_of_getElem? (i := 3) rfl)) (fun _ h9 => h9) rfl dX5_roll_139 ?_
                refine lv_bipush (v := (16 : Int32)) hx hb dX5_roll_142 (by decide) ?_
                obtain ⟨hi_25, hM⟩ := chkI_at hM
                refine va_iald hx hb hK hP 8 0 rfl rfl hi_25 dX5_roll_144 ?_
                cases hM
                rw [hQQ]
                exact W.iret hx hb hr (fun t ht hW => ⟨⟨_, (), rfl, rfl, by show va_P D vwCl _ t.heap; rw [ht]; exact hP⟩, hS.F ht⟩) hS.2.2 dX5_roll_145
              · refine lv_icmp_ne (tgt := 119) hx hb dX5_roll_105 (by decide) (fun c26 => ?_) (fun c26 => ?_)
                · replace hM := if_at_neg hM c26
                  refine lv_aload_n hx hb dX5_roll_119 rfl (lv_at hl 0 rfl) ?_
                  refine va_get hx hb hts hi5 hown hK hP 0 rfl rfl 26 (by decide) (hts (.fieldLink RX5 38 "NightPlotsModel" "now" "[I") (List.mem_of_getElem? (i := 3) rfl)) (fun _ h9 => h9) rfl dX5_roll_120 ?_
                  refine lv_bipush (v := (17 : Int32)) hx hb dX5_roll_123 (by decide) ?_
                  obtain ⟨hi_27, hM⟩ := chkI_at hM
                  refine va_iald hx hb hK hP 8 0 rfl rfl hi_27 dX5_roll_125 ?_
                  exact hJ18 (mM_15 8 (17 : Int32).toNatClampNeg) hM H locs ls hP hS (lv_sub hl [0] rfl)
                · replace hM := if_at_pos hM c26
                  refine lv_iload_n hx hb dX5_roll_108 rfl (lv_at hl 1 rfl) ?_
                  refine lv_iconst (v := (1 : Int32)) hx hb dX5_roll_109 (by decide) ?_
                  refine lv_iadd hx hb dX5_roll_110 ?_
                  refine lv_aload_n hx hb dX5_roll_111 rfl (lv_at hl 0 rfl) ?_
                  refine va_get hx hb hts hi5 hown hK hP 0 rfl rfl 2 (by decide) (hts (.fieldLink RX5 78 "NightPlotsModel" "houses" "I") (List.mem_of_getElem? (i := 5) rfl)) (fun _ h9 => h9) rfl dX5_roll_112 ?_
                  obtain ⟨hz28, hM⟩ := chkZ_at hM
                  refine lv_irem hx hb dX5_roll_115 hz28 ?_
                  refine lv_goto (tgt := 126) hx hb dX5_roll_116 (by decide) ?_
                  exact hJ18 ((i1 + (1 : Int32)) - (i1 + (1 : Int32)) / (mM_15 0 2) * (mM_15 0 2)) hM H locs ls hP hS (lv_sub hl [0] rfl)
            · replace hM := if_at_pos hM c14
              refine lv_bipush (v := (-5 : Int32)) hx hb dX5_roll_85 (by decide) ?_
              cases hM
              rw [hQQ]
              exact W.iret hx hb hr (fun t ht hW => ⟨⟨_, (), rfl, rfl, by show va_P D vwCl _ t.heap; rw [ht]; exact hP⟩, hS.F ht⟩) hS.2.2 dX5_roll_87
          · replace hM := if_at_pos hM c12
            refine lv_bipush (v := (-4 : Int32)) hx hb dX5_roll_69 (by decide) ?_
            cases hM
            rw [hQQ]
            exact W.iret hx hb hr (fun t ht hW => ⟨⟨_, (), rfl, rfl, by show va_P D vwCl _ t.heap; rw [ht]; exact hP⟩, hS.F ht⟩) hS.2.2 dX5_roll_71
        · refine lq2_at (fun (x29 : Int32) (x30 : Int32) => ∀ (H : Heap) (locs : List Loc) (ls : Array Slot), va_P D vwCl (cMod Y oM mM_8 tk) H → va_S A s.heap H locs → lv_has ls 5 [(0, .ref (oM 0)), (1, .int i1), (2, .int i2), (3, .int x29), (4, .int x30)] → W p l e (headSpec wsX5_roll rmX5_roll).room s m ([.ref (oM 0), .int i1, .int i2] : List Value).toArray below meth c H locs 0 0 QQ (F0 m 29 ls [])) (fun rec31 x29 x30 ih31 hM H locs ls hP hS hl => ?_) FU (0 : Int32) (0 : Int32) hM H locs ls hP hS (lv_sub hl [2, 3, 4, 1, 0] rfl)
          unfold BX5_roll_29 at hM
          refine lv_iload hx hb dX5_roll_29 (lv_at hl 4 rfl) ?_
          refine lv_aload_n hx hb dX5_roll_31 rfl (lv_at hl 0 rfl) ?_
          refine va_get hx hb hts hi5 hown hK hP 0 rfl rfl 32 (by decide) (hts (.fieldLink RX5 225 "NightPlotsModel" "wayMany" "I") (List.mem_of_getElem? (i := 1) rfl)) (fun _ h9 => h9) rfl dX5_roll_32 ?_
          refine lv_icmp_ge (tgt := 65) hx hb dX5_roll_35 (by decide) (fun c32 => ?_) (fun c32 => ?_)
          · replace hM := if_at_pos hM c32
            exact hJ11 x29 hM H locs ls hP hS (lv_sub hl [0, 1, 2, 3] rfl)
          · replace hM := if_at_neg hM c32
            refine lv_iload_n hx hb dX5_roll_38 rfl (lv_at hl 3 rfl) ?_
            refine jn1_at (fun (x33 : Int32) => ∀ (H : Heap) (locs : List Loc) (ls : Array Slot), va_P D vwCl (cMod Y oM mM_8 tk) H → va_S A s.heap H locs → lv_has ls 5 [(0, .ref (oM 0)), (1, .int i1), (2, .int i2), (4, .int x30)] → W p l e (headSpec wsX5_roll rmX5_roll).room s m ([.ref (oM 0), .int i1, .int i2] : List Value).toArray below meth c H locs 0 0 QQ (F0 m 58 ls [.int x33])) hM (fun x33 hM H locs ls hP hS hl => ?_) (fun k34 hJ34 hM => ?_)
            · refine lv_istore_n (lv' := [(3, .int x33), (0, .ref (oM 0)), (1, .int i1), (2, .int i2), (4, .int x30)]) hx hb dX5_roll_58 rfl hl (by decide) rfl (fun ls hl => ?_)
              obtain ⟨x35, ex35⟩ : ∃ z : Int32, z = (x30 + 1) := ⟨_, rfl⟩
              replace hM := nm_at hM ex35
              refine lv_iinc (v := x35) (lv' := [(4, .int x35), (3, .int x33), (0, .ref (oM 0)), (1, .int i1), (2, .int i2)]) hx hb dX5_roll_59 hl (k := 4) rfl (by rw [ex35]; rfl) (by decide) rfl (fun ls hl => ?_)
              refine lv_goto (tgt := 29) hx hb dX5_roll_62 (by decide) ?_
              exact ih31 x33 x35 hM H locs ls hP hS (lv_sub hl [2, 3, 4, 1, 0] rfl)
            · refine jn0_at (∀ (H : Heap) (locs : List Loc) (ls : Array Slot), va_P D vwCl (cMod Y oM mM_8 tk) H → va_S A s.heap H locs → lv_has ls 5 [(0, .ref (oM 0)), (1, .int i1), (2, .int i2), (4, .int x30)] → W p l e (headSpec wsX5_roll rmX5_roll).room s m ([.ref (oM 0), .int i1, .int i2] : List Value).toArray below meth c H locs 0 0 QQ (F0 m 53 ls [])) hM (fun  hM H locs ls hP hS hl => ?_) (fun k36 hJ36 hM => ?_)
              · refine lv_iconst (v := (1 : Int32)) hx hb dX5_roll_53 (by decide) ?_
                refine lv_goto (tgt := 58) hx hb dX5_roll_54 (by decide) ?_
                exact hJ34 (1 : Int32) hM H locs ls hP hS (lv_sub hl [0, 1, 2, 3] rfl)
              · refine lv_if_ne (tgt := 53) hx hb dX5_roll_39 (by decide) (fun c37 => ?_) (fun c37 => ?_)
                · replace hM := if_at_neg hM c37
                  exact hJ36 hM H locs ls hP hS (lv_sub hl [0, 1, 2, 4] rfl)
                · replace hM := if_at_pos hM c37
                  refine lv_aload_n hx hb dX5_roll_42 rfl (lv_at hl 0 rfl) ?_
                  refine va_get hx hb hts hi5 hown hK hP 0 rfl rfl 33 (by decide) (hts (.fieldLink RX5 54 "NightPlotsModel" "way" "[I") (List.mem_of_getElem? (i := 2) rfl)) (fun _ h9 => h9) rfl dX5_roll_43 ?_
                  refine lv_iload hx hb dX5_roll_46 (lv_at hl 4 rfl) ?_
                  obtain ⟨hi_38, hM⟩ := chkI_at hM
                  refine va_iald hx hb hK hP 13 0 rfl rfl hi_38 dX5_roll_48 ?_
                  refine lv_iload_n hx hb dX5_roll_49 rfl (lv_at hl 2 rfl) ?_
                  refine lv_icmp_ne (tgt := 57) hx hb dX5_roll_50 (by decide) (fun c39 => ?_) (fun c39 => ?_)
                  · replace hM := if_at_neg hM c39
                    refine lv_iconst (v := (0 : Int32)) hx hb dX5_roll_57 (by decide) ?_
                    exact hJ34 (0 : Int32) hM H locs ls hP hS (lv_sub hl [0, 1, 2, 4] rfl)
                  · replace hM := if_at_pos hM c39
                    exact hJ36 hM H locs ls hP hS (lv_sub hl [0, 1, 2, 4] rfl)
      · replace hM := if_at_pos hM c7
        exact hJ3 hM H locs ls hP hS (lv_sub hl [] rfl)
noncomputable def BX5_copy_3 (k2 : (Nat → Int32) → Option ((Nat → Int32))) (i2 : Int32) (nR1 : Nat) (fR1 : Nat → Int32) (i4 : Int32) (nR2 : Nat) (rec5 : Int32 → (Nat → Int32) → Option ((Nat → Int32))) (x3 : Int32) (fR2_4 : Nat → Int32) : Option ((Nat → Int32)) := if (19 : Int32) ≤ x3 then (k2 fR2_4) else (chkI (i2 + x3) nR1 (nm (fR1 (i2 + x3).toNatClampNeg) fun (x8 : Int32) => chkI (i4 + x3) nR2 (nm (upd fR2_4 (i4 + x3).toNatClampNeg x8) fun (fR2_10 : Nat → Int32) => nm (x3 + 1) fun (x11 : Int32) => rec5 x11 fR2_10)))
noncomputable def MX5_copy (nR1 : Nat) (nR2 : Nat) (fR1 : Nat → Int32) (fR2 : Nat → Int32) (i2 : Int32) (i4 : Int32) : Option ((Nat → Int32)) := jn1 (fun (fR2_1 : Nat → Int32) => some (fR2_1)) (fun k2 => lq2 (BX5_copy_3 k2 i2 nR1 fR1 i4 nR2) FU (0 : Int32) fR2)
abbrev rmX5_copy : Room := { frames := 1, cells := 0, slots := 0, locals := 40 }
set_option maxHeartbeats 4000000 in
set_option maxRecDepth 100000 in
theorem ctX5_copy (l : Launch) (D : va_G) (Y : Nat → ClassId) (qR1 : Nat) (nR1 : Nat) (qR2 : Nat) (nR2 : Nat) (sz : Nat) (fR1 : Nat → Int32) (fR2 : Nat → Int32) (i2 : Int32) (i4 : Int32) (fR2z : Nat → Int32) (hM : MX5_copy nR1 nR2 fR1 fR2 i2 i4 = some (fR2z)) : Met l yX5_copy wsX5_copy rmX5_copy (pcW [.ref qR1, .int i2, .ref qR2, .int i4] sz D Y (cRow Y qR1 nR1 fR1 ++ cRow Y qR2 nR2 fR2)) (qvW D (cRow Y qR1 nR1 fR1 ++ cRow Y qR2 nR2 fR2z) (va_A (cRow Y qR1 nR1 fR1 ++ cRow Y qR2 nR2 fR2) sz)) 0 0 (va_A (cRow Y qR1 nR1 fR1 ++ cRow Y qR2 nR2 fR2) sz) := by
  refine Met.ofW (cc := cX5_copy) (maxL := 5) (ret := (none)) (by decide) rfl ?_
  intro p e s m args below meth c s₁ B hml hv
  obtain ⟨rfl, hsz, hP, hK, hD0⟩ := hv
  have hx := B.exec
  have hb := B.bytes
  have hr := B.returns
  have hts := atoms_spec (ws := wsX5_copy) B.pre
  have hown : s.vm.findClass RX5 = some m.cls := findClass_of_methodNamed B.named
  have hlocks := B.notSynchronized
  subst hsz
  have hD := hD0.self (sz := s.heap.size)
  generalize hAe : va_A (cRow Y qR1 nR1 fR1 ++ cRow Y qR2 nR2 fR2) s.heap.size = A at hD ⊢
  have hA : ∀ q : Nat, s.heap.size ≤ q → A q := fun q h => by rw [← hAe]; exact Or.inr h
  have hS : va_S A s.heap s.heap [] := va_S.rf
  have hl := lv_entry ([.ref qR1, .int i2, .ref qR2, .int i4]) (n := 5) (Nat.le_of_ble_eq_true rfl)
  rw [lg_entry_eq]
  generalize (lg_sl ([.ref qR1, .int i2, .ref qR2, .int i4]) ++ List.replicate (5 - (lg_sl ([.ref qR1, .int i2, .ref qR2, .int i4])).length) Slot.unset).toArray = ls at hl ⊢
  have hl : lv_has ls 5 [(0, .ref qR1), (1, .int i2), (2, .ref qR2), (3, .int i4)] := hl
  obtain ⟨QQ, hQQ⟩ : ∃ Q : State → Prop, Q = MQ below (qvW D (cRow Y qR1 nR1 fR1 ++ cRow Y qR2 nR2 fR2z) A) ([.ref qR1, .int i2, .ref qR2, .int i4] : List Value).toArray s 0 0 A := ⟨_, rfl⟩
  rw [← hQQ]
  unfold MX5_copy at hM
  suffices hI : ∀ (H : Heap) (locs : List Loc), va_P D vwCl (cRow Y qR1 nR1 fR1 ++ cRow Y qR2 nR2 fR2) H → va_S A s.heap H locs → W p l e (headSpec wsX5_copy rmX5_copy).room s m ([.ref qR1, .int i2, .ref qR2, .int i4] : List Value).toArray below meth c H locs 0 0 QQ (F0 m 0 ls []) from hI _ _ hP hS
  clear hP hS
  intro H locs hP hS
  refine lv_iconst (v := (0 : Int32)) hx hb dX5_copy_0 (by decide) ?_
  refine lv_istore (lv' := [(4, .int (0 : Int32)), (0, .ref qR1), (1, .int i2), (2, .ref qR2), (3, .int i4)]) hx hb dX5_copy_1 hl (by decide) rfl (fun ls hl => ?_)
  refine jn1_at (fun (fR2_1 : Nat → Int32) => ∀ (H : Heap) (locs : List Loc) (ls : Array Slot), va_P D vwCl (cRow Y qR1 nR1 fR1 ++ cRow Y qR2 nR2 fR2_1) H → va_S A s.heap H locs → lv_has ls 5 [] → W p l e (headSpec wsX5_copy rmX5_copy).room s m ([.ref qR1, .int i2, .ref qR2, .int i4] : List Value).toArray below meth c H locs 0 0 QQ (F0 m 28 ls [])) hM (fun fR2_1 hM H locs ls hP hS hl => ?_) (fun k2 hJ2 hM => ?_)
  · cases hM
    rw [hQQ]
    exact W.vret hx hb hr (fun t ht hW => ⟨⟨(), rfl, trivial, by show va_P D vwCl _ t.heap; rw [ht]; exact hP⟩, hS.F ht⟩) hS.2.2 dX5_copy_28
  · refine lq2_at (fun (x3 : Int32) (fR2_4 : Nat → Int32) => ∀ (H : Heap) (locs : List Loc) (ls : Array Slot), va_P D vwCl (cRow Y qR1 nR1 fR1 ++ cRow Y qR2 nR2 fR2_4) H → va_S A s.heap H locs → lv_has ls 5 [(0, .ref qR1), (1, .int i2), (2, .ref qR2), (3, .int i4), (4, .int x3)] → W p l e (headSpec wsX5_copy rmX5_copy).room s m ([.ref qR1, .int i2, .ref qR2, .int i4] : List Value).toArray below meth c H locs 0 0 QQ (F0 m 3 ls [])) (fun rec5 x3 fR2_4 ih5 hM H locs ls hP hS hl => ?_) FU (0 : Int32) fR2 hM H locs ls hP hS (lv_sub hl [1, 2, 3, 4, 0] rfl)
    unfold BX5_copy_3 at hM
    refine lv_iload hx hb dX5_copy_3 (lv_at hl 4 rfl) ?_
    refine lv_bipush (v := (19 : Int32)) hx hb dX5_copy_5 (by decide) ?_
    refine lv_icmp_ge (tgt := 28) hx hb dX5_copy_7 (by decide) (fun c6 => ?_) (fun c6 => ?_)
    · replace hM := if_at_pos hM c6
      exact hJ2 fR2_4 hM H locs ls hP hS (lv_sub hl [] rfl)
    · replace hM := if_at_neg hM c6
      refine lv_aload_n hx hb dX5_copy_10 rfl (lv_at hl 2 rfl) ?_
      refine lv_iload_n hx hb dX5_copy_11 rfl (lv_at hl 3 rfl) ?_
      refine lv_iload hx hb dX5_copy_12 (lv_at hl 4 rfl) ?_
      refine lv_iadd hx hb dX5_copy_14 ?_
      refine lv_aload_n hx hb dX5_copy_15 rfl (lv_at hl 0 rfl) ?_
      refine lv_iload_n hx hb dX5_copy_16 rfl (lv_at hl 1 rfl) ?_
      refine lv_iload hx hb dX5_copy_17 (lv_at hl 4 rfl) ?_
      refine lv_iadd hx hb dX5_copy_19 ?_
      obtain ⟨hi_7, hM⟩ := chkI_at hM
      refine va_iald hx hb hK hP 0 0 rfl rfl hi_7 dX5_copy_20 ?_
      refine lv_topi (fun x8 ex8 => ?_)
      replace hM := nm_at hM ex8
      obtain ⟨hi_9, hM⟩ := chkI_at hM
      refine va_iast hx hb hK hP (hD.same rfl) hS 1 0 rfl rfl hi_9 dX5_copy_21 (fun H locs hP _ hS => ?_)
      obtain ⟨fR2_10, efR2_10⟩ : ∃ z : Nat → Int32, z = (upd fR2_4 (i4 + x3).toNatClampNeg x8) := ⟨_, rfl⟩
      have hP : va_P D vwCl (cRow Y qR1 nR1 fR1 ++ cRow Y qR2 nR2 fR2_10) H := by rw [efR2_10]; exact hP
      replace hM := nm_at hM efR2_10
      obtain ⟨x11, ex11⟩ : ∃ z : Int32, z = (x3 + 1) := ⟨_, rfl⟩
      replace hM := nm_at hM ex11
      refine lv_iinc (v := x11) (lv' := [(4, .int x11), (0, .ref qR1), (1, .int i2), (2, .ref qR2), (3, .int i4)]) hx hb dX5_copy_22 hl (k := 4) rfl (by rw [ex11]; rfl) (by decide) rfl (fun ls hl => ?_)
      refine lv_goto (tgt := 3) hx hb dX5_copy_25 (by decide) ?_
      exact ih5 x11 fR2_10 hM H locs ls hP hS (lv_sub hl [1, 2, 3, 4, 0] rfl)
