noncomputable def MX5_next (mM : GS) (i1 : Int32) (i2 : Int32) : Option (Int32) := chkZ (mM 0 0) (some ((((i1 + i2) + (mM 0 0)) - ((i1 + i2) + (mM 0 0)) / (mM 0 0) * (mM 0 0))))
abbrev rmX5_next : Room := { frames := 1, cells := 0, slots := 0, locals := 40 }
set_option maxHeartbeats 4000000 in
set_option maxRecDepth 100000 in
theorem ctX5_next (l : Launch) (D : va_G) (Y : Nat → ClassId) (oM : Nat → Nat) (sz : Nat) (mM : GS) (tk : Int64) (i1 : Int32) (i2 : Int32) (rr : Int32) (hM : MX5_next mM i1 i2 = some (rr)) : Met l yX5_next wsX5_next rmX5_next (pcW [.ref (oM 0), .int i1, .int i2] sz D Y (cMod Y oM mM tk)) (qiW rr D (cMod Y oM mM tk) (va_A (cMod Y oM mM tk) sz)) 0 0 (va_A (cMod Y oM mM tk) sz) := by
  refine Met.ofW (cc := cX5_next) (maxL := 3) (ret := (some .int)) (by decide) rfl ?_
  intro p e s m args below meth c s₁ B hml hv
  obtain ⟨rfl, hsz, hP, hK, hD0⟩ := hv
  have hx := B.exec
  have hb := B.bytes
  have hr := B.returns
  have hts := atoms_spec (ws := wsX5_next) B.pre
  have hown : s.vm.findClass RX5 = some m.cls := findClass_of_methodNamed B.named
  have hlocks := B.notSynchronized
  subst hsz
  have hD := hD0.self (sz := s.heap.size)
  generalize hAe : va_A (cMod Y oM mM tk) s.heap.size = A at hD ⊢
  have hA : ∀ q : Nat, s.heap.size ≤ q → A q := fun q h => by rw [← hAe]; exact Or.inr h
  have hS : va_S A s.heap s.heap [] := va_S.rf
  have hi5 : ∀ w ∈ wsX50, w ∈ wsX5_next := fun w h => List.mem_cons_of_mem _ (List.mem_append_right _ h)
  have hl := lv_entry ([.ref (oM 0), .int i1, .int i2]) (n := 3) (Nat.le_of_ble_eq_true rfl)
  rw [lg_entry_eq]
  generalize (lg_sl ([.ref (oM 0), .int i1, .int i2]) ++ List.replicate (3 - (lg_sl ([.ref (oM 0), .int i1, .int i2])).length) Slot.unset).toArray = ls at hl ⊢
  have hl : lv_has ls 3 [(0, .ref (oM 0)), (1, .int i1), (2, .int i2)] := hl
  obtain ⟨QQ, hQQ⟩ : ∃ Q : State → Prop, Q = MQ below (qiW rr D (cMod Y oM mM tk) A) ([.ref (oM 0), .int i1, .int i2] : List Value).toArray s 0 0 A := ⟨_, rfl⟩
  rw [← hQQ]
  unfold MX5_next at hM
  suffices hI : ∀ (H : Heap) (locs : List Loc), va_P D vwCl (cMod Y oM mM tk) H → va_S A s.heap H locs → W p l e (headSpec wsX5_next rmX5_next).room s m ([.ref (oM 0), .int i1, .int i2] : List Value).toArray below meth c H locs 0 0 QQ (F0 m 0 ls []) from hI _ _ hP hS
  clear hP hS
  intro H locs hP hS
  refine lv_iload_n hx hb dX5_next_0 rfl (lv_at hl 1 rfl) ?_
  refine lv_iload_n hx hb dX5_next_1 rfl (lv_at hl 2 rfl) ?_
  refine lv_iadd hx hb dX5_next_2 ?_
  refine lv_aload_n hx hb dX5_next_3 rfl (lv_at hl 0 rfl) ?_
  refine va_get hx hb hts hi5 hown hK hP 0 rfl rfl 0 (by decide) (hts (.fieldLink RX5 7 "NightPlotsModel" "plots" "I") (List.mem_of_getElem? (i := 1) rfl)) (fun _ h9 => h9) rfl dX5_next_4 ?_
  refine lv_iadd hx hb dX5_next_7 ?_
  refine lv_aload_n hx hb dX5_next_8 rfl (lv_at hl 0 rfl) ?_
  refine va_get hx hb hts hi5 hown hK hP 0 rfl rfl 0 (by decide) (hts (.fieldLink RX5 7 "NightPlotsModel" "plots" "I") (List.mem_of_getElem? (i := 1) rfl)) (fun _ h9 => h9) rfl dX5_next_9 ?_
  obtain ⟨hz1, hM⟩ := chkZ_at hM
  refine lv_irem hx hb dX5_next_12 hz1 ?_
  cases hM
  rw [hQQ]
  exact W.iret hx hb hr (fun t ht hW => ⟨⟨_, (), rfl, rfl, by show va_P D vwCl _ t.heap; rw [ht]; exact hP⟩, hS.F ht⟩) hS.2.2 dX5_next_13
noncomputable def BX5_full_4 (mM : GS) (k2 : Int32 → Option (Int32)) (rec5 : Int32 → Int32 → Option (Int32)) (x3 : Int32) (x4 : Int32) : Option (Int32) := if (mM 0 2) ≤ x4 then (k2 x3) else (chkI x4 19 (chkI x4 8 (jn1 (fun (x9 : Int32) => nm ((x3 ||| ((1 : Int32) <<< ((mM 8 x4.toNatClampNeg) &&& 31))) ||| x9) fun (x11 : Int32) => nm (x4 + 1) fun (x12 : Int32) => rec5 x11 x12) (fun k10 => if (mM 2 x4.toNatClampNeg) = (3 : Int32) then (chkI x4 19 (bnd1 (MX5_next mM (mM 8 x4.toNatClampNeg) (1 : Int32)) fun (r15 : Int32) => k10 ((1 : Int32) <<< (r15 &&& 31)))) else (k10 (0 : Int32))))))
noncomputable def MX5_full (mM : GS) : Option (Int32) := jn1 (fun (x1 : Int32) => some (x1)) (fun k2 => lq2 (BX5_full_4 mM k2) FU (0 : Int32) (0 : Int32))
abbrev rmX5_full : Room := { frames := 2, cells := 0, slots := 0, locals := 80 }
set_option maxHeartbeats 4000000 in
set_option maxRecDepth 100000 in
theorem ctX5_full (l : Launch) (D : va_G) (Y : Nat → ClassId) (oM : Nat → Nat) (sz : Nat) (mM : GS) (tk : Int64) (rr : Int32) (hM : MX5_full mM = some (rr)) : Met l yX5_full wsX5_full rmX5_full (pcW [.ref (oM 0)] sz D Y (cMod Y oM mM tk)) (qiW rr D (cMod Y oM mM tk) (va_A (cMod Y oM mM tk) sz)) 0 0 (va_A (cMod Y oM mM tk) sz) := by
  refine Met.ofW (cc := cX5_full) (maxL := 3) (ret := (some .int)) (by decide) rfl ?_
  intro p e s m args below meth c s₁ B hml hv
  obtain ⟨rfl, hsz, hP, hK, hD0⟩ := hv
  have hx := B.exec
  have hb := B.bytes
  have hr := B.returns
  have hts := atoms_spec (ws := wsX5_full) B.pre
  have hown : s.vm.findClass RX5 = some m.cls := findClass_of_methodNamed B.named
  have hlocks := B.notSynchronized
  subst hsz
  have hD := hD0.self (sz := s.heap.size)
  generalize hAe : va_A (cMod Y oM mM tk) s.heap.size = A at hD ⊢
  have hA : ∀ q : Nat, s.heap.size ≤ q → A q := fun q h => by rw [← hAe]; exact Or.inr h
  have hS : va_S A s.heap s.heap [] := va_S.rf
  have hi5 : ∀ w ∈ wsX50, w ∈ wsX5_full := fun w h => List.mem_cons_of_mem _ (List.mem_append_right _ h)
  have hl := lv_entry ([.ref (oM 0)]) (n := 3) (Nat.le_of_ble_eq_true rfl)
  rw [lg_entry_eq]
  generalize (lg_sl ([.ref (oM 0)]) ++ List.replicate (3 - (lg_sl ([.ref (oM 0)])).length) Slot.unset).toArray = ls at hl ⊢
  have hl : lv_has ls 3 [(0, .ref (oM 0))] := hl
  obtain ⟨QQ, hQQ⟩ : ∃ Q : State → Prop, Q = MQ below (qiW rr D (cMod Y oM mM tk) A) ([.ref (oM 0)] : List Value).toArray s 0 0 A := ⟨_, rfl⟩
  rw [← hQQ]
  unfold MX5_full at hM
  suffices hI : ∀ (H : Heap) (locs : List Loc), va_P D vwCl (cMod Y oM mM tk) H → va_S A s.heap H locs → W p l e (headSpec wsX5_full rmX5_full).room s m ([.ref (oM 0)] : List Value).toArray below meth c H locs 0 0 QQ (F0 m 0 ls []) from hI _ _ hP hS
  clear hP hS
  intro H locs hP hS
  refine lv_iconst (v := (0 : Int32)) hx hb dX5_full_0 (by decide) ?_
  refine lv_istore_n (lv' := [(1, .int (0 : Int32)), (0, .ref (oM 0))]) hx hb dX5_full_1 rfl hl (by decide) rfl (fun ls hl => ?_)
  refine lv_iconst (v := (0 : Int32)) hx hb dX5_full_2 (by decide) ?_
  refine lv_istore_n (lv' := [(2, .int (0 : Int32)), (1, .int (0 : Int32)), (0, .ref (oM 0))]) hx hb dX5_full_3 rfl hl (by decide) rfl (fun ls hl => ?_)
  refine jn1_at (fun (x1 : Int32) => ∀ (H : Heap) (locs : List Loc) (ls : Array Slot), va_P D vwCl (cMod Y oM mM tk) H → va_S A s.heap H locs → lv_has ls 3 [(1, .int x1)] → W p l e (headSpec wsX5_full rmX5_full).room s m ([.ref (oM 0)] : List Value).toArray below meth c H locs 0 0 QQ (F0 m 57 ls [])) hM (fun x1 hM H locs ls hP hS hl => ?_) (fun k2 hJ2 hM => ?_)
  · refine lv_iload_n hx hb dX5_full_57 rfl (lv_at hl 0 rfl) ?_
    cases hM
    rw [hQQ]
    exact W.iret hx hb hr (fun t ht hW => ⟨⟨_, (), rfl, rfl, by show va_P D vwCl _ t.heap; rw [ht]; exact hP⟩, hS.F ht⟩) hS.2.2 dX5_full_58
  · refine lq2_at (fun (x3 : Int32) (x4 : Int32) => ∀ (H : Heap) (locs : List Loc) (ls : Array Slot), va_P D vwCl (cMod Y oM mM tk) H → va_S A s.heap H locs → lv_has ls 3 [(0, .ref (oM 0)), (1, .int x3), (2, .int x4)] → W p l e (headSpec wsX5_full rmX5_full).room s m ([.ref (oM 0)] : List Value).toArray below meth c H locs 0 0 QQ (F0 m 4 ls [])) (fun rec5 x3 x4 ih5 hM H locs ls hP hS hl => ?_) FU (0 : Int32) (0 : Int32) hM H locs ls hP hS (lv_sub hl [2, 1, 0] rfl)
    unfold BX5_full_4 at hM
    refine lv_iload_n hx hb dX5_full_4 rfl (lv_at hl 2 rfl) ?_
    refine lv_aload_n hx hb dX5_full_5 rfl (lv_at hl 0 rfl) ?_
    refine va_get hx hb hts hi5 hown hK hP 0 rfl rfl 2 (by decide) (hts (.fieldLink RX5 78 "NightPlotsModel" "houses" "I") (List.mem_of_getElem? (i := 1) rfl)) (fun _ h9 => h9) rfl dX5_full_6 ?_
    refine lv_icmp_ge (tgt := 57) hx hb dX5_full_9 (by decide) (fun c6 => ?_) (fun c6 => ?_)
    · replace hM := if_at_pos hM c6
      exact hJ2 x3 hM H locs ls hP hS (lv_sub hl [1] rfl)
    · replace hM := if_at_neg hM c6
      refine lv_iload_n hx hb dX5_full_12 rfl (lv_at hl 1 rfl) ?_
      refine lv_iconst (v := (1 : Int32)) hx hb dX5_full_13 (by decide) ?_
      refine lv_aload_n hx hb dX5_full_14 rfl (lv_at hl 0 rfl) ?_
      refine va_get hx hb hts hi5 hown hK hP 0 rfl rfl 26 (by decide) (hts (.fieldLink RX5 38 "NightPlotsModel" "now" "[I") (List.mem_of_getElem? (i := 2) rfl)) (fun _ h9 => h9) rfl dX5_full_15 ?_
      refine lv_iload_n hx hb dX5_full_18 rfl (lv_at hl 2 rfl) ?_
      obtain ⟨hi_7, hM⟩ := chkI_at hM
      refine va_iald hx hb hK hP 8 0 rfl rfl hi_7 dX5_full_19 ?_
      refine lv_ishl hx hb dX5_full_20 ?_
      refine lv_ior hx hb dX5_full_21 ?_
      refine lv_aload_n hx hb dX5_full_22 rfl (lv_at hl 0 rfl) ?_
      refine va_get hx hb hts hi5 hown hK hP 0 rfl rfl 3 (by decide) (hts (.fieldLink RX5 17 "NightPlotsModel" "kind" "[I") (List.mem_of_getElem? (i := 3) rfl)) (fun _ h9 => h9) rfl dX5_full_23 ?_
      refine lv_iload_n hx hb dX5_full_26 rfl (lv_at hl 2 rfl) ?_
      obtain ⟨hi_8, hM⟩ := chkI_at hM
      refine va_iald hx hb hK hP 2 0 rfl rfl hi_8 dX5_full_27 ?_
      refine lv_iconst (v := (3 : Int32)) hx hb dX5_full_28 (by decide) ?_
      refine jn1_at (fun (x9 : Int32) => ∀ (H : Heap) (locs : List Loc) (ls : Array Slot), va_P D vwCl (cMod Y oM mM tk) H → va_S A s.heap H locs → lv_has ls 3 [(0, .ref (oM 0)), (2, .int x4)] → W p l e (headSpec wsX5_full rmX5_full).room s m ([.ref (oM 0)] : List Value).toArray below meth c H locs 0 0 QQ (F0 m 49 ls [.int x9, .int (x3 ||| ((1 : Int32) <<< ((mM 8 x4.toNatClampNeg) &&& 31)))])) hM (fun x9 hM H locs ls hP hS hl => ?_) (fun k10 hJ10 hM => ?_)
      · refine lv_ior hx hb dX5_full_49 ?_
        refine lv_topi (fun x11 ex11 => ?_)
        replace hM := nm_at hM ex11
        refine lv_istore_n (lv' := [(1, .int x11), (0, .ref (oM 0)), (2, .int x4)]) hx hb dX5_full_50 rfl hl (by decide) rfl (fun ls hl => ?_)
        obtain ⟨x12, ex12⟩ : ∃ z : Int32, z = (x4 + 1) := ⟨_, rfl⟩
        replace hM := nm_at hM ex12
        refine lv_iinc (v := x12) (lv' := [(2, .int x12), (1, .int x11), (0, .ref (oM 0))]) hx hb dX5_full_51 hl (k := 2) rfl (by rw [ex12]; rfl) (by decide) rfl (fun ls hl => ?_)
        refine lv_goto (tgt := 4) hx hb dX5_full_54 (by decide) ?_
        exact ih5 x11 x12 hM H locs ls hP hS (lv_sub hl [2, 1, 0] rfl)
      · refine lv_icmp_ne (tgt := 48) hx hb dX5_full_29 (by decide) (fun c13 => ?_) (fun c13 => ?_)
        · replace hM := if_at_neg hM c13
          refine lv_iconst (v := (0 : Int32)) hx hb dX5_full_48 (by decide) ?_
          exact hJ10 (0 : Int32) hM H locs ls hP hS (lv_sub hl [0, 2] rfl)
        · replace hM := if_at_pos hM c13
          refine lv_iconst (v := (1 : Int32)) hx hb dX5_full_32 (by decide) ?_
          refine lv_aload_n hx hb dX5_full_33 rfl (lv_at hl 0 rfl) ?_
          refine lv_aload_n hx hb dX5_full_34 rfl (lv_at hl 0 rfl) ?_
          refine va_get hx hb hts hi5 hown hK hP 0 rfl rfl 26 (by decide) (hts (.fieldLink RX5 38 "NightPlotsModel" "now" "[I") (List.mem_of_getElem? (i := 2) rfl)) (fun _ h9 => h9) rfl dX5_full_35 ?_
          refine lv_iload_n hx hb dX5_full_38 rfl (lv_at hl 2 rfl) ?_
          obtain ⟨hi_14, hM⟩ := chkI_at hM
          refine va_iald hx hb hK hP 8 0 rfl rfl hi_14 dX5_full_39 ?_
          refine lv_iconst (v := (1 : Int32)) hx hb dX5_full_40 (by decide) ?_
          obtain ⟨r15, hc16, hM⟩ := bnd1_at hM
          refine co_i (va_runV (As := [.int (mM 8 x4.toNatClampNeg), .int (1 : Int32)]) (rest := [.int (1 : Int32), .int (x3 ||| ((1 : Int32) <<< ((mM 8 x4.toNatClampNeg) &&& 31)))]) ⟨hx, hb, hml, hown, hts⟩ (ctX5_next l D Y oM H.size mM tk (mM 8 x4.toNatClampNeg) (1 : Int32) r15 hc16) (cwV 2 hts gX5_full_X5_next rfl rfl rfl (by decide +kernel) ⟨Nat.le_of_ble_eq_true rfl, Nat.le_of_ble_eq_true rfl⟩) (pcW_V0 (ci := 5) (q0 := 0) hK hP (hD.same rfl) rfl rfl) rfl rfl hl.1 rfl (lv_room (Nat.le_of_ble_eq_true rfl)) dX5_full_41 ⟨Nat.zero_le _, Nat.zero_le _⟩) (hD.same rfl) hS hA (fun H locs hP hS => ?_)
          refine lv_ishl hx hb dX5_full_44 ?_
          refine lv_goto (tgt := 49) hx hb dX5_full_45 (by decide) ?_
          exact hJ10 ((1 : Int32) <<< (r15 &&& 31)) hM H locs ls hP hS (lv_sub hl [0, 2] rfl)
noncomputable def MX5_standsOn (mM : GS) (i1 : Int32) (i2 : Int32) : Option (Int32) := chkI i1 19 (jn1 (fun (x2 : Int32) => chkB x2 (some (x2))) (fun k3 => jn0 (k3 (1 : Int32)) (fun k5 => if (mM 8 i1.toNatClampNeg) = i2 then (k5) else (chkI i1 8 (jn0 (k3 (0 : Int32)) (fun k8 => if (mM 2 i1.toNatClampNeg) = (3 : Int32) then (chkI i1 19 (bnd1 (MX5_next mM (mM 8 i1.toNatClampNeg) (1 : Int32)) fun (r11 : Int32) => if r11 = i2 then (k5) else (k8))) else (k8)))))))
abbrev rmX5_standsOn : Room := { frames := 2, cells := 0, slots := 0, locals := 80 }
set_option maxHeartbeats 4000000 in
set_option maxRecDepth 100000 in
theorem ctX5_standsOn (l : Launch) (D : va_G) (Y : Nat → ClassId) (oM : Nat → Nat) (sz : Nat) (mM : GS) (tk : Int64) (i1 : Int32) (i2 : Int32) (rr : Int32) (hM : MX5_standsOn mM i1 i2 = some (rr)) : Met l yX5_standsOn wsX5_standsOn rmX5_standsOn (pcW [.ref (oM 0), .int i1, .int i2] sz D Y (cMod Y oM mM tk)) (qiW rr D (cMod Y oM mM tk) (va_A (cMod Y oM mM tk) sz)) 0 0 (va_A (cMod Y oM mM tk) sz) := by
  refine Met.ofW (cc := cX5_standsOn) (maxL := 3) (ret := (some .boolean)) (by decide) rfl ?_
  intro p e s m args below meth c s₁ B hml hv
  obtain ⟨rfl, hsz, hP, hK, hD0⟩ := hv
  have hx := B.exec
  have hb := B.bytes
  have hr := B.returns
  have hts := atoms_spec (ws := wsX5_standsOn) B.pre
  have hown : s.vm.findClass RX5 = some m.cls := findClass_of_methodNamed B.named
  have hlocks := B.notSynchronized
  subst hsz
  have hD := hD0.self (sz := s.heap.size)
  generalize hAe : va_A (cMod Y oM mM tk) s.heap.size = A at hD ⊢
  have hA : ∀ q : Nat, s.heap.size ≤ q → A q := fun q h => by rw [← hAe]; exact Or.inr h
  have hS : va_S A s.heap s.heap [] := va_S.rf
  have hi5 : ∀ w ∈ wsX50, w ∈ wsX5_standsOn := fun w h => List.mem_cons_of_mem _ (List.mem_append_right _ h)
  have hl := lv_entry ([.ref (oM 0), .int i1, .int i2]) (n := 3) (Nat.le_of_ble_eq_true rfl)
  rw [lg_entry_eq]
  generalize (lg_sl ([.ref (oM 0), .int i1, .int i2]) ++ List.replicate (3 - (lg_sl ([.ref (oM 0), .int i1, .int i2])).length) Slot.unset).toArray = ls at hl ⊢
  have hl : lv_has ls 3 [(0, .ref (oM 0)), (1, .int i1), (2, .int i2)] := hl
  obtain ⟨QQ, hQQ⟩ : ∃ Q : State → Prop, Q = MQ below (qiW rr D (cMod Y oM mM tk) A) ([.ref (oM 0), .int i1, .int i2] : List Value).toArray s 0 0 A := ⟨_, rfl⟩
  rw [← hQQ]
  unfold MX5_standsOn at hM
  suffices hI : ∀ (H : Heap) (locs : List Loc), va_P D vwCl (cMod Y oM mM tk) H → va_S A s.heap H locs → W p l e (headSpec wsX5_standsOn rmX5_standsOn).room s m ([.ref (oM 0), .int i1, .int i2] : List Value).toArray below meth c H locs 0 0 QQ (F0 m 0 ls []) from hI _ _ hP hS
  clear hP hS
  intro H locs hP hS
  refine lv_aload_n hx hb dX5_standsOn_0 rfl (lv_at hl 0 rfl) ?_
  refine va_get hx hb hts hi5 hown hK hP 0 rfl rfl 26 (by decide) (hts (.fieldLink RX5 38 "NightPlotsModel" "now" "[I") (List.mem_of_getElem? (i := 1) rfl)) (fun _ h9 => h9) rfl dX5_standsOn_1 ?_
  refine lv_iload_n hx hb dX5_standsOn_4 rfl (lv_at hl 1 rfl) ?_
  obtain ⟨hi_1, hM⟩ := chkI_at hM
  refine va_iald hx hb hK hP 8 0 rfl rfl hi_1 dX5_standsOn_5 ?_
  refine lv_iload_n hx hb dX5_standsOn_6 rfl (lv_at hl 2 rfl) ?_
  refine jn1_at (fun (x2 : Int32) => ∀ (H : Heap) (locs : List Loc) (ls : Array Slot), va_P D vwCl (cMod Y oM mM tk) H → va_S A s.heap H locs → lv_has ls 3 [] → W p l e (headSpec wsX5_standsOn rmX5_standsOn).room s m ([.ref (oM 0), .int i1, .int i2] : List Value).toArray below meth c H locs 0 0 QQ (F0 m 40 ls [.int x2])) hM (fun x2 hM H locs ls hP hS hl => ?_) (fun k3 hJ3 hM => ?_)
  · obtain ⟨hz4, hM⟩ := chkB_at hM
    cases hM
    rw [hQQ]
    exact W.zret (ty := .boolean) hx hb hr hz4 (fun t ht hW => ⟨⟨_, (), rfl, rfl, by show va_P D vwCl _ t.heap; rw [ht]; exact hP⟩, hS.F ht⟩) hS.2.2 dX5_standsOn_40
  · refine jn0_at (∀ (H : Heap) (locs : List Loc) (ls : Array Slot), va_P D vwCl (cMod Y oM mM tk) H → va_S A s.heap H locs → lv_has ls 3 [] → W p l e (headSpec wsX5_standsOn rmX5_standsOn).room s m ([.ref (oM 0), .int i1, .int i2] : List Value).toArray below meth c H locs 0 0 QQ (F0 m 35 ls [])) hM (fun  hM H locs ls hP hS hl => ?_) (fun k5 hJ5 hM => ?_)
    · refine lv_iconst (v := (1 : Int32)) hx hb dX5_standsOn_35 (by decide) ?_
      refine lv_goto (tgt := 40) hx hb dX5_standsOn_36 (by decide) ?_
      exact hJ3 (1 : Int32) hM H locs ls hP hS (lv_sub hl [] rfl)
    · refine lv_icmp_eq (tgt := 35) hx hb dX5_standsOn_7 (by decide) (fun c6 => ?_) (fun c6 => ?_)
      · replace hM := if_at_pos hM c6
        exact hJ5 hM H locs ls hP hS (lv_sub hl [] rfl)
      · replace hM := if_at_neg hM c6
        refine lv_aload_n hx hb dX5_standsOn_10 rfl (lv_at hl 0 rfl) ?_
        refine va_get hx hb hts hi5 hown hK hP 0 rfl rfl 3 (by decide) (hts (.fieldLink RX5 17 "NightPlotsModel" "kind" "[I") (List.mem_of_getElem? (i := 2) rfl)) (fun _ h9 => h9) rfl dX5_standsOn_11 ?_
        refine lv_iload_n hx hb dX5_standsOn_14 rfl (lv_at hl 1 rfl) ?_
        obtain ⟨hi_7, hM⟩ := chkI_at hM
        refine va_iald hx hb hK hP 2 0 rfl rfl hi_7 dX5_standsOn_15 ?_
        refine lv_iconst (v := (3 : Int32)) hx hb dX5_standsOn_16 (by decide) ?_
        refine jn0_at (∀ (H : Heap) (locs : List Loc) (ls : Array Slot), va_P D vwCl (cMod Y oM mM tk) H → va_S A s.heap H locs → lv_has ls 3 [] → W p l e (headSpec wsX5_standsOn rmX5_standsOn).room s m ([.ref (oM 0), .int i1, .int i2] : List Value).toArray below meth c H locs 0 0 QQ (F0 m 39 ls [])) hM (fun  hM H locs ls hP hS hl => ?_) (fun k8 hJ8 hM => ?_)
        · refine lv_iconst (v := (0 : Int32)) hx hb dX5_standsOn_39 (by decide) ?_
          exact hJ3 (0 : Int32) hM H locs ls hP hS (lv_sub hl [] rfl)
        · refine lv_icmp_ne (tgt := 39) hx hb dX5_standsOn_17 (by decide) (fun c9 => ?_) (fun c9 => ?_)
          · replace hM := if_at_neg hM c9
            exact hJ8 hM H locs ls hP hS (lv_sub hl [] rfl)
          · replace hM := if_at_pos hM c9
            refine lv_aload_n hx hb dX5_standsOn_20 rfl (lv_at hl 0 rfl) ?_
            refine lv_aload_n hx hb dX5_standsOn_21 rfl (lv_at hl 0 rfl) ?_
            refine va_get hx hb hts hi5 hown hK hP 0 rfl rfl 26 (by decide) (hts (.fieldLink RX5 38 "NightPlotsModel" "now" "[I") (List.mem_of_getElem? (i := 1) rfl)) (fun _ h9 => h9) rfl dX5_standsOn_22 ?_
            refine lv_iload_n hx hb dX5_standsOn_25 rfl (lv_at hl 1 rfl) ?_
            obtain ⟨hi_10, hM⟩ := chkI_at hM
            refine va_iald hx hb hK hP 8 0 rfl rfl hi_10 dX5_standsOn_26 ?_
            refine lv_iconst (v := (1 : Int32)) hx hb dX5_standsOn_27 (by decide) ?_
            obtain ⟨r11, hc12, hM⟩ := bnd1_at hM
            refine co_i (va_runV (As := [.int (mM 8 i1.toNatClampNeg), .int (1 : Int32)]) (rest := []) ⟨hx, hb, hml, hown, hts⟩ (ctX5_next l D Y oM H.size mM tk (mM 8 i1.toNatClampNeg) (1 : Int32) r11 hc12) (cwV 2 hts gX5_standsOn_X5_next rfl rfl rfl (by decide +kernel) ⟨Nat.le_of_ble_eq_true rfl, Nat.le_of_ble_eq_true rfl⟩) (pcW_V0 (ci := 5) (q0 := 0) hK hP (hD.same rfl) rfl rfl) rfl rfl hl.1 rfl (lv_room (Nat.le_of_ble_eq_true rfl)) dX5_standsOn_28 ⟨Nat.zero_le _, Nat.zero_le _⟩) (hD.same rfl) hS hA (fun H locs hP hS => ?_)
            refine lv_iload_n hx hb dX5_standsOn_31 rfl (lv_at hl 2 rfl) ?_
            refine lv_icmp_ne (tgt := 39) hx hb dX5_standsOn_32 (by decide) (fun c13 => ?_) (fun c13 => ?_)
            · replace hM := if_at_neg hM c13
              exact hJ8 hM H locs ls hP hS (lv_sub hl [] rfl)
            · replace hM := if_at_pos hM c13
              exact hJ5 hM H locs ls hP hS (lv_sub hl [] rfl)
noncomputable def BX5_plot_28 (mM : GS) (k8 : Int32 → Option (Int32)) (i1 : Int32) (rec15 : Int32 → Int32 → Option (Int32)) (x13 : Int32) (x14 : Int32) : Option (Int32) := if (mM 0 2) ≤ x14 then (k8 x13) else (bnd1 (MX5_standsOn mM x14 i1) fun (r17 : Int32) => jn1 (fun (x19 : Int32) => nm (x14 + 1) fun (x21 : Int32) => rec15 x19 x21) (fun k20 => if r17 = 0 then (k20 x13) else (k20 x14)))
noncomputable def MX5_plot (mM : GS) (i1 : Int32) (i2 : Int32) : Option (Int32) := bnd1 (MX5_isPlot mM i1) fun (r1 : Int32) => if r1 = 0 then (some ((-2 : Int32))) else (bnd1 (MX5_in i2 (0 : Int32) (1 : Int32)) fun (r4 : Int32) => if r4 = 0 then (some ((-3 : Int32))) else (jn1 (fun (x7 : Int32) => jn1 (fun (x9 : Int32) => some (x9)) (fun k10 => if i2 = 0 then (k10 x7) else (chkI i1 12 (k10 (mM 1 i1.toNatClampNeg))))) (fun k8 => lq2 (BX5_plot_28 mM k8 i1) FU (-1 : Int32) (0 : Int32))))
abbrev rmX5_plot : Room := { frames := 3, cells := 0, slots := 0, locals := 120 }
set_option maxHeartbeats 4000000 in
set_option maxRecDepth 100000 in
theorem ctX5_plot (l : Launch) (D : va_G) (Y : Nat → ClassId) (oM : Nat → Nat) (sz : Nat) (mM : GS) (tk : Int64) (i1 : Int32) (i2 : Int32) (rr : Int32) (hM : MX5_plot mM i1 i2 = some (rr)) : Met l yX5_plot wsX5_plot rmX5_plot (pcW [.ref (oM 0), .int i1, .int i2] sz D Y (cMod Y oM mM tk)) (qiW rr D (cMod Y oM mM tk) (va_A (cMod Y oM mM tk) sz)) 0 0 (va_A (cMod Y oM mM tk) sz) := by
  refine Met.ofW (cc := cX5_plot) (maxL := 5) (ret := (some .int)) (by decide) rfl ?_
  intro p e s m args below meth c s₁ B hml hv
  obtain ⟨rfl, hsz, hP, hK, hD0⟩ := hv
  have hx := B.exec
  have hb := B.bytes
  have hr := B.returns
  have hts := atoms_spec (ws := wsX5_plot) B.pre
  have hown : s.vm.findClass RX5 = some m.cls := findClass_of_methodNamed B.named
  have hlocks := B.notSynchronized
  subst hsz
  have hD := hD0.self (sz := s.heap.size)
  generalize hAe : va_A (cMod Y oM mM tk) s.heap.size = A at hD ⊢
  have hA : ∀ q : Nat, s.heap.size ≤ q → A q := fun q h => by rw [← hAe]; exact Or.inr h
  have hS : va_S A s.heap s.heap [] := va_S.rf
  have hi5 : ∀ w ∈ wsX50, w ∈ wsX5_plot := fun w h => List.mem_cons_of_mem _ (List.mem_append_right _ h)
  have hl := lv_entry ([.ref (oM 0), .int i1, .int i2]) (n := 5) (Nat.le_of_ble_eq_true rfl)
  rw [lg_entry_eq]
  generalize (lg_sl ([.ref (oM 0), .int i1, .int i2]) ++ List.replicate (5 - (lg_sl ([.ref (oM 0), .int i1, .int i2])).length) Slot.unset).toArray = ls at hl ⊢
  have hl : lv_has ls 5 [(0, .ref (oM 0)), (1, .int i1), (2, .int i2)] := hl
  obtain ⟨QQ, hQQ⟩ : ∃ Q : State → Prop, Q = MQ below (qiW rr D (cMod Y oM mM tk) A) ([.ref (oM 0), .int i1, .int i2] : List Value).toArray s 0 0 A := ⟨_, rfl⟩
  rw [← hQQ]
  unfold MX5_plot at hM
  suffices hI : ∀ (H : Heap) (locs : List Loc), va_P D vwCl (cMod Y oM mM tk) H → va_S A s.heap H locs → W p l e (headSpec wsX5_plot rmX5_plot).room s m ([.ref (oM 0), .int i1, .int i2] : List Value).toArray below meth c H locs 0 0 QQ (F0 m 0 ls []) from hI _ _ hP hS
  clear hP hS
  intro H locs hP hS
  refine lv_aload_n hx hb dX5_plot_0 rfl (lv_at hl 0 rfl) ?_
  refine lv_iload_n hx hb dX5_plot_1 rfl (lv_at hl 1 rfl) ?_
  obtain ⟨r1, hc2, hM⟩ := bnd1_at hM
  refine co_i (va_runV (As := [.int i1]) (rest := []) ⟨hx, hb, hml, hown, hts⟩ (ctX5_isPlot l D Y oM H.size mM tk i1 r1 hc2) (cwV 1 hts gX5_plot_X5_isPlot rfl rfl rfl (by decide +kernel) ⟨Nat.le_of_ble_eq_true rfl, Nat.le_of_ble_eq_true rfl⟩) (pcW_V0 (ci := 5) (q0 := 0) hK hP (hD.same rfl) rfl rfl) rfl rfl hl.1 rfl (lv_room (Nat.le_of_ble_eq_true rfl)) dX5_plot_2 ⟨Nat.zero_le _, Nat.zero_le _⟩) (hD.same rfl) hS hA (fun H locs hP hS => ?_)
  refine lv_if_ne (tgt := 11) hx hb dX5_plot_5 (by decide) (fun c3 => ?_) (fun c3 => ?_)
  · replace hM := if_at_neg hM c3
    refine lv_iload_n hx hb dX5_plot_11 rfl (lv_at hl 2 rfl) ?_
    refine lv_iconst (v := (0 : Int32)) hx hb dX5_plot_12 (by decide) ?_
    refine lv_iconst (v := (1 : Int32)) hx hb dX5_plot_13 (by decide) ?_
    obtain ⟨r4, hc5, hM⟩ := bnd1_at hM
    refine cm_i (w2 := (cMod Y oM mM tk)) (va_runS (As := [.int i2, .int (0 : Int32), .int (1 : Int32)]) (rest := []) ⟨hx, hb, hml, hown, hts⟩ (ctX5_in l D Y H.size i2 (0 : Int32) (1 : Int32) r4 hc5) (cwS 3 hts gX5_plot_X5_in rfl rfl rfl (by decide +kernel) ⟨Nat.le_of_ble_eq_true rfl, Nat.le_of_ble_eq_true rfl⟩) (pcW_S hK hP (hD.same rfl) [] rfl (pc_map pc_nil)) rfl rfl hl.1 rfl (lv_room (Nat.le_of_ble_eq_true rfl)) dX5_plot_14 ⟨Nat.zero_le _, Nat.zero_le _⟩) hP (hD.same rfl) hS hA [] (pc_map pc_nil) (up_old rfl rfl (up_old rfl rfl (up_old rfl rfl (up_old rfl rfl (up_old rfl rfl (up_old rfl rfl (up_old rfl rfl (up_old rfl rfl (up_old rfl rfl (up_old rfl rfl (up_old rfl rfl (up_old rfl rfl (up_old rfl rfl (up_old rfl rfl (up_old rfl rfl (up_old rfl rfl (up_old rfl rfl (up_old rfl rfl (up_old rfl rfl up_nil))))))))))))))))))) (fun H locs hP hS => ?_)
    refine lv_if_ne (tgt := 23) hx hb dX5_plot_17 (by decide) (fun c6 => ?_) (fun c6 => ?_)
    · replace hM := if_at_neg hM c6
      refine lv_iconst (v := (-1 : Int32)) hx hb dX5_plot_23 (by decide) ?_
      refine lv_istore_n (lv' := [(3, .int (-1 : Int32)), (0, .ref (oM 0)), (1, .int i1), (2, .int i2)]) hx hb dX5_plot_24 rfl hl (by decide) rfl (fun ls hl => ?_)
      refine lv_iconst (v := (0 : Int32)) hx hb dX5_plot_25 (by decide) ?_
      refine lv_istore (lv' := [(4, .int (0 : Int32)), (3, .int (-1 : Int32)), (0, .ref (oM 0)), (1, .int i1), (2, .int i2)]) hx hb dX5_plot_26 hl (by decide) rfl (fun ls hl => ?_)
      refine jn1_at (fun (x7 : Int32) => ∀ (H : Heap) (locs : List Loc) (ls : Array Slot), va_P D vwCl (cMod Y oM mM tk) H → va_S A s.heap H locs → lv_has ls 5 [(0, .ref (oM 0)), (1, .int i1), (2, .int i2), (3, .int x7)] → W p l e (headSpec wsX5_plot rmX5_plot).room s m ([.ref (oM 0), .int i1, .int i2] : List Value).toArray below meth c H locs 0 0 QQ (F0 m 60 ls [])) hM (fun x7 hM H locs ls hP hS hl => ?_) (fun k8 hJ8 hM => ?_)
      · refine lv_iload_n hx hb dX5_plot_60 rfl (lv_at hl 2 rfl) ?_
        refine jn1_at (fun (x9 : Int32) => ∀ (H : Heap) (locs : List Loc) (ls : Array Slot), va_P D vwCl (cMod Y oM mM tk) H → va_S A s.heap H locs → lv_has ls 5 [] → W p l e (headSpec wsX5_plot rmX5_plot).room s m ([.ref (oM 0), .int i1, .int i2] : List Value).toArray below meth c H locs 0 0 QQ (F0 m 74 ls [.int x9])) hM (fun x9 hM H locs ls hP hS hl => ?_) (fun k10 hJ10 hM => ?_)
        · cases hM
          rw [hQQ]
          exact W.iret hx hb hr (fun t ht hW => ⟨⟨_, (), rfl, rfl, by show va_P D vwCl _ t.heap; rw [ht]; exact hP⟩, hS.F ht⟩) hS.2.2 dX5_plot_74
        · refine lv_if_ne (tgt := 68) hx hb dX5_plot_61 (by decide) (fun c11 => ?_) (fun c11 => ?_)
          · replace hM := if_at_neg hM c11
            refine lv_aload_n hx hb dX5_plot_68 rfl (lv_at hl 0 rfl) ?_
            refine va_get hx hb hts hi5 hown hK hP 0 rfl rfl 1 (by decide) (hts (.fieldLink RX5 13 "NightPlotsModel" "crop" "[I") (List.mem_of_getElem? (i := 2) rfl)) (fun _ h9 => h9) rfl dX5_plot_69 ?_
            refine lv_iload_n hx hb dX5_plot_72 rfl (lv_at hl 1 rfl) ?_
            obtain ⟨hi_12, hM⟩ := chkI_at hM
            refine va_iald hx hb hK hP 1 0 rfl rfl hi_12 dX5_plot_73 ?_
            exact hJ10 (mM 1 i1.toNatClampNeg) hM H locs ls hP hS (lv_sub hl [] rfl)
          · replace hM := if_at_pos hM c11
            refine lv_iload_n hx hb dX5_plot_64 rfl (lv_at hl 3 rfl) ?_
            refine lv_goto (tgt := 74) hx hb dX5_plot_65 (by decide) ?_
            exact hJ10 x7 hM H locs ls hP hS (lv_sub hl [] rfl)
      · refine lq2_at (fun (x13 : Int32) (x14 : Int32) => ∀ (H : Heap) (locs : List Loc) (ls : Array Slot), va_P D vwCl (cMod Y oM mM tk) H → va_S A s.heap H locs → lv_has ls 5 [(0, .ref (oM 0)), (1, .int i1), (2, .int i2), (3, .int x13), (4, .int x14)] → W p l e (headSpec wsX5_plot rmX5_plot).room s m ([.ref (oM 0), .int i1, .int i2] : List Value).toArray below meth c H locs 0 0 QQ (F0 m 28 ls [])) (fun rec15 x13 x14 ih15 hM H locs ls hP hS hl => ?_) FU (-1 : Int32) (0 : Int32) hM H locs ls hP hS (lv_sub hl [2, 3, 4, 1, 0] rfl)
        unfold BX5_plot_28 at hM
        refine lv_iload hx hb dX5_plot_28 (lv_at hl 4 rfl) ?_
        refine lv_aload_n hx hb dX5_plot_30 rfl (lv_at hl 0 rfl) ?_
        refine va_get hx hb hts hi5 hown hK hP 0 rfl rfl 2 (by decide) (hts (.fieldLink RX5 78 "NightPlotsModel" "houses" "I") (List.mem_of_getElem? (i := 1) rfl)) (fun _ h9 => h9) rfl dX5_plot_31 ?_
        refine lv_icmp_ge (tgt := 60) hx hb dX5_plot_34 (by decide) (fun c16 => ?_) (fun c16 => ?_)
        · replace hM := if_at_pos hM c16
          exact hJ8 x13 hM H locs ls hP hS (lv_sub hl [0, 1, 2, 3] rfl)
        · replace hM := if_at_neg hM c16
          refine lv_aload_n hx hb dX5_plot_37 rfl (lv_at hl 0 rfl) ?_
          refine lv_iload hx hb dX5_plot_38 (lv_at hl 4 rfl) ?_
          refine lv_iload_n hx hb dX5_plot_40 rfl (lv_at hl 1 rfl) ?_
          obtain ⟨r17, hc18, hM⟩ := bnd1_at hM
          refine co_i (va_runV (As := [.int x14, .int i1]) (rest := []) ⟨hx, hb, hml, hown, hts⟩ (ctX5_standsOn l D Y oM H.size mM tk x14 i1 r17 hc18) (cwV 2 hts gX5_plot_X5_standsOn rfl rfl rfl (by decide +kernel) ⟨Nat.le_of_ble_eq_true rfl, Nat.le_of_ble_eq_true rfl⟩) (pcW_V0 (ci := 5) (q0 := 0) hK hP (hD.same rfl) rfl rfl) rfl rfl hl.1 rfl (lv_room (Nat.le_of_ble_eq_true rfl)) dX5_plot_41 ⟨Nat.zero_le _, Nat.zero_le _⟩) (hD.same rfl) hS hA (fun H locs hP hS => ?_)
          refine jn1_at (fun (x19 : Int32) => ∀ (H : Heap) (locs : List Loc) (ls : Array Slot), va_P D vwCl (cMod Y oM mM tk) H → va_S A s.heap H locs → lv_has ls 5 [(0, .ref (oM 0)), (1, .int i1), (2, .int i2), (4, .int x14)] → W p l e (headSpec wsX5_plot rmX5_plot).room s m ([.ref (oM 0), .int i1, .int i2] : List Value).toArray below meth c H locs 0 0 QQ (F0 m 53 ls [.int x19])) hM (fun x19 hM H locs ls hP hS hl => ?_) (fun k20 hJ20 hM => ?_)
          · refine lv_istore_n (lv' := [(3, .int x19), (0, .ref (oM 0)), (1, .int i1), (2, .int i2), (4, .int x14)]) hx hb dX5_plot_53 rfl hl (by decide) rfl (fun ls hl => ?_)
            obtain ⟨x21, ex21⟩ : ∃ z : Int32, z = (x14 + 1) := ⟨_, rfl⟩
            replace hM := nm_at hM ex21
            refine lv_iinc (v := x21) (lv' := [(4, .int x21), (3, .int x19), (0, .ref (oM 0)), (1, .int i1), (2, .int i2)]) hx hb dX5_plot_54 hl (k := 4) rfl (by rw [ex21]; rfl) (by decide) rfl (fun ls hl => ?_)
            refine lv_goto (tgt := 28) hx hb dX5_plot_57 (by decide) ?_
            exact ih15 x19 x21 hM H locs ls hP hS (lv_sub hl [2, 3, 4, 1, 0] rfl)
          · refine lv_if_eq (tgt := 52) hx hb dX5_plot_44 (by decide) (fun c22 => ?_) (fun c22 => ?_)
            · replace hM := if_at_pos hM c22
              refine lv_iload_n hx hb dX5_plot_52 rfl (lv_at hl 3 rfl) ?_
              exact hJ20 x13 hM H locs ls hP hS (lv_sub hl [0, 1, 2, 4] rfl)
            · replace hM := if_at_neg hM c22
              refine lv_iload hx hb dX5_plot_47 (lv_at hl 4 rfl) ?_
              refine lv_goto (tgt := 53) hx hb dX5_plot_49 (by decide) ?_
              exact hJ20 x14 hM H locs ls hP hS (lv_sub hl [0, 1, 2, 4] rfl)
    · replace hM := if_at_pos hM c6
      refine lv_bipush (v := (-3 : Int32)) hx hb dX5_plot_20 (by decide) ?_
      cases hM
      rw [hQQ]
      exact W.iret hx hb hr (fun t ht hW => ⟨⟨_, (), rfl, rfl, by show va_P D vwCl _ t.heap; rw [ht]; exact hP⟩, hS.F ht⟩) hS.2.2 dX5_plot_22
  · replace hM := if_at_pos hM c3
    refine lv_bipush (v := (-2 : Int32)) hx hb dX5_plot_8 (by decide) ?_
    cases hM
    rw [hQQ]
    exact W.iret hx hb hr (fun t ht hW => ⟨⟨_, (), rfl, rfl, by show va_P D vwCl _ t.heap; rw [ht]; exact hP⟩, hS.F ht⟩) hS.2.2 dX5_plot_10
noncomputable def MX5_addWay (mM : GS) (i1 : Int32) (i2 : Int32) : Option (GS) := jn1 (fun (mM_1 : GS) => some (mM_1)) (fun k2 => if i1 = 0 then (k2 mM) else (chkI (mM 0 32) 8 (nm (upA mM 13 (upd (mM 13) (mM 0 32).toNatClampNeg i2)) fun (mM_5 : GS) => nm ((mM_5 0 32) + (1 : Int32)) fun (x6 : Int32) => nm (up2 mM_5 0 32 x6) fun (mM_7 : GS) => k2 mM_7)))
abbrev rmX5_addWay : Room := { frames := 1, cells := 0, slots := 0, locals := 40 }
set_option maxHeartbeats 4000000 in
set_option maxRecDepth 100000 in
theorem ctX5_addWay (l : Launch) (D : va_G) (Y : Nat → ClassId) (oM : Nat → Nat) (sz : Nat) (mM : GS) (tk : Int64) (i1 : Int32) (i2 : Int32) (mMz : GS) (hM : MX5_addWay mM i1 i2 = some (mMz)) : Met l yX5_addWay wsX5_addWay rmX5_addWay (pcW [.ref (oM 0), .int i1, .int i2] sz D Y (cMod Y oM mM tk)) (qvW D (cMod Y oM mMz tk) (va_A (cMod Y oM mM tk) sz)) 0 0 (va_A (cMod Y oM mM tk) sz) := by
  refine Met.ofW (cc := cX5_addWay) (maxL := 3) (ret := (none)) (by decide) rfl ?_
  intro p e s m args below meth c s₁ B hml hv
  obtain ⟨rfl, hsz, hP, hK, hD0⟩ := hv
  have hx := B.exec
  have hb := B.bytes
  have hr := B.returns
  have hts := atoms_spec (ws := wsX5_addWay) B.pre
  have hown : s.vm.findClass RX5 = some m.cls := findClass_of_methodNamed B.named
  have hlocks := B.notSynchronized
  subst hsz
  have hD := hD0.self (sz := s.heap.size)
  generalize hAe : va_A (cMod Y oM mM tk) s.heap.size = A at hD ⊢
  have hA : ∀ q : Nat, s.heap.size ≤ q → A q := fun q h => by rw [← hAe]; exact Or.inr h
  have hS : va_S A s.heap s.heap [] := va_S.rf
  have hi5 : ∀ w ∈ wsX50, w ∈ wsX5_addWay := fun w h => List.mem_cons_of_mem _ (List.mem_append_right _ h)
  have hl := lv_entry ([.ref (oM 0), .int i1, .int i2]) (n := 3) (Nat.le_of_ble_eq_true rfl)
  rw [lg_entry_eq]
  generalize (lg_sl ([.ref (oM 0), .int i1, .int i2]) ++ List.replicate (3 - (lg_sl ([.ref (oM 0), .int i1, .int i2])).length) Slot.unset).toArray = ls at hl ⊢
  have hl : lv_has ls 3 [(0, .ref (oM 0)), (1, .int i1), (2, .int i2)] := hl
  obtain ⟨QQ, hQQ⟩ : ∃ Q : State → Prop, Q = MQ below (qvW D (cMod Y oM mMz tk) A) ([.ref (oM 0), .int i1, .int i2] : List Value).toArray s 0 0 A := ⟨_, rfl⟩
  rw [← hQQ]
  unfold MX5_addWay at hM
  suffices hI : ∀ (H : Heap) (locs : List Loc), va_P D vwCl (cMod Y oM mM tk) H → va_S A s.heap H locs → W p l e (headSpec wsX5_addWay rmX5_addWay).room s m ([.ref (oM 0), .int i1, .int i2] : List Value).toArray below meth c H locs 0 0 QQ (F0 m 0 ls []) from hI _ _ hP hS
  clear hP hS
  intro H locs hP hS
  refine lv_iload_n hx hb dX5_addWay_0 rfl (lv_at hl 1 rfl) ?_
  refine jn1_at (fun (mM_1 : GS) => ∀ (H : Heap) (locs : List Loc) (ls : Array Slot), va_P D vwCl (cMod Y oM mM_1 tk) H → va_S A s.heap H locs → lv_has ls 3 [] → W p l e (headSpec wsX5_addWay rmX5_addWay).room s m ([.ref (oM 0), .int i1, .int i2] : List Value).toArray below meth c H locs 0 0 QQ (F0 m 24 ls [])) hM (fun mM_1 hM H locs ls hP hS hl => ?_) (fun k2 hJ2 hM => ?_)
  · cases hM
    rw [hQQ]
    exact W.vret hx hb hr (fun t ht hW => ⟨⟨(), rfl, trivial, by show va_P D vwCl _ t.heap; rw [ht]; exact hP⟩, hS.F ht⟩) hS.2.2 dX5_addWay_24
  · refine lv_if_eq (tgt := 24) hx hb dX5_addWay_1 (by decide) (fun c3 => ?_) (fun c3 => ?_)
    · replace hM := if_at_pos hM c3
      exact hJ2 mM hM H locs ls hP hS (lv_sub hl [] rfl)
    · replace hM := if_at_neg hM c3
      refine lv_aload_n hx hb dX5_addWay_4 rfl (lv_at hl 0 rfl) ?_
      refine va_get hx hb hts hi5 hown hK hP 0 rfl rfl 33 (by decide) (hts (.fieldLink RX5 54 "NightPlotsModel" "way" "[I") (List.mem_of_getElem? (i := 1) rfl)) (fun _ h9 => h9) rfl dX5_addWay_5 ?_
      refine lv_aload_n hx hb dX5_addWay_8 rfl (lv_at hl 0 rfl) ?_
      refine va_get hx hb hts hi5 hown hK hP 0 rfl rfl 32 (by decide) (hts (.fieldLink RX5 225 "NightPlotsModel" "wayMany" "I") (List.mem_of_getElem? (i := 2) rfl)) (fun _ h9 => h9) rfl dX5_addWay_9 ?_
      refine lv_iload_n hx hb dX5_addWay_12 rfl (lv_at hl 2 rfl) ?_
      obtain ⟨hi_4, hM⟩ := chkI_at hM
      refine va_iast hx hb hK hP (hD.same rfl) hS 13 0 rfl rfl hi_4 dX5_addWay_13 (fun H locs hP _ hS => ?_)
      obtain ⟨mM_5, emM_5⟩ : ∃ z : GS, z = (upA mM 13 (upd (mM 13) (mM 0 32).toNatClampNeg i2)) := ⟨_, rfl⟩
      have hP : va_P D vwCl (cMod Y oM mM_5 tk) H := by rw [emM_5]; exact hP
      replace hM := nm_at hM emM_5
      refine lv_aload_n hx hb dX5_addWay_14 rfl (lv_at hl 0 rfl) ?_
      refine lv_dup hx hb dX5_addWay_15 rfl ?_
      refine va_get hx hb hts hi5 hown hK hP 0 rfl rfl 32 (by decide) (hts (.fieldLink RX5 225 "NightPlotsModel" "wayMany" "I") (List.mem_of_getElem? (i := 2) rfl)) (fun _ h9 => h9) rfl dX5_addWay_16 ?_
      refine lv_iconst (v := (1 : Int32)) hx hb dX5_addWay_19 (by decide) ?_
      refine lv_iadd hx hb dX5_addWay_20 ?_
      refine lv_topi (fun x6 ex6 => ?_)
      replace hM := nm_at hM ex6
      refine va_put (ty := .int) hx hb hts hi5 tyX5 tyX5_ok nmX5 hown hK hP (hD.same rfl) hS 0 rfl rfl 32 (by decide) (hts (.fieldLink RX5 225 "NightPlotsModel" "wayMany" "I") (List.mem_of_getElem? (i := 2) rfl)) (fun _ h9 => h9) rfl (by decide +kernel) rfl rfl (Nat.le_of_ble_eq_true rfl) dX5_addWay_21 (fun H locs hP _ hS => ?_)
      obtain ⟨mM_7, emM_7⟩ : ∃ z : GS, z = (up2 mM_5 0 32 x6) := ⟨_, rfl⟩
      have hP : va_P D vwCl (cMod Y oM mM_7 tk) H := by rw [emM_7]; exact hP
      replace hM := nm_at hM emM_7
      exact hJ2 mM_7 hM H locs ls hP hS (lv_sub hl [] rfl)
noncomputable def BX5_layWays_101 (k32 : GS → Option (GS)) (i1 : Int32) (r4 : Int32) (x7 : Int32) (rec35 : Int32 → GS → Option (GS)) (x33 : Int32) (mM_34 : GS) : Option (GS) := if (mM_34 0 5) ≤ x33 then (k32 mM_34) else (chkI i1 8 (if (mM_34 2 i1.toNatClampNeg) = (1 : Int32) then (chkI ((2 : Int32) * x33) 12 (jn1 (fun (x40 : Int32) => jn1 (fun (x42 : Int32) => bnd1 (MX5_addWay mM_34 x42 x40) fun (mM_44 : GS) => nm (x33 + 1) fun (x46 : Int32) => rec35 x46 mM_44) (fun k43 => jn0 (k43 (0 : Int32)) (fun k47 => if x40 = (-1 : Int32) then (k47) else (jn1 (fun (x49 : Int32) => bnd1 (MX5_has r4 x49) fun (r51 : Int32) => if r51 = 0 then (k43 (1 : Int32)) else (k47)) (fun k50 => if x40 = (-1 : Int32) then (k50 (0 : Int32)) else (k50 x40)))))) (fun k41 => if (mM_34 4 ((2 : Int32) * x33).toNatClampNeg) = x7 then (chkI (((2 : Int32) * x33) + (1 : Int32)) 12 (k41 (mM_34 4 (((2 : Int32) * x33) + (1 : Int32)).toNatClampNeg))) else (chkI (((2 : Int32) * x33) + (1 : Int32)) 12 (if (mM_34 4 (((2 : Int32) * x33) + (1 : Int32)).toNatClampNeg) = x7 then (chkI ((2 : Int32) * x33) 12 (k41 (mM_34 4 ((2 : Int32) * x33).toNatClampNeg))) else (k41 (-1 : Int32))))))) else (k32 mM_34)))
noncomputable def MX5_layWays (mM : GS) (i1 : Int32) : Option (GS) := nm (up2 mM 0 32 (0 : Int32)) fun (mM_1 : GS) => chkI i1 8 (if (mM_1 2 i1.toNatClampNeg) = (2 : Int32) then (some (mM_1)) else (bnd1 (MX5_full mM_1) fun (r4 : Int32) => chkI i1 19 (nm (mM_1 8 i1.toNatClampNeg) fun (x7 : Int32) => chkI i1 8 (jn1 (fun (x9 : Int32) => bnd1 (MX5_next mM_1 x7 x9) fun (r11 : Int32) => bnd1 (MX5_has r4 r11) fun (r13 : Int32) => jn1 (fun (x15 : Int32) => bnd1 (MX5_next mM_1 x7 (1 : Int32)) fun (r17 : Int32) => bnd1 (MX5_addWay mM_1 x15 r17) fun (mM_19 : GS) => bnd1 (MX5_next mM_19 x7 (-1 : Int32)) fun (r21 : Int32) => bnd1 (MX5_has r4 r21) fun (r23 : Int32) => jn1 (fun (x25 : Int32) => bnd1 (MX5_next mM_19 x7 (-1 : Int32)) fun (r27 : Int32) => bnd1 (MX5_addWay mM_19 x25 r27) fun (mM_29 : GS) => jn1 (fun (mM_31 : GS) => some (mM_31)) (fun k32 => lq2 (BX5_layWays_101 k32 i1 r4 x7) FU (0 : Int32) mM_29)) (fun k26 => if r23 = 0 then (k26 (1 : Int32)) else (k26 (0 : Int32)))) (fun k16 => if r13 = 0 then (k16 (1 : Int32)) else (k16 (0 : Int32)))) (fun k10 => if (mM_1 2 i1.toNatClampNeg) = (3 : Int32) then (k10 (2 : Int32)) else (k10 (1 : Int32)))))))
abbrev rmX5_layWays : Room := { frames := 3, cells := 0, slots := 0, locals := 120 }
set_option maxHeartbeats 4000000 in
set_option maxRecDepth 100000 in
theorem ctX5_layWays (l : Launch) (D : va_G) (Y : Nat → ClassId) (oM : Nat → Nat) (sz : Nat) (mM : GS) (tk : Int64) (i1 : Int32) (mMz : GS) (hM : MX5_layWays mM i1 = some (mMz)) : Met l yX5_layWays wsX5_layWays rmX5_layWays (pcW [.ref (oM 0), .int i1] sz D Y (cMod Y oM mM tk)) (qvW D (cMod Y oM mMz tk) (va_A (cMod Y oM mM tk) sz)) 0 0 (va_A (cMod Y oM mM tk) sz) := by
  refine Met.ofW (cc := cX5_layWays) (maxL := 6) (ret := (none)) (by decide) rfl ?_
  intro p e s m args below meth c s₁ B hml hv
  obtain ⟨rfl, hsz, hP, hK, hD0⟩ := hv
  have hx := B.exec
  have hb := B.bytes
  have hr := B.returns
  have hts := atoms_spec (ws := wsX5_layWays) B.pre
  have hown : s.vm.findClass RX5 = some m.cls := findClass_of_methodNamed B.named
  have hlocks := B.notSynchronized
  subst hsz
  have hD := hD0.self (sz := s.heap.size)
  generalize hAe : va_A (cMod Y oM mM tk) s.heap.size = A at hD ⊢
  have hA : ∀ q : Nat, s.heap.size ≤ q → A q := fun q h => by rw [← hAe]; exact Or.inr h
  have hS : va_S A s.heap s.heap [] := va_S.rf
  have hi5 : ∀ w ∈ wsX50, w ∈ wsX5_layWays := fun w h => List.mem_cons_of_mem _ (List.mem_append_right _ h)
  have hl := lv_entry ([.ref (oM 0), .int i1]) (n := 6) (Nat.le_of_ble_eq_true rfl)
  rw [lg_entry_eq]
  generalize (lg_sl ([.ref (oM 0), .int i1]) ++ List.replicate (6 - (lg_sl ([.ref (oM 0), .int i1])).length) Slot.unset).toArray = ls at hl ⊢
  have hl : lv_has ls 6 [(0, .ref (oM 0)), (1, .int i1)] := hl
  obtain ⟨QQ, hQQ⟩ : ∃ Q : State → Prop, Q = MQ below (qvW D (cMod Y oM mMz tk) A) ([.ref (oM 0), .int i1] : List Value).toArray s 0 0 A := ⟨_, rfl⟩
  rw [← hQQ]
  unfold MX5_layWays at hM
  suffices hI : ∀ (H : Heap) (locs : List Loc), va_P D vwCl (cMod Y oM mM tk) H → va_S A s.heap H locs → W p l e (headSpec wsX5_layWays rmX5_layWays).room s m ([.ref (oM 0), .int i1] : List Value).toArray below meth c H locs 0 0 QQ (F0 m 0 ls []) from hI _ _ hP hS
  clear hP hS
  intro H locs hP hS
  refine lv_aload_n hx hb dX5_layWays_0 rfl (lv_at hl 0 rfl) ?_
  refine lv_iconst (v := (0 : Int32)) hx hb dX5_layWays_1 (by decide) ?_
  refine va_put (ty := .int) hx hb hts hi5 tyX5 tyX5_ok nmX5 hown hK hP (hD.same rfl) hS 0 rfl rfl 32 (by decide) (hts (.fieldLink RX5 225 "NightPlotsModel" "wayMany" "I") (List.mem_of_getElem? (i := 1) rfl)) (fun _ h9 => h9) rfl (by decide +kernel) rfl rfl (Nat.le_of_ble_eq_true rfl) dX5_layWays_2 (fun H locs hP _ hS => ?_)
  obtain ⟨mM_1, emM_1⟩ : ∃ z : GS, z = (up2 mM 0 32 (0 : Int32)) := ⟨_, rfl⟩
  have hP : va_P D vwCl (cMod Y oM mM_1 tk) H := by rw [emM_1]; exact hP
  replace hM := nm_at hM emM_1
  refine lv_aload_n hx hb dX5_layWays_5 rfl (lv_at hl 0 rfl) ?_
  refine va_get hx hb hts hi5 hown hK hP 0 rfl rfl 3 (by decide) (hts (.fieldLink RX5 17 "NightPlotsModel" "kind" "[I") (List.mem_of_getElem? (i := 2) rfl)) (fun _ h9 => h9) rfl dX5_layWays_6 ?_
  refine lv_iload_n hx hb dX5_layWays_9 rfl (lv_at hl 1 rfl) ?_
  obtain ⟨hi_2, hM⟩ := chkI_at hM
  refine va_iald hx hb hK hP 2 0 rfl rfl hi_2 dX5_layWays_10 ?_
  refine lv_iconst (v := (2 : Int32)) hx hb dX5_layWays_11 (by decide) ?_
  refine lv_icmp_ne (tgt := 16) hx hb dX5_layWays_12 (by decide) (fun c3 => ?_) (fun c3 => ?_)
  · replace hM := if_at_neg hM c3
    refine lv_aload_n hx hb dX5_layWays_16 rfl (lv_at hl 0 rfl) ?_
    obtain ⟨r4, hc5, hM⟩ := bnd1_at hM
    refine co_i (va_runV (As := []) (rest := []) ⟨hx, hb, hml, hown, hts⟩ (ctX5_full l D Y oM H.size mM_1 tk r4 hc5) (cwV 0 hts gX5_layWays_X5_full rfl rfl rfl (by decide +kernel) ⟨Nat.le_of_ble_eq_true rfl, Nat.le_of_ble_eq_true rfl⟩) (pcW_V0 (ci := 5) (q0 := 0) hK hP (hD.same rfl) rfl rfl) rfl rfl hl.1 rfl (lv_room (Nat.le_of_ble_eq_true rfl)) dX5_layWays_17 ⟨Nat.zero_le _, Nat.zero_le _⟩) (hD.same rfl) hS hA (fun H locs hP hS => ?_)
    refine lv_istore_n (lv' := [(2, .int r4), (0, .ref (oM 0)), (1, .int i1)]) hx hb dX5_layWays_20 rfl hl (by decide) rfl (fun ls hl => ?_)
    refine lv_aload_n hx hb dX5_layWays_21 rfl (lv_at hl 1 rfl) ?_
    refine va_get hx hb hts hi5 hown hK hP 0 rfl rfl 26 (by decide) (hts (.fieldLink RX5 38 "NightPlotsModel" "now" "[I") (List.mem_of_getElem? (i := 3) rfl)) (fun _ h9 => h9) rfl dX5_layWays_22 ?_
    refine lv_iload_n hx hb dX5_layWays_25 rfl (lv_at hl 2 rfl) ?_
    obtain ⟨hi_6, hM⟩ := chkI_at hM
    refine va_iald hx hb hK hP 8 0 rfl rfl hi_6 dX5_layWays_26 ?_
    refine lv_topi (fun x7 ex7 => ?_)
    replace hM := nm_at hM ex7
    refine lv_istore_n (lv' := [(3, .int x7), (2, .int r4), (0, .ref (oM 0)), (1, .int i1)]) hx hb dX5_layWays_27 rfl hl (by decide) rfl (fun ls hl => ?_)
    refine lv_aload_n hx hb dX5_layWays_28 rfl (lv_at hl 2 rfl) ?_
    refine lv_iload_n hx hb dX5_layWays_29 rfl (lv_at hl 1 rfl) ?_
    refine lv_aload_n hx hb dX5_layWays_30 rfl (lv_at hl 2 rfl) ?_
    refine lv_iload_n hx hb dX5_layWays_31 rfl (lv_at hl 0 rfl) ?_
    refine lv_aload_n hx hb dX5_layWays_32 rfl (lv_at hl 2 rfl) ?_
    refine va_get hx hb hts hi5 hown hK hP 0 rfl rfl 3 (by decide) (hts (.fieldLink RX5 17 "NightPlotsModel" "kind" "[I") (List.mem_of_getElem? (i := 2) rfl)) (fun _ h9 => h9) rfl dX5_layWays_33 ?_
    refine lv_iload_n hx hb dX5_layWays_36 rfl (lv_at hl 3 rfl) ?_
    obtain ⟨hi_8, hM⟩ := chkI_at hM
    refine va_iald hx hb hK hP 2 0 rfl rfl hi_8 dX5_layWays_37 ?_
    refine lv_iconst (v := (3 : Int32)) hx hb dX5_layWays_38 (by decide) ?_
    refine jn1_at (fun (x9 : Int32) => ∀ (H : Heap) (locs : List Loc) (ls : Array Slot), va_P D vwCl (cMod Y oM mM_1 tk) H → va_S A s.heap H locs → lv_has ls 6 [(0, .ref (oM 0)), (1, .int i1), (2, .int r4), (3, .int x7)] → W p l e (headSpec wsX5_layWays rmX5_layWays).room s m ([.ref (oM 0), .int i1] : List Value).toArray below meth c H locs 0 0 QQ (F0 m 47 ls [.int x9, .int x7, .ref (oM 0), .int r4, .ref (oM 0)])) hM (fun x9 hM H locs ls hP hS hl => ?_) (fun k10 hJ10 hM => ?_)
    · obtain ⟨r11, hc12, hM⟩ := bnd1_at hM
      refine co_i (va_runV (As := [.int x7, .int x9]) (rest := [.int r4, .ref (oM 0)]) ⟨hx, hb, hml, hown, hts⟩ (ctX5_next l D Y oM H.size mM_1 tk x7 x9 r11 hc12) (cwV 2 hts gX5_layWays_X5_next rfl rfl rfl (by decide +kernel) ⟨Nat.le_of_ble_eq_true rfl, Nat.le_of_ble_eq_true rfl⟩) (pcW_V0 (ci := 5) (q0 := 0) hK hP (hD.same rfl) rfl rfl) rfl rfl hl.1 rfl (lv_room (Nat.le_of_ble_eq_true rfl)) dX5_layWays_47 ⟨Nat.zero_le _, Nat.zero_le _⟩) (hD.same rfl) hS hA (fun H locs hP hS => ?_)
      obtain ⟨r13, hc14, hM⟩ := bnd1_at hM
      refine cm_i (w2 := (cMod Y oM mM_1 tk)) (va_runS (As := [.int r4, .int r11]) (rest := [.ref (oM 0)]) ⟨hx, hb, hml, hown, hts⟩ (ctX5_has l D Y H.size r4 r11 r13 hc14) (cwS 2 hts gX5_layWays_X5_has rfl rfl rfl (by decide +kernel) ⟨Nat.le_of_ble_eq_true rfl, Nat.le_of_ble_eq_true rfl⟩) (pcW_S hK hP (hD.same rfl) [] rfl (pc_map pc_nil)) rfl rfl hl.1 rfl (lv_room (Nat.le_of_ble_eq_true rfl)) dX5_layWays_50 ⟨Nat.zero_le _, Nat.zero_le _⟩) hP (hD.same rfl) hS hA [] (pc_map pc_nil) (up_old rfl rfl (up_old rfl rfl (up_old rfl rfl (up_old rfl rfl (up_old rfl rfl (up_old rfl rfl (up_old rfl rfl (up_old rfl rfl (up_old rfl rfl (up_old rfl rfl (up_old rfl rfl (up_old rfl rfl (up_old rfl rfl (up_old rfl rfl (up_old rfl rfl (up_old rfl rfl (up_old rfl rfl (up_old rfl rfl (up_old rfl rfl up_nil))))))))))))))))))) (fun H locs hP hS => ?_)
      refine jn1_at (fun (x15 : Int32) => ∀ (H : Heap) (locs : List Loc) (ls : Array Slot), va_P D vwCl (cMod Y oM mM_1 tk) H → va_S A s.heap H locs → lv_has ls 6 [(0, .ref (oM 0)), (1, .int i1), (2, .int r4), (3, .int x7)] → W p l e (headSpec wsX5_layWays rmX5_layWays).room s m ([.ref (oM 0), .int i1] : List Value).toArray below meth c H locs 0 0 QQ (F0 m 61 ls [.int x15, .ref (oM 0)])) hM (fun x15 hM H locs ls hP hS hl => ?_) (fun k16 hJ16 hM => ?_)
      · refine lv_aload_n hx hb dX5_layWays_61 rfl (lv_at hl 0 rfl) ?_
        refine lv_iload_n hx hb dX5_layWays_62 rfl (lv_at hl 3 rfl) ?_
        refine lv_iconst (v := (1 : Int32)) hx hb dX5_layWays_63 (by decide) ?_
        obtain ⟨r17, hc18, hM⟩ := bnd1_at hM
        refine co_i (va_runV (As := [.int x7, .int (1 : Int32)]) (rest := [.int x15, .ref (oM 0)]) ⟨hx, hb, hml, hown, hts⟩ (ctX5_next l D Y oM H.size mM_1 tk x7 (1 : Int32) r17 hc18) (cwV 2 hts gX5_layWays_X5_next rfl rfl rfl (by decide +kernel) ⟨Nat.le_of_ble_eq_true rfl, Nat.le_of_ble_eq_true rfl⟩) (pcW_V0 (ci := 5) (q0 := 0) hK hP (hD.same rfl) rfl rfl) rfl rfl hl.1 rfl (lv_room (Nat.le_of_ble_eq_true rfl)) dX5_layWays_64 ⟨Nat.zero_le _, Nat.zero_le _⟩) (hD.same rfl) hS hA (fun H locs hP hS => ?_)
        obtain ⟨mM_19, hc20, hM⟩ := bnd1_at hM
        refine co_v (va_runV (As := [.int x15, .int r17]) (rest := []) ⟨hx, hb, hml, hown, hts⟩ (ctX5_addWay l D Y oM H.size mM_1 tk x15 r17 mM_19 hc20) (cwV 2 hts gX5_layWays_X5_addWay rfl rfl rfl (by decide +kernel) ⟨Nat.le_of_ble_eq_true rfl, Nat.le_of_ble_eq_true rfl⟩) (pcW_V0 (ci := 5) (q0 := 0) hK hP (hD.same rfl) rfl rfl) rfl rfl hl.1 rfl (lv_room (Nat.le_of_ble_eq_true rfl)) dX5_layWays_67 ⟨Nat.zero_le _, Nat.zero_le _⟩) (hD.same rfl) hS hA (fun H locs hP hS => ?_)
        refine lv_aload_n hx hb dX5_layWays_70 rfl (lv_at hl 0 rfl) ?_
        refine lv_iload_n hx hb dX5_layWays_71 rfl (lv_at hl 2 rfl) ?_
        refine lv_aload_n hx hb dX5_layWays_72 rfl (lv_at hl 0 rfl) ?_
        refine lv_iload_n hx hb dX5_layWays_73 rfl (lv_at hl 3 rfl) ?_
        refine lv_iconst (v := (-1 : Int32)) hx hb dX5_layWays_74 (by decide) ?_
        obtain ⟨r21, hc22, hM⟩ := bnd1_at hM
        refine co_i (va_runV (As := [.int x7, .int (-1 : Int32)]) (rest := [.int r4, .ref (oM 0)]) ⟨hx, hb, hml, hown, hts⟩ (ctX5_next l D Y oM H.size mM_19 tk x7 (-1 : Int32) r21 hc22) (cwV 2 hts gX5_layWays_X5_next rfl rfl rfl (by decide +kernel) ⟨Nat.le_of_ble_eq_true rfl, Nat.le_of_ble_eq_true rfl⟩) (pcW_V0 (ci := 5) (q0 := 0) hK hP (hD.same rfl) rfl rfl) rfl rfl hl.1 rfl (lv_room (Nat.le_of_ble_eq_true rfl)) dX5_layWays_75 ⟨Nat.zero_le _, Nat.zero_le _⟩) (hD.same rfl) hS hA (fun H locs hP hS => ?_)
        obtain ⟨r23, hc24, hM⟩ := bnd1_at hM
        refine cm_i (w2 := (cMod Y oM mM_19 tk)) (va_runS (As := [.int r4, .int r21]) (rest := [.ref (oM 0)]) ⟨hx, hb, hml, hown, hts⟩ (ctX5_has l D Y H.size r4 r21 r23 hc24) (cwS 2 hts gX5_layWays_X5_has rfl rfl rfl (by decide +kernel) ⟨Nat.le_of_ble_eq_true rfl, Nat.le_of_ble_eq_true rfl⟩) (pcW_S hK hP (hD.same rfl) [] rfl (pc_map pc_nil)) rfl rfl hl.1 rfl (lv_room (Nat.le_of_ble_eq_true rfl)) dX5_layWays_78 ⟨Nat.zero_le _, Nat.zero_le _⟩) hP (hD.same rfl) hS hA [] (pc_map pc_nil) (up_old rfl rfl (up_old rfl rfl (up_old rfl rfl (up_old rfl rfl (up_old rfl rfl (up_old rfl rfl (up_old rfl rfl (up_old rfl rfl (up_old rfl rfl (up_old rfl rfl (up_old rfl rfl (up_old rfl rfl (up_old rfl rfl (up_old rfl rfl (up_old rfl rfl (up_old rfl rfl (up_old rfl rfl (up_old rfl rfl (up_old rfl rfl up_nil))))))))))))))))))) (fun H locs hP hS => ?_)
        refine jn1_at (fun (x25 : Int32) => ∀ (H : Heap) (locs : List Loc) (ls : Array Slot), va_P D vwCl (cMod Y oM mM_19 tk) H → va_S A s.heap H locs → lv_has ls 6 [(0, .ref (oM 0)), (1, .int i1), (2, .int r4), (3, .int x7)] → W p l e (headSpec wsX5_layWays rmX5_layWays).room s m ([.ref (oM 0), .int i1] : List Value).toArray below meth c H locs 0 0 QQ (F0 m 89 ls [.int x25, .ref (oM 0)])) hM (fun x25 hM H locs ls hP hS hl => ?_) (fun k26 hJ26 hM => ?_)
        · refine lv_aload_n hx hb dX5_layWays_89 rfl (lv_at hl 0 rfl) ?_
          refine lv_iload_n hx hb dX5_layWays_90 rfl (lv_at hl 3 rfl) ?_
          refine lv_iconst (v := (-1 : Int32)) hx hb dX5_layWays_91 (by decide) ?_
          obtain ⟨r27, hc28, hM⟩ := bnd1_at hM
          refine co_i (va_runV (As := [.int x7, .int (-1 : Int32)]) (rest := [.int x25, .ref (oM 0)]) ⟨hx, hb, hml, hown, hts⟩ (ctX5_next l D Y oM H.size mM_19 tk x7 (-1 : Int32) r27 hc28) (cwV 2 hts gX5_layWays_X5_next rfl rfl rfl (by decide +kernel) ⟨Nat.le_of_ble_eq_true rfl, Nat.le_of_ble_eq_true rfl⟩) (pcW_V0 (ci := 5) (q0 := 0) hK hP (hD.same rfl) rfl rfl) rfl rfl hl.1 rfl (lv_room (Nat.le_of_ble_eq_true rfl)) dX5_layWays_92 ⟨Nat.zero_le _, Nat.zero_le _⟩) (hD.same rfl) hS hA (fun H locs hP hS => ?_)
          obtain ⟨mM_29, hc30, hM⟩ := bnd1_at hM
          refine co_v (va_runV (As := [.int x25, .int r27]) (rest := []) ⟨hx, hb, hml, hown, hts⟩ (ctX5_addWay l D Y oM H.size mM_19 tk x25 r27 mM_29 hc30) (cwV 2 hts gX5_layWays_X5_addWay rfl rfl rfl (by decide +kernel) ⟨Nat.le_of_ble_eq_true rfl, Nat.le_of_ble_eq_true rfl⟩) (pcW_V0 (ci := 5) (q0 := 0) hK hP (hD.same rfl) rfl rfl) rfl rfl hl.1 rfl (lv_room (Nat.le_of_ble_eq_true rfl)) dX5_layWays_95 ⟨Nat.zero_le _, Nat.zero_le _⟩) (hD.same rfl) hS hA (fun H locs hP hS => ?_)
          refine lv_iconst (v := (0 : Int32)) hx hb dX5_layWays_98 (by decide) ?_
          refine lv_istore (lv' := [(4, .int (0 : Int32)), (0, .ref (oM 0)), (1, .int i1), (2, .int r4), (3, .int x7)]) hx hb dX5_layWays_99 hl (by decide) rfl (fun ls hl => ?_)
          refine jn1_at (fun (mM_31 : GS) => ∀ (H : Heap) (locs : List Loc) (ls : Array Slot), va_P D vwCl (cMod Y oM mM_31 tk) H → va_S A s.heap H locs → lv_has ls 6 [] → W p l e (headSpec wsX5_layWays rmX5_layWays).room s m ([.ref (oM 0), .int i1] : List Value).toArray below meth c H locs 0 0 QQ (F0 m 219 ls [])) hM (fun mM_31 hM H locs ls hP hS hl => ?_) (fun k32 hJ32 hM => ?_)
          · cases hM
            rw [hQQ]
            exact W.vret hx hb hr (fun t ht hW => ⟨⟨(), rfl, trivial, by show va_P D vwCl _ t.heap; rw [ht]; exact hP⟩, hS.F ht⟩) hS.2.2 dX5_layWays_219
          · refine lq2_at (fun (x33 : Int32) (mM_34 : GS) => ∀ (H : Heap) (locs : List Loc) (ls : Array Slot), va_P D vwCl (cMod Y oM mM_34 tk) H → va_S A s.heap H locs → lv_has ls 6 [(0, .ref (oM 0)), (1, .int i1), (2, .int r4), (3, .int x7), (4, .int x33)] → W p l e (headSpec wsX5_layWays rmX5_layWays).room s m ([.ref (oM 0), .int i1] : List Value).toArray below meth c H locs 0 0 QQ (F0 m 101 ls [])) (fun rec35 x33 mM_34 ih35 hM H locs ls hP hS hl => ?_) FU (0 : Int32) mM_29 hM H locs ls hP hS (lv_sub hl [1, 2, 3, 4, 0] rfl)
            unfold BX5_layWays_101 at hM
            refine lv_iload hx hb dX5_layWays_101 (lv_at hl 4 rfl) ?_
            refine lv_aload_n hx hb dX5_layWays_103 rfl (lv_at hl 0 rfl) ?_
            refine va_get hx hb hts hi5 hown hK hP 0 rfl rfl 5 (by decide) (hts (.fieldLink RX5 85 "NightPlotsModel" "paths" "I") (List.mem_of_getElem? (i := 4) rfl)) (fun _ h9 => h9) rfl dX5_layWays_104 ?_
            refine lv_icmp_ge (tgt := 219) hx hb dX5_layWays_107 (by decide) (fun c36 => ?_) (fun c36 => ?_)
            · replace hM := if_at_pos hM c36
              exact hJ32 mM_34 hM H locs ls hP hS (lv_sub hl [] rfl)
            · replace hM := if_at_neg hM c36
              refine lv_aload_n hx hb dX5_layWays_110 rfl (lv_at hl 0 rfl) ?_
              refine va_get hx hb hts hi5 hown hK hP 0 rfl rfl 3 (by decide) (hts (.fieldLink RX5 17 "NightPlotsModel" "kind" "[I") (List.mem_of_getElem? (i := 2) rfl)) (fun _ h9 => h9) rfl dX5_layWays_111 ?_
              refine lv_iload_n hx hb dX5_layWays_114 rfl (lv_at hl 1 rfl) ?_
              obtain ⟨hi_37, hM⟩ := chkI_at hM
              refine va_iald hx hb hK hP 2 0 rfl rfl hi_37 dX5_layWays_115 ?_
              refine lv_iconst (v := (1 : Int32)) hx hb dX5_layWays_116 (by decide) ?_
              refine lv_icmp_ne (tgt := 219) hx hb dX5_layWays_117 (by decide) (fun c38 => ?_) (fun c38 => ?_)
              · replace hM := if_at_neg hM c38
                exact hJ32 mM_34 hM H locs ls hP hS (lv_sub hl [] rfl)
              · replace hM := if_at_pos hM c38
                refine lv_aload_n hx hb dX5_layWays_120 rfl (lv_at hl 0 rfl) ?_
                refine va_get hx hb hts hi5 hown hK hP 0 rfl rfl 6 (by decide) (hts (.fieldLink RX5 23 "NightPlotsModel" "path" "[I") (List.mem_of_getElem? (i := 5) rfl)) (fun _ h9 => h9) rfl dX5_layWays_121 ?_
                refine lv_iconst (v := (2 : Int32)) hx hb dX5_layWays_124 (by decide) ?_
                refine lv_iload hx hb dX5_layWays_125 (lv_at hl 4 rfl) ?_
                refine lv_imul hx hb dX5_layWays_127 ?_
                obtain ⟨hi_39, hM⟩ := chkI_at hM
                refine va_iald hx hb hK hP 4 0 rfl rfl hi_39 dX5_layWays_128 ?_
                refine lv_iload_n hx hb dX5_layWays_129 rfl (lv_at hl 3 rfl) ?_
                refine jn1_at (fun (x40 : Int32) => ∀ (H : Heap) (locs : List Loc) (ls : Array Slot), va_P D vwCl (cMod Y oM mM_34 tk) H → va_S A s.heap H locs → lv_has ls 6 [(0, .ref (oM 0)), (1, .int i1), (2, .int r4), (3, .int x7), (4, .int x33)] → W p l e (headSpec wsX5_layWays rmX5_layWays).room s m ([.ref (oM 0), .int i1] : List Value).toArray below meth c H locs 0 0 QQ (F0 m 175 ls [.int x40])) hM (fun x40 hM H locs ls hP hS hl => ?_) (fun k41 hJ41 hM => ?_)
                · refine lv_istore (lv' := [(5, .int x40), (0, .ref (oM 0)), (1, .int i1), (2, .int r4), (3, .int x7), (4, .int x33)]) hx hb dX5_layWays_175 hl (by decide) rfl (fun ls hl => ?_)
                  refine lv_aload_n hx hb dX5_layWays_177 rfl (lv_at hl 1 rfl) ?_
                  refine lv_iload hx hb dX5_layWays_178 (lv_at hl 0 rfl) ?_
                  refine lv_iconst (v := (-1 : Int32)) hx hb dX5_layWays_180 (by decide) ?_
                  refine jn1_at (fun (x42 : Int32) => ∀ (H : Heap) (locs : List Loc) (ls : Array Slot), va_P D vwCl (cMod Y oM mM_34 tk) H → va_S A s.heap H locs → lv_has ls 6 [(0, .ref (oM 0)), (1, .int i1), (2, .int r4), (3, .int x7), (4, .int x33), (5, .int x40)] → W p l e (headSpec wsX5_layWays rmX5_layWays).room s m ([.ref (oM 0), .int i1] : List Value).toArray below meth c H locs 0 0 QQ (F0 m 208 ls [.int x42, .ref (oM 0)])) hM (fun x42 hM H locs ls hP hS hl => ?_) (fun k43 hJ43 hM => ?_)
                  · refine lv_iload hx hb dX5_layWays_208 (lv_at hl 5 rfl) ?_
                    obtain ⟨mM_44, hc45, hM⟩ := bnd1_at hM
                    refine co_v (va_runV (As := [.int x42, .int x40]) (rest := []) ⟨hx, hb, hml, hown, hts⟩ (ctX5_addWay l D Y oM H.size mM_34 tk x42 x40 mM_44 hc45) (cwV 2 hts gX5_layWays_X5_addWay rfl rfl rfl (by decide +kernel) ⟨Nat.le_of_ble_eq_true rfl, Nat.le_of_ble_eq_true rfl⟩) (pcW_V0 (ci := 5) (q0 := 0) hK hP (hD.same rfl) rfl rfl) rfl rfl hl.1 rfl (lv_room (Nat.le_of_ble_eq_true rfl)) dX5_layWays_210 ⟨Nat.zero_le _, Nat.zero_le _⟩) (hD.same rfl) hS hA (fun H locs hP hS => ?_)
                    obtain ⟨x46, ex46⟩ : ∃ z : Int32, z = (x33 + 1) := ⟨_, rfl⟩
                    replace hM := nm_at hM ex46
                    refine lv_iinc (v := x46) (lv' := [(4, .int x46), (0, .ref (oM 0)), (1, .int i1), (2, .int r4), (3, .int x7), (5, .int x40)]) hx hb dX5_layWays_213 hl (k := 4) rfl (by rw [ex46]; rfl) (by decide) rfl (fun ls hl => ?_)
                    refine lv_goto (tgt := 101) hx hb dX5_layWays_216 (by decide) ?_
                    exact ih35 x46 mM_44 hM H locs ls hP hS (lv_sub hl [1, 2, 3, 4, 0] rfl)
                  · refine jn0_at (∀ (H : Heap) (locs : List Loc) (ls : Array Slot), va_P D vwCl (cMod Y oM mM_34 tk) H → va_S A s.heap H locs → lv_has ls 6 [(0, .ref (oM 0)), (1, .int i1), (2, .int r4), (3, .int x7), (4, .int x33), (5, .int x40)] → W p l e (headSpec wsX5_layWays rmX5_layWays).room s m ([.ref (oM 0), .int i1] : List Value).toArray below meth c H locs 0 0 QQ (F0 m 207 ls [.ref (oM 0)])) hM (fun  hM H locs ls hP hS hl => ?_) (fun k47 hJ47 hM => ?_)
                    · refine lv_iconst (v := (0 : Int32)) hx hb dX5_layWays_207 (by decide) ?_
                      exact hJ43 (0 : Int32) hM H locs ls hP hS (lv_sub hl [0, 1, 2, 3, 4, 5] rfl)
                    · refine lv_icmp_eq (tgt := 207) hx hb dX5_layWays_181 (by decide) (fun c48 => ?_) (fun c48 => ?_)
                      · replace hM := if_at_pos hM c48
                        exact hJ47 hM H locs ls hP hS (lv_sub hl [1, 2, 3, 4, 5, 0] rfl)
                      · replace hM := if_at_neg hM c48
                        refine lv_iload_n hx hb dX5_layWays_184 rfl (lv_at hl 3 rfl) ?_
                        refine lv_iload hx hb dX5_layWays_185 (lv_at hl 0 rfl) ?_
                        refine lv_iconst (v := (-1 : Int32)) hx hb dX5_layWays_187 (by decide) ?_
                        refine jn1_at (fun (x49 : Int32) => ∀ (H : Heap) (locs : List Loc) (ls : Array Slot), va_P D vwCl (cMod Y oM mM_34 tk) H → va_S A s.heap H locs → lv_has ls 6 [(0, .ref (oM 0)), (1, .int i1), (2, .int r4), (3, .int x7), (4, .int x33), (5, .int x40)] → W p l e (headSpec wsX5_layWays rmX5_layWays).room s m ([.ref (oM 0), .int i1] : List Value).toArray below meth c H locs 0 0 QQ (F0 m 197 ls [.int x49, .int r4, .ref (oM 0)])) hM (fun x49 hM H locs ls hP hS hl => ?_) (fun k50 hJ50 hM => ?_)
                        · obtain ⟨r51, hc52, hM⟩ := bnd1_at hM
                          refine cm_i (w2 := (cMod Y oM mM_34 tk)) (va_runS (As := [.int r4, .int x49]) (rest := [.ref (oM 0)]) ⟨hx, hb, hml, hown, hts⟩ (ctX5_has l D Y H.size r4 x49 r51 hc52) (cwS 2 hts gX5_layWays_X5_has rfl rfl rfl (by decide +kernel) ⟨Nat.le_of_ble_eq_true rfl, Nat.le_of_ble_eq_true rfl⟩) (pcW_S hK hP (hD.same rfl) [] rfl (pc_map pc_nil)) rfl rfl hl.1 rfl (lv_room (Nat.le_of_ble_eq_true rfl)) dX5_layWays_197 ⟨Nat.zero_le _, Nat.zero_le _⟩) hP (hD.same rfl) hS hA [] (pc_map pc_nil) (up_old rfl rfl (up_old rfl rfl (up_old rfl rfl (up_old rfl rfl (up_old rfl rfl (up_old rfl rfl (up_old rfl rfl (up_old rfl rfl (up_old rfl rfl (up_old rfl rfl (up_old rfl rfl (up_old rfl rfl (up_old rfl rfl (up_old rfl rfl (up_old rfl rfl (up_old rfl rfl (up_old rfl rfl (up_old rfl rfl (up_old rfl rfl up_nil))))))))))))))))))) (fun H locs hP hS => ?_)
                          refine lv_if_ne (tgt := 207) hx hb dX5_layWays_200 (by decide) (fun c53 => ?_) (fun c53 => ?_)
                          · replace hM := if_at_neg hM c53
                            exact hJ47 hM H locs ls hP hS (lv_sub hl [0, 1, 2, 3, 4, 5] rfl)
                          · replace hM := if_at_pos hM c53
                            refine lv_iconst (v := (1 : Int32)) hx hb dX5_layWays_203 (by decide) ?_
                            refine lv_goto (tgt := 208) hx hb dX5_layWays_204 (by decide) ?_
                            exact hJ43 (1 : Int32) hM H locs ls hP hS (lv_sub hl [0, 1, 2, 3, 4, 5] rfl)
                        · refine lv_icmp_ne (tgt := 195) hx hb dX5_layWays_188 (by decide) (fun c54 => ?_) (fun c54 => ?_)
                          · replace hM := if_at_neg hM c54
                            refine lv_iload hx hb dX5_layWays_195 (lv_at hl 0 rfl) ?_
                            exact hJ50 x40 hM H locs ls hP hS (lv_sub hl [1, 2, 3, 4, 5, 0] rfl)
                          · replace hM := if_at_pos hM c54
                            refine lv_iconst (v := (0 : Int32)) hx hb dX5_layWays_191 (by decide) ?_
                            refine lv_goto (tgt := 197) hx hb dX5_layWays_192 (by decide) ?_
                            exact hJ50 (0 : Int32) hM H locs ls hP hS (lv_sub hl [1, 2, 3, 4, 5, 0] rfl)
                · refine lv_icmp_ne (tgt := 147) hx hb dX5_layWays_130 (by decide) (fun c55 => ?_) (fun c55 => ?_)
                  · replace hM := if_at_neg hM c55
                    refine lv_aload_n hx hb dX5_layWays_147 rfl (lv_at hl 0 rfl) ?_
                    refine va_get hx hb hts hi5 hown hK hP 0 rfl rfl 6 (by decide) (hts (.fieldLink RX5 23 "NightPlotsModel" "path" "[I") (List.mem_of_getElem? (i := 5) rfl)) (fun _ h9 => h9) rfl dX5_layWays_148 ?_
                    refine lv_iconst (v := (2 : Int32)) hx hb dX5_layWays_151 (by decide) ?_
                    refine lv_iload hx hb dX5_layWays_152 (lv_at hl 4 rfl) ?_
                    refine lv_imul hx hb dX5_layWays_154 ?_
                    refine lv_iconst (v := (1 : Int32)) hx hb dX5_layWays_155 (by decide) ?_
                    refine lv_iadd hx hb dX5_layWays_156 ?_
                    obtain ⟨hi_56, hM⟩ := chkI_at hM
                    refine va_iald hx hb hK hP 4 0 rfl rfl hi_56 dX5_layWays_157 ?_
                    refine lv_iload_n hx hb dX5_layWays_158 rfl (lv_at hl 3 rfl) ?_
                    refine lv_icmp_ne (tgt := 174) hx hb dX5_layWays_159 (by decide) (fun c57 => ?_) (fun c57 => ?_)
                    · replace hM := if_at_neg hM c57
                      refine lv_iconst (v := (-1 : Int32)) hx hb dX5_layWays_174 (by decide) ?_
                      exact hJ41 (-1 : Int32) hM H locs ls hP hS (lv_sub hl [0, 1, 2, 3, 4] rfl)
                    · replace hM := if_at_pos hM c57
                      refine lv_aload_n hx hb dX5_layWays_162 rfl (lv_at hl 0 rfl) ?_
                      refine va_get hx hb hts hi5 hown hK hP 0 rfl rfl 6 (by decide) (hts (.fieldLink RX5 23 "NightPlotsModel" "path" "[I") (List.mem_of_getElem? (i := 5) rfl)) (fun _ h9 => h9) rfl dX5_layWays_163 ?_
                      refine lv_iconst (v := (2 : Int32)) hx hb dX5_layWays_166 (by decide) ?_
                      refine lv_iload hx hb dX5_layWays_167 (lv_at hl 4 rfl) ?_
                      refine lv_imul hx hb dX5_layWays_169 ?_
                      obtain ⟨hi_58, hM⟩ := chkI_at hM
                      refine va_iald hx hb hK hP 4 0 rfl rfl hi_58 dX5_layWays_170 ?_
                      refine lv_goto (tgt := 175) hx hb dX5_layWays_171 (by decide) ?_
                      exact hJ41 (mM_34 4 ((2 : Int32) * x33).toNatClampNeg) hM H locs ls hP hS (lv_sub hl [0, 1, 2, 3, 4] rfl)
                  · replace hM := if_at_pos hM c55
                    refine lv_aload_n hx hb dX5_layWays_133 rfl (lv_at hl 0 rfl) ?_
                    refine va_get hx hb hts hi5 hown hK hP 0 rfl rfl 6 (by decide) (hts (.fieldLink RX5 23 "NightPlotsModel" "path" "[I") (List.mem_of_getElem? (i := 5) rfl)) (fun _ h9 => h9) rfl dX5_layWays_134 ?_
                    refine lv_iconst (v := (2 : Int32)) hx hb dX5_layWays_137 (by decide) ?_
                    refine lv_iload hx hb dX5_layWays_138 (lv_at hl 4 rfl) ?_
                    refine lv_imul hx hb dX5_layWays_140 ?_
                    refine lv_iconst (v := (1 : Int32)) hx hb dX5_layWays_141 (by decide) ?_
                    refine lv_iadd hx hb dX5_layWays_142 ?_
                    obtain ⟨hi_59, hM⟩ := chkI_at hM
                    refine va_iald hx hb hK hP 4 0 rfl rfl hi_59 dX5_layWays_143 ?_
                    refine lv_goto (tgt := 175) hx hb dX5_layWays_144 (by decide) ?_
                    exact hJ41 (mM_34 4 (((2 : Int32) * x33) + (1 : Int32)).toNatClampNeg) hM H locs ls hP hS (lv_sub hl [0, 1, 2, 3, 4] rfl)
        · refine lv_if_ne (tgt := 88) hx hb dX5_layWays_81 (by decide) (fun c60 => ?_) (fun c60 => ?_)
          · replace hM := if_at_neg hM c60
            refine lv_iconst (v := (0 : Int32)) hx hb dX5_layWays_88 (by decide) ?_
            exact hJ26 (0 : Int32) hM H locs ls hP hS (lv_sub hl [0, 1, 2, 3] rfl)
          · replace hM := if_at_pos hM c60
            refine lv_iconst (v := (1 : Int32)) hx hb dX5_layWays_84 (by decide) ?_
            refine lv_goto (tgt := 89) hx hb dX5_layWays_85 (by decide) ?_
            exact hJ26 (1 : Int32) hM H locs ls hP hS (lv_sub hl [0, 1, 2, 3] rfl)
      · refine lv_if_ne (tgt := 60) hx hb dX5_layWays_53 (by decide) (fun c61 => ?_) (fun c61 => ?_)
        · replace hM := if_at_neg hM c61
          refine lv_iconst (v := (0 : Int32)) hx hb dX5_layWays_60 (by decide) ?_
          exact hJ16 (0 : Int32) hM H locs ls hP hS (lv_sub hl [0, 1, 2, 3] rfl)
        · replace hM := if_at_pos hM c61
          refine lv_iconst (v := (1 : Int32)) hx hb dX5_layWays_56 (by decide) ?_
          refine lv_goto (tgt := 61) hx hb dX5_layWays_57 (by decide) ?_
          exact hJ16 (1 : Int32) hM H locs ls hP hS (lv_sub hl [0, 1, 2, 3] rfl)
    · refine lv_icmp_ne (tgt := 46) hx hb dX5_layWays_39 (by decide) (fun c62 => ?_) (fun c62 => ?_)
      · replace hM := if_at_neg hM c62
        refine lv_iconst (v := (1 : Int32)) hx hb dX5_layWays_46 (by decide) ?_
        exact hJ10 (1 : Int32) hM H locs ls hP hS (lv_sub hl [2, 3, 1, 0] rfl)
      · replace hM := if_at_pos hM c62
        refine lv_iconst (v := (2 : Int32)) hx hb dX5_layWays_42 (by decide) ?_
        refine lv_goto (tgt := 47) hx hb dX5_layWays_43 (by decide) ?_
        exact hJ10 (2 : Int32) hM H locs ls hP hS (lv_sub hl [2, 3, 1, 0] rfl)
  · replace hM := if_at_pos hM c3
    cases hM
    rw [hQQ]
    exact W.vret hx hb hr (fun t ht hW => ⟨⟨(), rfl, trivial, by show va_P D vwCl _ t.heap; rw [ht]; exact hP⟩, hS.F ht⟩) hS.2.2 dX5_layWays_15
noncomputable def MX5_house (mM : GS) (i1 : Int32) (i2 : Int32) : Option (Int32) := bnd1 (MX5_isHouse mM i1) fun (r1 : Int32) => if r1 = 0 then (some ((-2 : Int32))) else (if i2 = (0 : Int32) then (chkI i1 8 (some ((mM 2 i1.toNatClampNeg)))) else (if i2 = (1 : Int32) then (chkI i1 19 (some ((mM 8 i1.toNatClampNeg)))) else (if i2 = (2 : Int32) then (chkI ((8 : Int32) + i1) 19 (jn1 (fun (x8 : Int32) => some (x8)) (fun k9 => if (mM 8 ((8 : Int32) + i1).toNatClampNeg) = (-1 : Int32) then (k9 (-1 : Int32)) else (chkI (16 : Int32) 19 (chkI ((8 : Int32) + i1) 19 (k9 (((mM 8 (16 : Int32).toNatClampNeg) - (mM 8 ((8 : Int32) + i1).toNatClampNeg)) - (1 : Int32)))))))) else (some ((-3 : Int32))))))
abbrev rmX5_house : Room := { frames := 3, cells := 0, slots := 0, locals := 120 }
set_option maxHeartbeats 4000000 in
set_option maxRecDepth 100000 in
theorem ctX5_house (l : Launch) (D : va_G) (Y : Nat → ClassId) (oM : Nat → Nat) (sz : Nat) (mM : GS) (tk : Int64) (i1 : Int32) (i2 : Int32) (rr : Int32) (hM : MX5_house mM i1 i2 = some (rr)) : Met l yX5_house wsX5_house rmX5_house (pcW [.ref (oM 0), .int i1, .int i2] sz D Y (cMod Y oM mM tk)) (qiW rr D (cMod Y oM mM tk) (va_A (cMod Y oM mM tk) sz)) 0 0 (va_A (cMod Y oM mM tk) sz) := by
  refine Met.ofW (cc := cX5_house) (maxL := 3) (ret := (some .int)) (by decide) rfl ?_
  intro p e s m args below meth c s₁ B hml hv
  obtain ⟨rfl, hsz, hP, hK, hD0⟩ := hv
  have hx := B.exec
  have hb := B.bytes
  have hr := B.returns
  have hts := atoms_spec (ws := wsX5_house) B.pre
  have hown : s.vm.findClass RX5 = some m.cls := findClass_of_methodNamed B.named
  have hlocks := B.notSynchronized
  subst hsz
  have hD := hD0.self (sz := s.heap.size)
  generalize hAe : va_A (cMod Y oM mM tk) s.heap.size = A at hD ⊢
  have hA : ∀ q : Nat, s.heap.size ≤ q → A q := fun q h => by rw [← hAe]; exact Or.inr h
  have hS : va_S A s.heap s.heap [] := va_S.rf
  have hi5 : ∀ w ∈ wsX50, w ∈ wsX5_house := fun w h => List.mem_cons_of_mem _ (List.mem_append_right _ h)
  have hl := lv_entry ([.ref (oM 0), .int i1, .int i2]) (n := 3) (Nat.le_of_ble_eq_true rfl)
  rw [lg_entry_eq]
  generalize (lg_sl ([.ref (oM 0), .int i1, .int i2]) ++ List.replicate (3 - (lg_sl ([.ref (oM 0), .int i1, .int i2])).length) Slot.unset).toArray = ls at hl ⊢
  have hl : lv_has ls 3 [(0, .ref (oM 0)), (1, .int i1), (2, .int i2)] := hl
  obtain ⟨QQ, hQQ⟩ : ∃ Q : State → Prop, Q = MQ below (qiW rr D (cMod Y oM mM tk) A) ([.ref (oM 0), .int i1, .int i2] : List Value).toArray s 0 0 A := ⟨_, rfl⟩
  rw [← hQQ]
  unfold MX5_house at hM
  suffices hI : ∀ (H : Heap) (locs : List Loc), va_P D vwCl (cMod Y oM mM tk) H → va_S A s.heap H locs → W p l e (headSpec wsX5_house rmX5_house).room s m ([.ref (oM 0), .int i1, .int i2] : List Value).toArray below meth c H locs 0 0 QQ (F0 m 0 ls []) from hI _ _ hP hS
  clear hP hS
  intro H locs hP hS
  refine lv_aload_n hx hb dX5_house_0 rfl (lv_at hl 0 rfl) ?_
  refine lv_iload_n hx hb dX5_house_1 rfl (lv_at hl 1 rfl) ?_
  obtain ⟨r1, hc2, hM⟩ := bnd1_at hM
  refine co_i (va_runV (As := [.int i1]) (rest := []) ⟨hx, hb, hml, hown, hts⟩ (ctX5_isHouse l D Y oM H.size mM tk i1 r1 hc2) (cwV 1 hts gX5_house_X5_isHouse rfl rfl rfl (by decide +kernel) ⟨Nat.le_of_ble_eq_true rfl, Nat.le_of_ble_eq_true rfl⟩) (pcW_V0 (ci := 5) (q0 := 0) hK hP (hD.same rfl) rfl rfl) rfl rfl hl.1 rfl (lv_room (Nat.le_of_ble_eq_true rfl)) dX5_house_2 ⟨Nat.zero_le _, Nat.zero_le _⟩) (hD.same rfl) hS hA (fun H locs hP hS => ?_)
  refine lv_if_ne (tgt := 11) hx hb dX5_house_5 (by decide) (fun c3 => ?_) (fun c3 => ?_)
  · replace hM := if_at_neg hM c3
    refine lv_iload_n hx hb dX5_house_11 rfl (lv_at hl 2 rfl) ?_
    by_cases c4_0 : i2 = (0 : Int32)
    · replace hM := if_at_pos hM c4_0
      refine lv_tableIn (off := 28) (tgt := 40) hx hb dX5_house_12 (by rw [c4_0]; decide) (by rw [c4_0]; decide) (by rw [c4_0]; rfl) (by decide) ?_
      refine lv_aload_n hx hb dX5_house_40 rfl (lv_at hl 0 rfl) ?_
      refine va_get hx hb hts hi5 hown hK hP 0 rfl rfl 3 (by decide) (hts (.fieldLink RX5 17 "NightPlotsModel" "kind" "[I") (List.mem_of_getElem? (i := 1) rfl)) (fun _ h9 => h9) rfl dX5_house_41 ?_
      refine lv_iload_n hx hb dX5_house_44 rfl (lv_at hl 1 rfl) ?_
      obtain ⟨hi_5, hM⟩ := chkI_at hM
      refine va_iald hx hb hK hP 2 0 rfl rfl hi_5 dX5_house_45 ?_
      cases hM
      rw [hQQ]
      exact W.iret hx hb hr (fun t ht hW => ⟨⟨_, (), rfl, rfl, by show va_P D vwCl _ t.heap; rw [ht]; exact hP⟩, hS.F ht⟩) hS.2.2 dX5_house_46
    · replace hM := if_at_neg hM c4_0
      by_cases c4_1 : i2 = (1 : Int32)
      · replace hM := if_at_pos hM c4_1
        refine lv_tableIn (off := 35) (tgt := 47) hx hb dX5_house_12 (by rw [c4_1]; decide) (by rw [c4_1]; decide) (by rw [c4_1]; rfl) (by decide) ?_
        refine lv_aload_n hx hb dX5_house_47 rfl (lv_at hl 0 rfl) ?_
        refine va_get hx hb hts hi5 hown hK hP 0 rfl rfl 26 (by decide) (hts (.fieldLink RX5 38 "NightPlotsModel" "now" "[I") (List.mem_of_getElem? (i := 2) rfl)) (fun _ h9 => h9) rfl dX5_house_48 ?_
        refine lv_iload_n hx hb dX5_house_51 rfl (lv_at hl 1 rfl) ?_
        obtain ⟨hi_6, hM⟩ := chkI_at hM
        refine va_iald hx hb hK hP 8 0 rfl rfl hi_6 dX5_house_52 ?_
        cases hM
        rw [hQQ]
        exact W.iret hx hb hr (fun t ht hW => ⟨⟨_, (), rfl, rfl, by show va_P D vwCl _ t.heap; rw [ht]; exact hP⟩, hS.F ht⟩) hS.2.2 dX5_house_53
      · replace hM := if_at_neg hM c4_1
        by_cases c4_2 : i2 = (2 : Int32)
        · replace hM := if_at_pos hM c4_2
          refine lv_tableIn (off := 42) (tgt := 54) hx hb dX5_house_12 (by rw [c4_2]; decide) (by rw [c4_2]; decide) (by rw [c4_2]; rfl) (by decide) ?_
          refine lv_aload_n hx hb dX5_house_54 rfl (lv_at hl 0 rfl) ?_
          refine va_get hx hb hts hi5 hown hK hP 0 rfl rfl 26 (by decide) (hts (.fieldLink RX5 38 "NightPlotsModel" "now" "[I") (List.mem_of_getElem? (i := 2) rfl)) (fun _ h9 => h9) rfl dX5_house_55 ?_
          refine lv_bipush (v := (8 : Int32)) hx hb dX5_house_58 (by decide) ?_
          refine lv_iload_n hx hb dX5_house_60 rfl (lv_at hl 1 rfl) ?_
          refine lv_iadd hx hb dX5_house_61 ?_
          obtain ⟨hi_7, hM⟩ := chkI_at hM
          refine va_iald hx hb hK hP 8 0 rfl rfl hi_7 dX5_house_62 ?_
          refine lv_iconst (v := (-1 : Int32)) hx hb dX5_house_63 (by decide) ?_
          refine jn1_at (fun (x8 : Int32) => ∀ (H : Heap) (locs : List Loc) (ls : Array Slot), va_P D vwCl (cMod Y oM mM tk) H → va_S A s.heap H locs → lv_has ls 3 [] → W p l e (headSpec wsX5_house rmX5_house).room s m ([.ref (oM 0), .int i1, .int i2] : List Value).toArray below meth c H locs 0 0 QQ (F0 m 90 ls [.int x8])) hM (fun x8 hM H locs ls hP hS hl => ?_) (fun k9 hJ9 hM => ?_)
          · cases hM
            rw [hQQ]
            exact W.iret hx hb hr (fun t ht hW => ⟨⟨_, (), rfl, rfl, by show va_P D vwCl _ t.heap; rw [ht]; exact hP⟩, hS.F ht⟩) hS.2.2 dX5_house_90
          · refine lv_icmp_ne (tgt := 71) hx hb dX5_house_64 (by decide) (fun c10 => ?_) (fun c10 => ?_)
            · replace hM := if_at_neg hM c10
              refine lv_aload_n hx hb dX5_house_71 rfl (lv_at hl 0 rfl) ?_
              refine va_get hx hb hts hi5 hown hK hP 0 rfl rfl 26 (by decide) (hts (.fieldLink RX5 38 "NightPlotsModel" "now" "[I") (List.mem_of_getElem? (i := 2) rfl)) (fun _ h9 => h9) rfl dX5_house_72 ?_
              refine lv_bipush (v := (16 : Int32)) hx hb dX5_house_75 (by decide) ?_
              obtain ⟨hi_11, hM⟩ := chkI_at hM
              refine va_iald hx hb hK hP 8 0 rfl rfl hi_11 dX5_house_77 ?_
              refine lv_aload_n hx hb dX5_house_78 rfl (lv_at hl 0 rfl) ?_
              refine va_get hx hb hts hi5 hown hK hP 0 rfl rfl 26 (by decide) (hts (.fieldLink RX5 38 "NightPlotsModel" "now" "[I") (List.mem_of_getElem? (i := 2) rfl)) (fun _ h9 => h9) rfl dX5_house_79 ?_
              refine lv_bipush (v := (8 : Int32)) hx hb dX5_house_82 (by decide) ?_
              refine lv_iload_n hx hb dX5_house_84 rfl (lv_at hl 1 rfl) ?_
              refine lv_iadd hx hb dX5_house_85 ?_
              obtain ⟨hi_12, hM⟩ := chkI_at hM
              refine va_iald hx hb hK hP 8 0 rfl rfl hi_12 dX5_house_86 ?_
              refine lv_isub hx hb dX5_house_87 ?_
              refine lv_iconst (v := (1 : Int32)) hx hb dX5_house_88 (by decide) ?_
              refine lv_isub hx hb dX5_house_89 ?_
              exact hJ9 (((mM 8 (16 : Int32).toNatClampNeg) - (mM 8 ((8 : Int32) + i1).toNatClampNeg)) - (1 : Int32)) hM H locs ls hP hS (lv_sub hl [] rfl)
            · replace hM := if_at_pos hM c10
              refine lv_iconst (v := (-1 : Int32)) hx hb dX5_house_67 (by decide) ?_
              refine lv_goto (tgt := 90) hx hb dX5_house_68 (by decide) ?_
              exact hJ9 (-1 : Int32) hM H locs ls hP hS (lv_sub hl [] rfl)
        · replace hM := if_at_neg hM c4_2
          refine lv_tableOut (tgt := 91) hx hb dX5_house_12 (by have n4_0 := lv_neT (a := 0) c4_0 rfl; have n4_1 := lv_neT (a := 1) c4_1 rfl; have n4_2 := lv_neT (a := 2) c4_2 rfl; omega) (by decide) ?_
          refine lv_bipush (v := (-3 : Int32)) hx hb dX5_house_91 (by decide) ?_
          cases hM
          rw [hQQ]
          exact W.iret hx hb hr (fun t ht hW => ⟨⟨_, (), rfl, rfl, by show va_P D vwCl _ t.heap; rw [ht]; exact hP⟩, hS.F ht⟩) hS.2.2 dX5_house_93
  · replace hM := if_at_pos hM c3
    refine lv_bipush (v := (-2 : Int32)) hx hb dX5_house_8 (by decide) ?_
    cases hM
    rw [hQQ]
    exact W.iret hx hb hr (fun t ht hW => ⟨⟨_, (), rfl, rfl, by show va_P D vwCl _ t.heap; rw [ht]; exact hP⟩, hS.F ht⟩) hS.2.2 dX5_house_10
noncomputable def MX5_as (mM : GS) (i1 : Int32) (i2 : Int32) : Option (Int32 × GS) := bnd1 (MX5_isHouse mM i1) fun (r1 : Int32) => if r1 = 0 then (some ((-2 : Int32), mM)) else (bnd1 (MX5_in i2 (0 : Int32) (4 : Int32)) fun (r4 : Int32) => if r4 = 0 then (some ((-3 : Int32), mM)) else (jn1 (fun (x7 : Int32) => bnd1 (MX5_layWays mM i1) fun (mM_9 : GS) => jn1 (fun (x11 : Int32) => some (x11, mM_9)) (fun k12 => if x7 = 0 then (k12 (-4 : Int32)) else (k12 (mM_9 0 32)))) (fun k8 => jn0 (k8 (1 : Int32)) (fun k14 => if i2 = 0 then (k14) else (jn0 (k8 (0 : Int32)) (fun k16 => if i2 = (1 : Int32) then (chkI i1 8 (if (3 : Int32) ≤ (mM 2 i1.toNatClampNeg) then (k16) else (k14))) else (if i2 = (2 : Int32) then (chkI i1 8 (if (mM 2 i1.toNatClampNeg) = (1 : Int32) then (k14) else (k16))) else (if i2 = (3 : Int32) then (chkI i1 8 (if (mM 2 i1.toNatClampNeg) = (2 : Int32) then (k14) else (k16))) else (chkI i1 8 (if (mM 2 i1.toNatClampNeg) = (3 : Int32) then (k14) else (k16)))))))))))
abbrev rmX5_as : Room := { frames := 4, cells := 0, slots := 0, locals := 160 }
set_option maxHeartbeats 4000000 in
set_option maxRecDepth 100000 in
theorem ctX5_as (l : Launch) (D : va_G) (Y : Nat → ClassId) (oM : Nat → Nat) (sz : Nat) (mM : GS) (tk : Int64) (i1 : Int32) (i2 : Int32) (rr : Int32) (mMz : GS) (hM : MX5_as mM i1 i2 = some (rr, mMz)) : Met l yX5_as wsX5_as rmX5_as (pcW [.ref (oM 0), .int i1, .int i2] sz D Y (cMod Y oM mM tk)) (qiW rr D (cMod Y oM mMz tk) (va_A (cMod Y oM mM tk) sz)) 0 0 (va_A (cMod Y oM mM tk) sz) := by
  refine Met.ofW (cc := cX5_as) (maxL := 4) (ret := (some .int)) (by decide) rfl ?_
  intro p e s m args below meth c s₁ B hml hv
  obtain ⟨rfl, hsz, hP, hK, hD0⟩ := hv
  have hx := B.exec
  have hb := B.bytes
  have hr := B.returns
  have hts := atoms_spec (ws := wsX5_as) B.pre
  have hown : s.vm.findClass RX5 = some m.cls := findClass_of_methodNamed B.named
  have hlocks := B.notSynchronized
  subst hsz
  have hD := hD0.self (sz := s.heap.size)
  generalize hAe : va_A (cMod Y oM mM tk) s.heap.size = A at hD ⊢
  have hA : ∀ q : Nat, s.heap.size ≤ q → A q := fun q h => by rw [← hAe]; exact Or.inr h
  have hS : va_S A s.heap s.heap [] := va_S.rf
  have hi5 : ∀ w ∈ wsX50, w ∈ wsX5_as := fun w h => List.mem_cons_of_mem _ (List.mem_append_right _ h)
  have hl := lv_entry ([.ref (oM 0), .int i1, .int i2]) (n := 4) (Nat.le_of_ble_eq_true rfl)
  rw [lg_entry_eq]
  generalize (lg_sl ([.ref (oM 0), .int i1, .int i2]) ++ List.replicate (4 - (lg_sl ([.ref (oM 0), .int i1, .int i2])).length) Slot.unset).toArray = ls at hl ⊢
  have hl : lv_has ls 4 [(0, .ref (oM 0)), (1, .int i1), (2, .int i2)] := hl
  obtain ⟨QQ, hQQ⟩ : ∃ Q : State → Prop, Q = MQ below (qiW rr D (cMod Y oM mMz tk) A) ([.ref (oM 0), .int i1, .int i2] : List Value).toArray s 0 0 A := ⟨_, rfl⟩
  rw [← hQQ]
  unfold MX5_as at hM
  suffices hI : ∀ (H : Heap) (locs : List Loc), va_P D vwCl (cMod Y oM mM tk) H → va_S A s.heap H locs → W p l e (headSpec wsX5_as rmX5_as).room s m ([.ref (oM 0), .int i1, .int i2] : List Value).toArray below meth c H locs 0 0 QQ (F0 m 0 ls []) from hI _ _ hP hS
  clear hP hS
  intro H locs hP hS
  refine lv_aload_n hx hb dX5_as_0 rfl (lv_at hl 0 rfl) ?_
  refine lv_iload_n hx hb dX5_as_1 rfl (lv_at hl 1 rfl) ?_
  obtain ⟨r1, hc2, hM⟩ := bnd1_at hM
  refine co_i (va_runV (As := [.int i1]) (rest := []) ⟨hx, hb, hml, hown, hts⟩ (ctX5_isHouse l D Y oM H.size mM tk i1 r1 hc2) (cwV 1 hts gX5_as_X5_isHouse rfl rfl rfl (by decide +kernel) ⟨Nat.le_of_ble_eq_true rfl, Nat.le_of_ble_eq_true rfl⟩) (pcW_V0 (ci := 5) (q0 := 0) hK hP (hD.same rfl) rfl rfl) rfl rfl hl.1 rfl (lv_room (Nat.le_of_ble_eq_true rfl)) dX5_as_2 ⟨Nat.zero_le _, Nat.zero_le _⟩) (hD.same rfl) hS hA (fun H locs hP hS => ?_)
  refine lv_if_ne (tgt := 11) hx hb dX5_as_5 (by decide) (fun c3 => ?_) (fun c3 => ?_)
  · replace hM := if_at_neg hM c3
    refine lv_iload_n hx hb dX5_as_11 rfl (lv_at hl 2 rfl) ?_
    refine lv_iconst (v := (0 : Int32)) hx hb dX5_as_12 (by decide) ?_
    refine lv_iconst (v := (4 : Int32)) hx hb dX5_as_13 (by decide) ?_
    obtain ⟨r4, hc5, hM⟩ := bnd1_at hM
    refine cm_i (w2 := (cMod Y oM mM tk)) (va_runS (As := [.int i2, .int (0 : Int32), .int (4 : Int32)]) (rest := []) ⟨hx, hb, hml, hown, hts⟩ (ctX5_in l D Y H.size i2 (0 : Int32) (4 : Int32) r4 hc5) (cwS 3 hts gX5_as_X5_in rfl rfl rfl (by decide +kernel) ⟨Nat.le_of_ble_eq_true rfl, Nat.le_of_ble_eq_true rfl⟩) (pcW_S hK hP (hD.same rfl) [] rfl (pc_map pc_nil)) rfl rfl hl.1 rfl (lv_room (Nat.le_of_ble_eq_true rfl)) dX5_as_14 ⟨Nat.zero_le _, Nat.zero_le _⟩) hP (hD.same rfl) hS hA [] (pc_map pc_nil) (up_old rfl rfl (up_old rfl rfl (up_old rfl rfl (up_old rfl rfl (up_old rfl rfl (up_old rfl rfl (up_old rfl rfl (up_old rfl rfl (up_old rfl rfl (up_old rfl rfl (up_old rfl rfl (up_old rfl rfl (up_old rfl rfl (up_old rfl rfl (up_old rfl rfl (up_old rfl rfl (up_old rfl rfl (up_old rfl rfl (up_old rfl rfl up_nil))))))))))))))))))) (fun H locs hP hS => ?_)
    refine lv_if_ne (tgt := 23) hx hb dX5_as_17 (by decide) (fun c6 => ?_) (fun c6 => ?_)
    · replace hM := if_at_neg hM c6
      refine lv_iload_n hx hb dX5_as_23 rfl (lv_at hl 2 rfl) ?_
      refine jn1_at (fun (x7 : Int32) => ∀ (H : Heap) (locs : List Loc) (ls : Array Slot), va_P D vwCl (cMod Y oM mM tk) H → va_S A s.heap H locs → lv_has ls 4 [(0, .ref (oM 0)), (1, .int i1)] → W p l e (headSpec wsX5_as rmX5_as).room s m ([.ref (oM 0), .int i1, .int i2] : List Value).toArray below meth c H locs 0 0 QQ (F0 m 96 ls [.int x7])) hM (fun x7 hM H locs ls hP hS hl => ?_) (fun k8 hJ8 hM => ?_)
      · refine lv_istore_n (lv' := [(3, .int x7), (0, .ref (oM 0)), (1, .int i1)]) hx hb dX5_as_96 rfl hl (by decide) rfl (fun ls hl => ?_)
        refine lv_aload_n hx hb dX5_as_97 rfl (lv_at hl 1 rfl) ?_
        refine lv_iload_n hx hb dX5_as_98 rfl (lv_at hl 2 rfl) ?_
        obtain ⟨mM_9, hc10, hM⟩ := bnd1_at hM
        refine co_v (va_runV (As := [.int i1]) (rest := []) ⟨hx, hb, hml, hown, hts⟩ (ctX5_layWays l D Y oM H.size mM tk i1 mM_9 hc10) (cwV 1 hts gX5_as_X5_layWays rfl rfl rfl (by decide +kernel) ⟨Nat.le_of_ble_eq_true rfl, Nat.le_of_ble_eq_true rfl⟩) (pcW_V0 (ci := 5) (q0 := 0) hK hP (hD.same rfl) rfl rfl) rfl rfl hl.1 rfl (lv_room (Nat.le_of_ble_eq_true rfl)) dX5_as_99 ⟨Nat.zero_le _, Nat.zero_le _⟩) (hD.same rfl) hS hA (fun H locs hP hS => ?_)
        refine lv_iload_n hx hb dX5_as_102 rfl (lv_at hl 0 rfl) ?_
        refine jn1_at (fun (x11 : Int32) => ∀ (H : Heap) (locs : List Loc) (ls : Array Slot), va_P D vwCl (cMod Y oM mM_9 tk) H → va_S A s.heap H locs → lv_has ls 4 [] → W p l e (headSpec wsX5_as rmX5_as).room s m ([.ref (oM 0), .int i1, .int i2] : List Value).toArray below meth c H locs 0 0 QQ (F0 m 115 ls [.int x11])) hM (fun x11 hM H locs ls hP hS hl => ?_) (fun k12 hJ12 hM => ?_)
        · cases hM
          rw [hQQ]
          exact W.iret hx hb hr (fun t ht hW => ⟨⟨_, (), rfl, rfl, by show va_P D vwCl _ t.heap; rw [ht]; exact hP⟩, hS.F ht⟩) hS.2.2 dX5_as_115
        · refine lv_if_eq (tgt := 113) hx hb dX5_as_103 (by decide) (fun c13 => ?_) (fun c13 => ?_)
          · replace hM := if_at_pos hM c13
            refine lv_bipush (v := (-4 : Int32)) hx hb dX5_as_113 (by decide) ?_
            exact hJ12 (-4 : Int32) hM H locs ls hP hS (lv_sub hl [] rfl)
          · replace hM := if_at_neg hM c13
            refine lv_aload_n hx hb dX5_as_106 rfl (lv_at hl 1 rfl) ?_
            refine va_get hx hb hts hi5 hown hK hP 0 rfl rfl 32 (by decide) (hts (.fieldLink RX5 225 "NightPlotsModel" "wayMany" "I") (List.mem_of_getElem? (i := 2) rfl)) (fun _ h9 => h9) rfl dX5_as_107 ?_
            refine lv_goto (tgt := 115) hx hb dX5_as_110 (by decide) ?_
            exact hJ12 (mM_9 0 32) hM H locs ls hP hS (lv_sub hl [] rfl)
      · refine jn0_at (∀ (H : Heap) (locs : List Loc) (ls : Array Slot), va_P D vwCl (cMod Y oM mM tk) H → va_S A s.heap H locs → lv_has ls 4 [(0, .ref (oM 0)), (1, .int i1)] → W p l e (headSpec wsX5_as rmX5_as).room s m ([.ref (oM 0), .int i1, .int i2] : List Value).toArray below meth c H locs 0 0 QQ (F0 m 91 ls [])) hM (fun  hM H locs ls hP hS hl => ?_) (fun k14 hJ14 hM => ?_)
        · refine lv_iconst (v := (1 : Int32)) hx hb dX5_as_91 (by decide) ?_
          refine lv_goto (tgt := 96) hx hb dX5_as_92 (by decide) ?_
          exact hJ8 (1 : Int32) hM H locs ls hP hS (lv_sub hl [0, 1] rfl)
        · refine lv_if_eq (tgt := 91) hx hb dX5_as_24 (by decide) (fun c15 => ?_) (fun c15 => ?_)
          · replace hM := if_at_pos hM c15
            exact hJ14 hM H locs ls hP hS (lv_sub hl [0, 1] rfl)
          · replace hM := if_at_neg hM c15
            refine lv_iload_n hx hb dX5_as_27 rfl (lv_at hl 2 rfl) ?_
            refine lv_iconst (v := (1 : Int32)) hx hb dX5_as_28 (by decide) ?_
            refine jn0_at (∀ (H : Heap) (locs : List Loc) (ls : Array Slot), va_P D vwCl (cMod Y oM mM tk) H → va_S A s.heap H locs → lv_has ls 4 [(0, .ref (oM 0)), (1, .int i1)] → W p l e (headSpec wsX5_as rmX5_as).room s m ([.ref (oM 0), .int i1, .int i2] : List Value).toArray below meth c H locs 0 0 QQ (F0 m 95 ls [])) hM (fun  hM H locs ls hP hS hl => ?_) (fun k16 hJ16 hM => ?_)
            · refine lv_iconst (v := (0 : Int32)) hx hb dX5_as_95 (by decide) ?_
              exact hJ8 (0 : Int32) hM H locs ls hP hS (lv_sub hl [0, 1] rfl)
            · refine lv_icmp_ne (tgt := 45) hx hb dX5_as_29 (by decide) (fun c17 => ?_) (fun c17 => ?_)
              · replace hM := if_at_neg hM c17
                refine lv_iload_n hx hb dX5_as_45 rfl (lv_at hl 2 rfl) ?_
                refine lv_iconst (v := (2 : Int32)) hx hb dX5_as_46 (by decide) ?_
                refine lv_icmp_ne (tgt := 63) hx hb dX5_as_47 (by decide) (fun c18 => ?_) (fun c18 => ?_)
                · replace hM := if_at_neg hM c18
                  refine lv_iload_n hx hb dX5_as_63 rfl (lv_at hl 2 rfl) ?_
                  refine lv_iconst (v := (3 : Int32)) hx hb dX5_as_64 (by decide) ?_
                  refine lv_icmp_ne (tgt := 81) hx hb dX5_as_65 (by decide) (fun c19 => ?_) (fun c19 => ?_)
                  · replace hM := if_at_neg hM c19
                    refine lv_aload_n hx hb dX5_as_81 rfl (lv_at hl 0 rfl) ?_
                    refine va_get hx hb hts hi5 hown hK hP 0 rfl rfl 3 (by decide) (hts (.fieldLink RX5 17 "NightPlotsModel" "kind" "[I") (List.mem_of_getElem? (i := 1) rfl)) (fun _ h9 => h9) rfl dX5_as_82 ?_
                    refine lv_iload_n hx hb dX5_as_85 rfl (lv_at hl 1 rfl) ?_
                    obtain ⟨hi_20, hM⟩ := chkI_at hM
                    refine va_iald hx hb hK hP 2 0 rfl rfl hi_20 dX5_as_86 ?_
                    refine lv_iconst (v := (3 : Int32)) hx hb dX5_as_87 (by decide) ?_
                    refine lv_icmp_ne (tgt := 95) hx hb dX5_as_88 (by decide) (fun c21 => ?_) (fun c21 => ?_)
                    · replace hM := if_at_neg hM c21
                      exact hJ16 hM H locs ls hP hS (lv_sub hl [0, 1] rfl)
                    · replace hM := if_at_pos hM c21
                      exact hJ14 hM H locs ls hP hS (lv_sub hl [0, 1] rfl)
                  · replace hM := if_at_pos hM c19
                    refine lv_aload_n hx hb dX5_as_68 rfl (lv_at hl 0 rfl) ?_
                    refine va_get hx hb hts hi5 hown hK hP 0 rfl rfl 3 (by decide) (hts (.fieldLink RX5 17 "NightPlotsModel" "kind" "[I") (List.mem_of_getElem? (i := 1) rfl)) (fun _ h9 => h9) rfl dX5_as_69 ?_
                    refine lv_iload_n hx hb dX5_as_72 rfl (lv_at hl 1 rfl) ?_
                    obtain ⟨hi_22, hM⟩ := chkI_at hM
                    refine va_iald hx hb hK hP 2 0 rfl rfl hi_22 dX5_as_73 ?_
                    refine lv_iconst (v := (2 : Int32)) hx hb dX5_as_74 (by decide) ?_
                    refine lv_icmp_ne (tgt := 95) hx hb dX5_as_75 (by decide) (fun c23 => ?_) (fun c23 => ?_)
                    · replace hM := if_at_neg hM c23
                      exact hJ16 hM H locs ls hP hS (lv_sub hl [0, 1] rfl)
                    · replace hM := if_at_pos hM c23
                      refine lv_goto (tgt := 91) hx hb dX5_as_78 (by decide) ?_
                      exact hJ14 hM H locs ls hP hS (lv_sub hl [0, 1] rfl)
                · replace hM := if_at_pos hM c18
                  refine lv_aload_n hx hb dX5_as_50 rfl (lv_at hl 0 rfl) ?_
                  refine va_get hx hb hts hi5 hown hK hP 0 rfl rfl 3 (by decide) (hts (.fieldLink RX5 17 "NightPlotsModel" "kind" "[I") (List.mem_of_getElem? (i := 1) rfl)) (fun _ h9 => h9) rfl dX5_as_51 ?_
                  refine lv_iload_n hx hb dX5_as_54 rfl (lv_at hl 1 rfl) ?_
                  obtain ⟨hi_24, hM⟩ := chkI_at hM
                  refine va_iald hx hb hK hP 2 0 rfl rfl hi_24 dX5_as_55 ?_
                  refine lv_iconst (v := (1 : Int32)) hx hb dX5_as_56 (by decide) ?_
                  refine lv_icmp_ne (tgt := 95) hx hb dX5_as_57 (by decide) (fun c25 => ?_) (fun c25 => ?_)
                  · replace hM := if_at_neg hM c25
                    exact hJ16 hM H locs ls hP hS (lv_sub hl [0, 1] rfl)
                  · replace hM := if_at_pos hM c25
                    refine lv_goto (tgt := 91) hx hb dX5_as_60 (by decide) ?_
                    exact hJ14 hM H locs ls hP hS (lv_sub hl [0, 1] rfl)
              · replace hM := if_at_pos hM c17
                refine lv_aload_n hx hb dX5_as_32 rfl (lv_at hl 0 rfl) ?_
                refine va_get hx hb hts hi5 hown hK hP 0 rfl rfl 3 (by decide) (hts (.fieldLink RX5 17 "NightPlotsModel" "kind" "[I") (List.mem_of_getElem? (i := 1) rfl)) (fun _ h9 => h9) rfl dX5_as_33 ?_
                refine lv_iload_n hx hb dX5_as_36 rfl (lv_at hl 1 rfl) ?_
                obtain ⟨hi_26, hM⟩ := chkI_at hM
                refine va_iald hx hb hK hP 2 0 rfl rfl hi_26 dX5_as_37 ?_
                refine lv_iconst (v := (3 : Int32)) hx hb dX5_as_38 (by decide) ?_
                refine lv_icmp_ge (tgt := 95) hx hb dX5_as_39 (by decide) (fun c27 => ?_) (fun c27 => ?_)
                · replace hM := if_at_pos hM c27
                  exact hJ16 hM H locs ls hP hS (lv_sub hl [0, 1] rfl)
                · replace hM := if_at_neg hM c27
                  refine lv_goto (tgt := 91) hx hb dX5_as_42 (by decide) ?_
                  exact hJ14 hM H locs ls hP hS (lv_sub hl [0, 1] rfl)
    · replace hM := if_at_pos hM c6
      refine lv_bipush (v := (-3 : Int32)) hx hb dX5_as_20 (by decide) ?_
      cases hM
      rw [hQQ]
      exact W.iret hx hb hr (fun t ht hW => ⟨⟨_, (), rfl, rfl, by show va_P D vwCl _ t.heap; rw [ht]; exact hP⟩, hS.F ht⟩) hS.2.2 dX5_as_22
  · replace hM := if_at_pos hM c3
    refine lv_bipush (v := (-2 : Int32)) hx hb dX5_as_8 (by decide) ?_
    cases hM
    rw [hQQ]
    exact W.iret hx hb hr (fun t ht hW => ⟨⟨_, (), rfl, rfl, by show va_P D vwCl _ t.heap; rw [ht]; exact hP⟩, hS.F ht⟩) hS.2.2 dX5_as_10
