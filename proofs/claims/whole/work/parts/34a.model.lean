noncomputable def MX5_in (i1 : Int32) (i2 : Int32) (i3 : Int32) : Option (Int32) := jn1 (fun (x1 : Int32) => chkB x1 (some (x1))) (fun k2 => jn0 (k2 (0 : Int32)) (fun k4 => if i1 < i2 then (k4) else (if i3 < i1 then (k4) else (k2 (1 : Int32)))))
abbrev rmX5_in : Room := { frames := 1, cells := 0, slots := 0, locals := 40 }
set_option maxHeartbeats 4000000 in
set_option maxRecDepth 100000 in
theorem ctX5_in (l : Launch) (D : va_G) (Y : Nat → ClassId) (sz : Nat) (i1 : Int32) (i2 : Int32) (i3 : Int32) (rr : Int32) (hM : MX5_in i1 i2 i3 = some (rr)) : Met l yX5_in wsX5_in rmX5_in (pcW [.int i1, .int i2, .int i3] sz D Y (([] : va_W))) (qiW rr D (([] : va_W)) (va_A (([] : va_W)) sz)) 0 0 (va_A (([] : va_W)) sz) := by
  refine Met.ofW (cc := cX5_in) (maxL := 3) (ret := (some .boolean)) (by decide) rfl ?_
  intro p e s m args below meth c s₁ B hml hv
  obtain ⟨rfl, hsz, hP, hK, hD0⟩ := hv
  have hx := B.exec
  have hb := B.bytes
  have hr := B.returns
  have hts := atoms_spec (ws := wsX5_in) B.pre
  have hown : s.vm.findClass RX5 = some m.cls := findClass_of_methodNamed B.named
  have hlocks := B.notSynchronized
  subst hsz
  have hD := hD0.self (sz := s.heap.size)
  generalize hAe : va_A (([] : va_W)) s.heap.size = A at hD ⊢
  have hA : ∀ q : Nat, s.heap.size ≤ q → A q := fun q h => by rw [← hAe]; exact Or.inr h
  have hS : va_S A s.heap s.heap [] := va_S.rf
  have hl := lv_entry ([.int i1, .int i2, .int i3]) (n := 3) (Nat.le_of_ble_eq_true rfl)
  rw [lg_entry_eq]
  generalize (lg_sl ([.int i1, .int i2, .int i3]) ++ List.replicate (3 - (lg_sl ([.int i1, .int i2, .int i3])).length) Slot.unset).toArray = ls at hl ⊢
  have hl : lv_has ls 3 [(0, .int i1), (1, .int i2), (2, .int i3)] := hl
  obtain ⟨QQ, hQQ⟩ : ∃ Q : State → Prop, Q = MQ below (qiW rr D (([] : va_W)) A) ([.int i1, .int i2, .int i3] : List Value).toArray s 0 0 A := ⟨_, rfl⟩
  rw [← hQQ]
  unfold MX5_in at hM
  suffices hI : ∀ (H : Heap) (locs : List Loc), va_P D vwCl (([] : va_W)) H → va_S A s.heap H locs → W p l e (headSpec wsX5_in rmX5_in).room s m ([.int i1, .int i2, .int i3] : List Value).toArray below meth c H locs 0 0 QQ (F0 m 0 ls []) from hI _ _ hP hS
  clear hP hS
  intro H locs hP hS
  refine lv_iload_n hx hb dX5_in_0 rfl (lv_at hl 0 rfl) ?_
  refine lv_iload_n hx hb dX5_in_1 rfl (lv_at hl 1 rfl) ?_
  refine jn1_at (fun (x1 : Int32) => ∀ (H : Heap) (locs : List Loc) (ls : Array Slot), va_P D vwCl (([] : va_W)) H → va_S A s.heap H locs → lv_has ls 3 [] → W p l e (headSpec wsX5_in rmX5_in).room s m ([.int i1, .int i2, .int i3] : List Value).toArray below meth c H locs 0 0 QQ (F0 m 15 ls [.int x1])) hM (fun x1 hM H locs ls hP hS hl => ?_) (fun k2 hJ2 hM => ?_)
  · obtain ⟨hz3, hM⟩ := chkB_at hM
    cases hM
    rw [hQQ]
    exact W.zret (ty := .boolean) hx hb hr hz3 (fun t ht hW => ⟨⟨_, (), rfl, rfl, by show va_P D vwCl _ t.heap; rw [ht]; exact hP⟩, hS.F ht⟩) hS.2.2 dX5_in_15
  · refine jn0_at (∀ (H : Heap) (locs : List Loc) (ls : Array Slot), va_P D vwCl (([] : va_W)) H → va_S A s.heap H locs → lv_has ls 3 [] → W p l e (headSpec wsX5_in rmX5_in).room s m ([.int i1, .int i2, .int i3] : List Value).toArray below meth c H locs 0 0 QQ (F0 m 14 ls [])) hM (fun  hM H locs ls hP hS hl => ?_) (fun k4 hJ4 hM => ?_)
    · refine lv_iconst (v := (0 : Int32)) hx hb dX5_in_14 (by decide) ?_
      exact hJ2 (0 : Int32) hM H locs ls hP hS (lv_sub hl [] rfl)
    · refine lv_icmp_lt (tgt := 14) hx hb dX5_in_2 (by decide) (fun c5 => ?_) (fun c5 => ?_)
      · replace hM := if_at_pos hM c5
        exact hJ4 hM H locs ls hP hS (lv_sub hl [] rfl)
      · replace hM := if_at_neg hM c5
        refine lv_iload_n hx hb dX5_in_5 rfl (lv_at hl 0 rfl) ?_
        refine lv_iload_n hx hb dX5_in_6 rfl (lv_at hl 2 rfl) ?_
        refine lv_icmp_gt (tgt := 14) hx hb dX5_in_7 (by decide) (fun c6 => ?_) (fun c6 => ?_)
        · replace hM := if_at_pos hM c6
          exact hJ4 hM H locs ls hP hS (lv_sub hl [] rfl)
        · replace hM := if_at_neg hM c6
          refine lv_iconst (v := (1 : Int32)) hx hb dX5_in_10 (by decide) ?_
          refine lv_goto (tgt := 15) hx hb dX5_in_11 (by decide) ?_
          exact hJ2 (1 : Int32) hM H locs ls hP hS (lv_sub hl [] rfl)
noncomputable def MX5_has (i1 : Int32) (i2 : Int32) : Option (Int32) := jn1 (fun (x1 : Int32) => chkB x1 (some (x1))) (fun k2 => if ((i1 >>> (i2 &&& 31)) &&& (1 : Int32)) = (1 : Int32) then (k2 (1 : Int32)) else (k2 (0 : Int32)))
abbrev rmX5_has : Room := { frames := 1, cells := 0, slots := 0, locals := 40 }
set_option maxHeartbeats 4000000 in
set_option maxRecDepth 100000 in
theorem ctX5_has (l : Launch) (D : va_G) (Y : Nat → ClassId) (sz : Nat) (i1 : Int32) (i2 : Int32) (rr : Int32) (hM : MX5_has i1 i2 = some (rr)) : Met l yX5_has wsX5_has rmX5_has (pcW [.int i1, .int i2] sz D Y (([] : va_W))) (qiW rr D (([] : va_W)) (va_A (([] : va_W)) sz)) 0 0 (va_A (([] : va_W)) sz) := by
  refine Met.ofW (cc := cX5_has) (maxL := 2) (ret := (some .boolean)) (by decide) rfl ?_
  intro p e s m args below meth c s₁ B hml hv
  obtain ⟨rfl, hsz, hP, hK, hD0⟩ := hv
  have hx := B.exec
  have hb := B.bytes
  have hr := B.returns
  have hts := atoms_spec (ws := wsX5_has) B.pre
  have hown : s.vm.findClass RX5 = some m.cls := findClass_of_methodNamed B.named
  have hlocks := B.notSynchronized
  subst hsz
  have hD := hD0.self (sz := s.heap.size)
  generalize hAe : va_A (([] : va_W)) s.heap.size = A at hD ⊢
  have hA : ∀ q : Nat, s.heap.size ≤ q → A q := fun q h => by rw [← hAe]; exact Or.inr h
  have hS : va_S A s.heap s.heap [] := va_S.rf
  have hl := lv_entry ([.int i1, .int i2]) (n := 2) (Nat.le_of_ble_eq_true rfl)
  rw [lg_entry_eq]
  generalize (lg_sl ([.int i1, .int i2]) ++ List.replicate (2 - (lg_sl ([.int i1, .int i2])).length) Slot.unset).toArray = ls at hl ⊢
  have hl : lv_has ls 2 [(0, .int i1), (1, .int i2)] := hl
  obtain ⟨QQ, hQQ⟩ : ∃ Q : State → Prop, Q = MQ below (qiW rr D (([] : va_W)) A) ([.int i1, .int i2] : List Value).toArray s 0 0 A := ⟨_, rfl⟩
  rw [← hQQ]
  unfold MX5_has at hM
  suffices hI : ∀ (H : Heap) (locs : List Loc), va_P D vwCl (([] : va_W)) H → va_S A s.heap H locs → W p l e (headSpec wsX5_has rmX5_has).room s m ([.int i1, .int i2] : List Value).toArray below meth c H locs 0 0 QQ (F0 m 0 ls []) from hI _ _ hP hS
  clear hP hS
  intro H locs hP hS
  refine lv_iload_n hx hb dX5_has_0 rfl (lv_at hl 0 rfl) ?_
  refine lv_iload_n hx hb dX5_has_1 rfl (lv_at hl 1 rfl) ?_
  refine lv_ishr hx hb dX5_has_2 ?_
  refine lv_iconst (v := (1 : Int32)) hx hb dX5_has_3 (by decide) ?_
  refine lv_iand hx hb dX5_has_4 ?_
  refine lv_iconst (v := (1 : Int32)) hx hb dX5_has_5 (by decide) ?_
  refine jn1_at (fun (x1 : Int32) => ∀ (H : Heap) (locs : List Loc) (ls : Array Slot), va_P D vwCl (([] : va_W)) H → va_S A s.heap H locs → lv_has ls 2 [] → W p l e (headSpec wsX5_has rmX5_has).room s m ([.int i1, .int i2] : List Value).toArray below meth c H locs 0 0 QQ (F0 m 14 ls [.int x1])) hM (fun x1 hM H locs ls hP hS hl => ?_) (fun k2 hJ2 hM => ?_)
  · obtain ⟨hz3, hM⟩ := chkB_at hM
    cases hM
    rw [hQQ]
    exact W.zret (ty := .boolean) hx hb hr hz3 (fun t ht hW => ⟨⟨_, (), rfl, rfl, by show va_P D vwCl _ t.heap; rw [ht]; exact hP⟩, hS.F ht⟩) hS.2.2 dX5_has_14
  · refine lv_icmp_ne (tgt := 13) hx hb dX5_has_6 (by decide) (fun c4 => ?_) (fun c4 => ?_)
    · replace hM := if_at_neg hM c4
      refine lv_iconst (v := (0 : Int32)) hx hb dX5_has_13 (by decide) ?_
      exact hJ2 (0 : Int32) hM H locs ls hP hS (lv_sub hl [] rfl)
    · replace hM := if_at_pos hM c4
      refine lv_iconst (v := (1 : Int32)) hx hb dX5_has_9 (by decide) ?_
      refine lv_goto (tgt := 14) hx hb dX5_has_10 (by decide) ?_
      exact hJ2 (1 : Int32) hM H locs ls hP hS (lv_sub hl [] rfl)
noncomputable def MX5_isHouse (mM : GS) (i1 : Int32) : Option (Int32) := bnd1 (MX5_in i1 (0 : Int32) ((mM 0 2) - (1 : Int32))) fun (r1 : Int32) => chkB r1 (some (r1))
abbrev rmX5_isHouse : Room := { frames := 2, cells := 0, slots := 0, locals := 80 }
set_option maxHeartbeats 4000000 in
set_option maxRecDepth 100000 in
theorem ctX5_isHouse (l : Launch) (D : va_G) (Y : Nat → ClassId) (oM : Nat → Nat) (sz : Nat) (mM : GS) (tk : Int64) (i1 : Int32) (rr : Int32) (hM : MX5_isHouse mM i1 = some (rr)) : Met l yX5_isHouse wsX5_isHouse rmX5_isHouse (pcW [.ref (oM 0), .int i1] sz D Y (cMod Y oM mM tk)) (qiW rr D (cMod Y oM mM tk) (va_A (cMod Y oM mM tk) sz)) 0 0 (va_A (cMod Y oM mM tk) sz) := by
  refine Met.ofW (cc := cX5_isHouse) (maxL := 2) (ret := (some .boolean)) (by decide) rfl ?_
  intro p e s m args below meth c s₁ B hml hv
  obtain ⟨rfl, hsz, hP, hK, hD0⟩ := hv
  have hx := B.exec
  have hb := B.bytes
  have hr := B.returns
  have hts := atoms_spec (ws := wsX5_isHouse) B.pre
  have hown : s.vm.findClass RX5 = some m.cls := findClass_of_methodNamed B.named
  have hlocks := B.notSynchronized
  subst hsz
  have hD := hD0.self (sz := s.heap.size)
  generalize hAe : va_A (cMod Y oM mM tk) s.heap.size = A at hD ⊢
  have hA : ∀ q : Nat, s.heap.size ≤ q → A q := fun q h => by rw [← hAe]; exact Or.inr h
  have hS : va_S A s.heap s.heap [] := va_S.rf
  have hi5 : ∀ w ∈ wsX50, w ∈ wsX5_isHouse := fun w h => List.mem_cons_of_mem _ (List.mem_append_right _ h)
  have hl := lv_entry ([.ref (oM 0), .int i1]) (n := 2) (Nat.le_of_ble_eq_true rfl)
  rw [lg_entry_eq]
  generalize (lg_sl ([.ref (oM 0), .int i1]) ++ List.replicate (2 - (lg_sl ([.ref (oM 0), .int i1])).length) Slot.unset).toArray = ls at hl ⊢
  have hl : lv_has ls 2 [(0, .ref (oM 0)), (1, .int i1)] := hl
  obtain ⟨QQ, hQQ⟩ : ∃ Q : State → Prop, Q = MQ below (qiW rr D (cMod Y oM mM tk) A) ([.ref (oM 0), .int i1] : List Value).toArray s 0 0 A := ⟨_, rfl⟩
  rw [← hQQ]
  unfold MX5_isHouse at hM
  suffices hI : ∀ (H : Heap) (locs : List Loc), va_P D vwCl (cMod Y oM mM tk) H → va_S A s.heap H locs → W p l e (headSpec wsX5_isHouse rmX5_isHouse).room s m ([.ref (oM 0), .int i1] : List Value).toArray below meth c H locs 0 0 QQ (F0 m 0 ls []) from hI _ _ hP hS
  clear hP hS
  intro H locs hP hS
  refine lv_iload_n hx hb dX5_isHouse_0 rfl (lv_at hl 1 rfl) ?_
  refine lv_iconst (v := (0 : Int32)) hx hb dX5_isHouse_1 (by decide) ?_
  refine lv_aload_n hx hb dX5_isHouse_2 rfl (lv_at hl 0 rfl) ?_
  refine va_get hx hb hts hi5 hown hK hP 0 rfl rfl 2 (by decide) (hts (.fieldLink RX5 78 "NightPlotsModel" "houses" "I") (List.mem_of_getElem? (i := 1) rfl)) (fun _ h9 => h9) rfl dX5_isHouse_3 ?_
  refine lv_iconst (v := (1 : Int32)) hx hb dX5_isHouse_6 (by decide) ?_
  refine lv_isub hx hb dX5_isHouse_7 ?_
  obtain ⟨r1, hc2, hM⟩ := bnd1_at hM
  refine cm_i (w2 := (cMod Y oM mM tk)) (va_runS (As := [.int i1, .int (0 : Int32), .int ((mM 0 2) - (1 : Int32))]) (rest := []) ⟨hx, hb, hml, hown, hts⟩ (ctX5_in l D Y H.size i1 (0 : Int32) ((mM 0 2) - (1 : Int32)) r1 hc2) (cwS 3 hts gX5_isHouse_X5_in rfl rfl rfl (by decide +kernel) ⟨Nat.le_of_ble_eq_true rfl, Nat.le_of_ble_eq_true rfl⟩) (pcW_S hK hP (hD.same rfl) [] rfl (pc_map pc_nil)) rfl rfl hl.1 rfl (lv_room (Nat.le_of_ble_eq_true rfl)) dX5_isHouse_8 ⟨Nat.zero_le _, Nat.zero_le _⟩) hP (hD.same rfl) hS hA [] (pc_map pc_nil) (up_old rfl rfl (up_old rfl rfl (up_old rfl rfl (up_old rfl rfl (up_old rfl rfl (up_old rfl rfl (up_old rfl rfl (up_old rfl rfl (up_old rfl rfl (up_old rfl rfl (up_old rfl rfl (up_old rfl rfl (up_old rfl rfl (up_old rfl rfl (up_old rfl rfl (up_old rfl rfl (up_old rfl rfl (up_old rfl rfl (up_old rfl rfl up_nil))))))))))))))))))) (fun H locs hP hS => ?_)
  obtain ⟨hz3, hM⟩ := chkB_at hM
  cases hM
  rw [hQQ]
  exact W.zret (ty := .boolean) hx hb hr hz3 (fun t ht hW => ⟨⟨_, (), rfl, rfl, by show va_P D vwCl _ t.heap; rw [ht]; exact hP⟩, hS.F ht⟩) hS.2.2 dX5_isHouse_11
noncomputable def MX5_isPlot (mM : GS) (i1 : Int32) : Option (Int32) := bnd1 (MX5_in i1 (0 : Int32) ((mM 0 0) - (1 : Int32))) fun (r1 : Int32) => chkB r1 (some (r1))
abbrev rmX5_isPlot : Room := { frames := 2, cells := 0, slots := 0, locals := 80 }
set_option maxHeartbeats 4000000 in
set_option maxRecDepth 100000 in
theorem ctX5_isPlot (l : Launch) (D : va_G) (Y : Nat → ClassId) (oM : Nat → Nat) (sz : Nat) (mM : GS) (tk : Int64) (i1 : Int32) (rr : Int32) (hM : MX5_isPlot mM i1 = some (rr)) : Met l yX5_isPlot wsX5_isPlot rmX5_isPlot (pcW [.ref (oM 0), .int i1] sz D Y (cMod Y oM mM tk)) (qiW rr D (cMod Y oM mM tk) (va_A (cMod Y oM mM tk) sz)) 0 0 (va_A (cMod Y oM mM tk) sz) := by
  refine Met.ofW (cc := cX5_isPlot) (maxL := 2) (ret := (some .boolean)) (by decide) rfl ?_
  intro p e s m args below meth c s₁ B hml hv
  obtain ⟨rfl, hsz, hP, hK, hD0⟩ := hv
  have hx := B.exec
  have hb := B.bytes
  have hr := B.returns
  have hts := atoms_spec (ws := wsX5_isPlot) B.pre
  have hown : s.vm.findClass RX5 = some m.cls := findClass_of_methodNamed B.named
  have hlocks := B.notSynchronized
  subst hsz
  have hD := hD0.self (sz := s.heap.size)
  generalize hAe : va_A (cMod Y oM mM tk) s.heap.size = A at hD ⊢
  have hA : ∀ q : Nat, s.heap.size ≤ q → A q := fun q h => by rw [← hAe]; exact Or.inr h
  have hS : va_S A s.heap s.heap [] := va_S.rf
  have hi5 : ∀ w ∈ wsX50, w ∈ wsX5_isPlot := fun w h => List.mem_cons_of_mem _ (List.mem_append_right _ h)
  have hl := lv_entry ([.ref (oM 0), .int i1]) (n := 2) (Nat.le_of_ble_eq_true rfl)
  rw [lg_entry_eq]
  generalize (lg_sl ([.ref (oM 0), .int i1]) ++ List.replicate (2 - (lg_sl ([.ref (oM 0), .int i1])).length) Slot.unset).toArray = ls at hl ⊢
  have hl : lv_has ls 2 [(0, .ref (oM 0)), (1, .int i1)] := hl
  obtain ⟨QQ, hQQ⟩ : ∃ Q : State → Prop, Q = MQ below (qiW rr D (cMod Y oM mM tk) A) ([.ref (oM 0), .int i1] : List Value).toArray s 0 0 A := ⟨_, rfl⟩
  rw [← hQQ]
  unfold MX5_isPlot at hM
  suffices hI : ∀ (H : Heap) (locs : List Loc), va_P D vwCl (cMod Y oM mM tk) H → va_S A s.heap H locs → W p l e (headSpec wsX5_isPlot rmX5_isPlot).room s m ([.ref (oM 0), .int i1] : List Value).toArray below meth c H locs 0 0 QQ (F0 m 0 ls []) from hI _ _ hP hS
  clear hP hS
  intro H locs hP hS
  refine lv_iload_n hx hb dX5_isPlot_0 rfl (lv_at hl 1 rfl) ?_
  refine lv_iconst (v := (0 : Int32)) hx hb dX5_isPlot_1 (by decide) ?_
  refine lv_aload_n hx hb dX5_isPlot_2 rfl (lv_at hl 0 rfl) ?_
  refine va_get hx hb hts hi5 hown hK hP 0 rfl rfl 0 (by decide) (hts (.fieldLink RX5 7 "NightPlotsModel" "plots" "I") (List.mem_of_getElem? (i := 1) rfl)) (fun _ h9 => h9) rfl dX5_isPlot_3 ?_
  refine lv_iconst (v := (1 : Int32)) hx hb dX5_isPlot_6 (by decide) ?_
  refine lv_isub hx hb dX5_isPlot_7 ?_
  obtain ⟨r1, hc2, hM⟩ := bnd1_at hM
  refine cm_i (w2 := (cMod Y oM mM tk)) (va_runS (As := [.int i1, .int (0 : Int32), .int ((mM 0 0) - (1 : Int32))]) (rest := []) ⟨hx, hb, hml, hown, hts⟩ (ctX5_in l D Y H.size i1 (0 : Int32) ((mM 0 0) - (1 : Int32)) r1 hc2) (cwS 3 hts gX5_isPlot_X5_in rfl rfl rfl (by decide +kernel) ⟨Nat.le_of_ble_eq_true rfl, Nat.le_of_ble_eq_true rfl⟩) (pcW_S hK hP (hD.same rfl) [] rfl (pc_map pc_nil)) rfl rfl hl.1 rfl (lv_room (Nat.le_of_ble_eq_true rfl)) dX5_isPlot_8 ⟨Nat.zero_le _, Nat.zero_le _⟩) hP (hD.same rfl) hS hA [] (pc_map pc_nil) (up_old rfl rfl (up_old rfl rfl (up_old rfl rfl (up_old rfl rfl (up_old rfl rfl (up_old rfl rfl (up_old rfl rfl (up_old rfl rfl (up_old rfl rfl (up_old rfl rfl (up_old rfl rfl (up_old rfl rfl (up_old rfl rfl (up_old rfl rfl (up_old rfl rfl (up_old rfl rfl (up_old rfl rfl (up_old rfl rfl (up_old rfl rfl up_nil))))))))))))))))))) (fun H locs hP hS => ?_)
  obtain ⟨hz3, hM⟩ := chkB_at hM
  cases hM
  rw [hQQ]
  exact W.zret (ty := .boolean) hx hb hr hz3 (fun t ht hW => ⟨⟨_, (), rfl, rfl, by show va_P D vwCl _ t.heap; rw [ht]; exact hP⟩, hS.F ht⟩) hS.2.2 dX5_isPlot_11
noncomputable def BX5_plain_2 (k2 : GS → Option (GS)) (rec10 : Int32 → GS → Option (GS)) (x8 : Int32) (mM_9 : GS) : Option (GS) := if (12 : Int32) ≤ x8 then (k2 mM_9) else (chkI x8 12 (nm (upA mM_9 1 (upd (mM_9 1) x8.toNatClampNeg (1 : Int32))) fun (mM_13 : GS) => nm (x8 + 1) fun (x14 : Int32) => rec10 x14 mM_13))
noncomputable def MX5_plain (mM : GS) : Option (GS) := jn1 (fun (mM_1 : GS) => nm (up2 mM_1 0 2 (0 : Int32)) fun (mM_3 : GS) => nm (up2 mM_3 0 5 (0 : Int32)) fun (mM_4 : GS) => nm (up2 mM_4 0 7 (0 : Int32)) fun (mM_5 : GS) => nm (up2 mM_5 0 9 (0 : Int32)) fun (mM_6 : GS) => nm (up2 mM_6 0 10 (1 : Int32)) fun (mM_7 : GS) => some (mM_7)) (fun k2 => lq2 (BX5_plain_2 k2) FU (0 : Int32) mM)
abbrev rmX5_plain : Room := { frames := 1, cells := 0, slots := 0, locals := 40 }
set_option maxHeartbeats 4000000 in
set_option maxRecDepth 100000 in
theorem ctX5_plain (l : Launch) (D : va_G) (Y : Nat → ClassId) (oM : Nat → Nat) (sz : Nat) (mM : GS) (tk : Int64) (mMz : GS) (hM : MX5_plain mM = some (mMz)) : Met l yX5_plain wsX5_plain rmX5_plain (pcW [.ref (oM 0)] sz D Y (cMod Y oM mM tk)) (qvW D (cMod Y oM mMz tk) (va_A (cMod Y oM mM tk) sz)) 0 0 (va_A (cMod Y oM mM tk) sz) := by
  refine Met.ofW (cc := cX5_plain) (maxL := 2) (ret := (none)) (by decide) rfl ?_
  intro p e s m args below meth c s₁ B hml hv
  obtain ⟨rfl, hsz, hP, hK, hD0⟩ := hv
  have hx := B.exec
  have hb := B.bytes
  have hr := B.returns
  have hts := atoms_spec (ws := wsX5_plain) B.pre
  have hown : s.vm.findClass RX5 = some m.cls := findClass_of_methodNamed B.named
  have hlocks := B.notSynchronized
  subst hsz
  have hD := hD0.self (sz := s.heap.size)
  generalize hAe : va_A (cMod Y oM mM tk) s.heap.size = A at hD ⊢
  have hA : ∀ q : Nat, s.heap.size ≤ q → A q := fun q h => by rw [← hAe]; exact Or.inr h
  have hS : va_S A s.heap s.heap [] := va_S.rf
  have hi5 : ∀ w ∈ wsX50, w ∈ wsX5_plain := fun w h => List.mem_cons_of_mem _ (List.mem_append_right _ h)
  have hl := lv_entry ([.ref (oM 0)]) (n := 2) (Nat.le_of_ble_eq_true rfl)
  rw [lg_entry_eq]
  generalize (lg_sl ([.ref (oM 0)]) ++ List.replicate (2 - (lg_sl ([.ref (oM 0)])).length) Slot.unset).toArray = ls at hl ⊢
  have hl : lv_has ls 2 [(0, .ref (oM 0))] := hl
  obtain ⟨QQ, hQQ⟩ : ∃ Q : State → Prop, Q = MQ below (qvW D (cMod Y oM mMz tk) A) ([.ref (oM 0)] : List Value).toArray s 0 0 A := ⟨_, rfl⟩
  rw [← hQQ]
  unfold MX5_plain at hM
  suffices hI : ∀ (H : Heap) (locs : List Loc), va_P D vwCl (cMod Y oM mM tk) H → va_S A s.heap H locs → W p l e (headSpec wsX5_plain rmX5_plain).room s m ([.ref (oM 0)] : List Value).toArray below meth c H locs 0 0 QQ (F0 m 0 ls []) from hI _ _ hP hS
  clear hP hS
  intro H locs hP hS
  refine lv_iconst (v := (0 : Int32)) hx hb dX5_plain_0 (by decide) ?_
  refine lv_istore_n (lv' := [(1, .int (0 : Int32)), (0, .ref (oM 0))]) hx hb dX5_plain_1 rfl hl (by decide) rfl (fun ls hl => ?_)
  refine jn1_at (fun (mM_1 : GS) => ∀ (H : Heap) (locs : List Loc) (ls : Array Slot), va_P D vwCl (cMod Y oM mM_1 tk) H → va_S A s.heap H locs → lv_has ls 2 [(0, .ref (oM 0))] → W p l e (headSpec wsX5_plain rmX5_plain).room s m ([.ref (oM 0)] : List Value).toArray below meth c H locs 0 0 QQ (F0 m 21 ls [])) hM (fun mM_1 hM H locs ls hP hS hl => ?_) (fun k2 hJ2 hM => ?_)
  · refine lv_aload_n hx hb dX5_plain_21 rfl (lv_at hl 0 rfl) ?_
    refine lv_iconst (v := (0 : Int32)) hx hb dX5_plain_22 (by decide) ?_
    refine va_put (ty := .int) hx hb hts hi5 tyX5 tyX5_ok nmX5 hown hK hP (hD.same rfl) hS 0 rfl rfl 2 (by decide) (hts (.fieldLink RX5 78 "NightPlotsModel" "houses" "I") (List.mem_of_getElem? (i := 2) rfl)) (fun _ h9 => h9) rfl (by decide +kernel) rfl rfl (Nat.le_of_ble_eq_true rfl) dX5_plain_23 (fun H locs hP _ hS => ?_)
    obtain ⟨mM_3, emM_3⟩ : ∃ z : GS, z = (up2 mM_1 0 2 (0 : Int32)) := ⟨_, rfl⟩
    have hP : va_P D vwCl (cMod Y oM mM_3 tk) H := by rw [emM_3]; exact hP
    replace hM := nm_at hM emM_3
    refine lv_aload_n hx hb dX5_plain_26 rfl (lv_at hl 0 rfl) ?_
    refine lv_iconst (v := (0 : Int32)) hx hb dX5_plain_27 (by decide) ?_
    refine va_put (ty := .int) hx hb hts hi5 tyX5 tyX5_ok nmX5 hown hK hP (hD.same rfl) hS 0 rfl rfl 5 (by decide) (hts (.fieldLink RX5 85 "NightPlotsModel" "paths" "I") (List.mem_of_getElem? (i := 3) rfl)) (fun _ h9 => h9) rfl (by decide +kernel) rfl rfl (Nat.le_of_ble_eq_true rfl) dX5_plain_28 (fun H locs hP _ hS => ?_)
    obtain ⟨mM_4, emM_4⟩ : ∃ z : GS, z = (up2 mM_3 0 5 (0 : Int32)) := ⟨_, rfl⟩
    have hP : va_P D vwCl (cMod Y oM mM_4 tk) H := by rw [emM_4]; exact hP
    replace hM := nm_at hM emM_4
    refine lv_aload_n hx hb dX5_plain_31 rfl (lv_at hl 0 rfl) ?_
    refine lv_iconst (v := (0 : Int32)) hx hb dX5_plain_32 (by decide) ?_
    refine va_put (ty := .int) hx hb hts hi5 tyX5 tyX5_ok nmX5 hown hK hP (hD.same rfl) hS 0 rfl rfl 7 (by decide) (hts (.fieldLink RX5 88 "NightPlotsModel" "feuds" "I") (List.mem_of_getElem? (i := 4) rfl)) (fun _ h9 => h9) rfl (by decide +kernel) rfl rfl (Nat.le_of_ble_eq_true rfl) dX5_plain_33 (fun H locs hP _ hS => ?_)
    obtain ⟨mM_5, emM_5⟩ : ∃ z : GS, z = (up2 mM_4 0 7 (0 : Int32)) := ⟨_, rfl⟩
    have hP : va_P D vwCl (cMod Y oM mM_5 tk) H := by rw [emM_5]; exact hP
    replace hM := nm_at hM emM_5
    refine lv_aload_n hx hb dX5_plain_36 rfl (lv_at hl 0 rfl) ?_
    refine lv_iconst (v := (0 : Int32)) hx hb dX5_plain_37 (by decide) ?_
    refine va_put (ty := .int) hx hb hts hi5 tyX5 tyX5_ok nmX5 hown hK hP (hD.same rfl) hS 0 rfl rfl 9 (by decide) (hts (.fieldLink RX5 91 "NightPlotsModel" "law" "I") (List.mem_of_getElem? (i := 5) rfl)) (fun _ h9 => h9) rfl (by decide +kernel) rfl rfl (Nat.le_of_ble_eq_true rfl) dX5_plain_38 (fun H locs hP _ hS => ?_)
    obtain ⟨mM_6, emM_6⟩ : ∃ z : GS, z = (up2 mM_5 0 9 (0 : Int32)) := ⟨_, rfl⟩
    have hP : va_P D vwCl (cMod Y oM mM_6 tk) H := by rw [emM_6]; exact hP
    replace hM := nm_at hM emM_6
    refine lv_aload_n hx hb dX5_plain_41 rfl (lv_at hl 0 rfl) ?_
    refine lv_iconst (v := (1 : Int32)) hx hb dX5_plain_42 (by decide) ?_
    refine va_put (ty := .int) hx hb hts hi5 tyX5 tyX5_ok nmX5 hown hK hP (hD.same rfl) hS 0 rfl rfl 10 (by decide) (hts (.fieldLink RX5 29 "NightPlotsModel" "seed" "I") (List.mem_of_getElem? (i := 6) rfl)) (fun _ h9 => h9) rfl (by decide +kernel) rfl rfl (Nat.le_of_ble_eq_true rfl) dX5_plain_43 (fun H locs hP _ hS => ?_)
    obtain ⟨mM_7, emM_7⟩ : ∃ z : GS, z = (up2 mM_6 0 10 (1 : Int32)) := ⟨_, rfl⟩
    have hP : va_P D vwCl (cMod Y oM mM_7 tk) H := by rw [emM_7]; exact hP
    replace hM := nm_at hM emM_7
    cases hM
    rw [hQQ]
    exact W.vret hx hb hr (fun t ht hW => ⟨⟨(), rfl, trivial, by show va_P D vwCl _ t.heap; rw [ht]; exact hP⟩, hS.F ht⟩) hS.2.2 dX5_plain_46
  · refine lq2_at (fun (x8 : Int32) (mM_9 : GS) => ∀ (H : Heap) (locs : List Loc) (ls : Array Slot), va_P D vwCl (cMod Y oM mM_9 tk) H → va_S A s.heap H locs → lv_has ls 2 [(0, .ref (oM 0)), (1, .int x8)] → W p l e (headSpec wsX5_plain rmX5_plain).room s m ([.ref (oM 0)] : List Value).toArray below meth c H locs 0 0 QQ (F0 m 2 ls [])) (fun rec10 x8 mM_9 ih10 hM H locs ls hP hS hl => ?_) FU (0 : Int32) mM hM H locs ls hP hS (lv_sub hl [1, 0] rfl)
    unfold BX5_plain_2 at hM
    refine lv_iload_n hx hb dX5_plain_2 rfl (lv_at hl 1 rfl) ?_
    refine lv_bipush (v := (12 : Int32)) hx hb dX5_plain_3 (by decide) ?_
    refine lv_icmp_ge (tgt := 21) hx hb dX5_plain_5 (by decide) (fun c11 => ?_) (fun c11 => ?_)
    · replace hM := if_at_pos hM c11
      exact hJ2 mM_9 hM H locs ls hP hS (lv_sub hl [0] rfl)
    · replace hM := if_at_neg hM c11
      refine lv_aload_n hx hb dX5_plain_8 rfl (lv_at hl 0 rfl) ?_
      refine va_get hx hb hts hi5 hown hK hP 0 rfl rfl 1 (by decide) (hts (.fieldLink RX5 13 "NightPlotsModel" "crop" "[I") (List.mem_of_getElem? (i := 1) rfl)) (fun _ h9 => h9) rfl dX5_plain_9 ?_
      refine lv_iload_n hx hb dX5_plain_12 rfl (lv_at hl 1 rfl) ?_
      refine lv_iconst (v := (1 : Int32)) hx hb dX5_plain_13 (by decide) ?_
      obtain ⟨hi_12, hM⟩ := chkI_at hM
      refine va_iast hx hb hK hP (hD.same rfl) hS 1 0 rfl rfl hi_12 dX5_plain_14 (fun H locs hP _ hS => ?_)
      obtain ⟨mM_13, emM_13⟩ : ∃ z : GS, z = (upA mM_9 1 (upd (mM_9 1) x8.toNatClampNeg (1 : Int32))) := ⟨_, rfl⟩
      have hP : va_P D vwCl (cMod Y oM mM_13 tk) H := by rw [emM_13]; exact hP
      replace hM := nm_at hM emM_13
      obtain ⟨x14, ex14⟩ : ∃ z : Int32, z = (x8 + 1) := ⟨_, rfl⟩
      replace hM := nm_at hM ex14
      refine lv_iinc (v := x14) (lv' := [(1, .int x14), (0, .ref (oM 0))]) hx hb dX5_plain_15 hl (k := 1) rfl (by rw [ex14]; rfl) (by decide) rfl (fun ls hl => ?_)
      refine lv_goto (tgt := 2) hx hb dX5_plain_18 (by decide) ?_
      exact ih10 x14 mM_13 hM H locs ls hP hS (lv_sub hl [1, 0] rfl)
noncomputable def BX5_begin_2 (k2 : GS → Option (GS)) (rec12 : Int32 → GS → Option (GS)) (x10 : Int32) (mM_11 : GS) : Option (GS) := if (8 : Int32) ≤ x10 then (k2 mM_11) else (chkI x10 8 (nm (mM_11 3 x10.toNatClampNeg) fun (x15 : Int32) => chkI x10 19 (nm (upA mM_11 8 (upd (mM_11 8) x10.toNatClampNeg x15)) fun (mM_17 : GS) => chkI ((8 : Int32) + x10) 19 (nm (upA mM_17 8 (upd (mM_17 8) ((8 : Int32) + x10).toNatClampNeg (-1 : Int32))) fun (mM_19 : GS) => nm (x10 + 1) fun (x20 : Int32) => rec12 x20 mM_19))))
noncomputable def MX5_begin (mM : GS) : Option (GS) := jn1 (fun (mM_1 : GS) => chkI (16 : Int32) 19 (nm (upA mM_1 8 (upd (mM_1 8) (16 : Int32).toNatClampNeg (0 : Int32))) fun (mM_4 : GS) => chkI (17 : Int32) 19 (nm (upA mM_4 8 (upd (mM_4 8) (17 : Int32).toNatClampNeg (0 : Int32))) fun (mM_6 : GS) => nm (mM_6 0 10) fun (x7 : Int32) => chkI (18 : Int32) 19 (nm (upA mM_6 8 (upd (mM_6 8) (18 : Int32).toNatClampNeg x7)) fun (mM_9 : GS) => some (mM_9))))) (fun k2 => lq2 (BX5_begin_2 k2) FU (0 : Int32) mM)
abbrev rmX5_begin : Room := { frames := 1, cells := 0, slots := 0, locals := 40 }
set_option maxHeartbeats 4000000 in
set_option maxRecDepth 100000 in
theorem ctX5_begin (l : Launch) (D : va_G) (Y : Nat → ClassId) (oM : Nat → Nat) (sz : Nat) (mM : GS) (tk : Int64) (mMz : GS) (hM : MX5_begin mM = some (mMz)) : Met l yX5_begin wsX5_begin rmX5_begin (pcW [.ref (oM 0)] sz D Y (cMod Y oM mM tk)) (qvW D (cMod Y oM mMz tk) (va_A (cMod Y oM mM tk) sz)) 0 0 (va_A (cMod Y oM mM tk) sz) := by
  refine Met.ofW (cc := cX5_begin) (maxL := 2) (ret := (none)) (by decide) rfl ?_
  intro p e s m args below meth c s₁ B hml hv
  obtain ⟨rfl, hsz, hP, hK, hD0⟩ := hv
  have hx := B.exec
  have hb := B.bytes
  have hr := B.returns
  have hts := atoms_spec (ws := wsX5_begin) B.pre
  have hown : s.vm.findClass RX5 = some m.cls := findClass_of_methodNamed B.named
  have hlocks := B.notSynchronized
  subst hsz
  have hD := hD0.self (sz := s.heap.size)
  generalize hAe : va_A (cMod Y oM mM tk) s.heap.size = A at hD ⊢
  have hA : ∀ q : Nat, s.heap.size ≤ q → A q := fun q h => by rw [← hAe]; exact Or.inr h
  have hS : va_S A s.heap s.heap [] := va_S.rf
  have hi5 : ∀ w ∈ wsX50, w ∈ wsX5_begin := fun w h => List.mem_cons_of_mem _ (List.mem_append_right _ h)
  have hl := lv_entry ([.ref (oM 0)]) (n := 2) (Nat.le_of_ble_eq_true rfl)
  rw [lg_entry_eq]
  generalize (lg_sl ([.ref (oM 0)]) ++ List.replicate (2 - (lg_sl ([.ref (oM 0)])).length) Slot.unset).toArray = ls at hl ⊢
  have hl : lv_has ls 2 [(0, .ref (oM 0))] := hl
  obtain ⟨QQ, hQQ⟩ : ∃ Q : State → Prop, Q = MQ below (qvW D (cMod Y oM mMz tk) A) ([.ref (oM 0)] : List Value).toArray s 0 0 A := ⟨_, rfl⟩
  rw [← hQQ]
  unfold MX5_begin at hM
  suffices hI : ∀ (H : Heap) (locs : List Loc), va_P D vwCl (cMod Y oM mM tk) H → va_S A s.heap H locs → W p l e (headSpec wsX5_begin rmX5_begin).room s m ([.ref (oM 0)] : List Value).toArray below meth c H locs 0 0 QQ (F0 m 0 ls []) from hI _ _ hP hS
  clear hP hS
  intro H locs hP hS
  refine lv_iconst (v := (0 : Int32)) hx hb dX5_begin_0 (by decide) ?_
  refine lv_istore_n (lv' := [(1, .int (0 : Int32)), (0, .ref (oM 0))]) hx hb dX5_begin_1 rfl hl (by decide) rfl (fun ls hl => ?_)
  refine jn1_at (fun (mM_1 : GS) => ∀ (H : Heap) (locs : List Loc) (ls : Array Slot), va_P D vwCl (cMod Y oM mM_1 tk) H → va_S A s.heap H locs → lv_has ls 2 [(0, .ref (oM 0))] → W p l e (headSpec wsX5_begin rmX5_begin).room s m ([.ref (oM 0)] : List Value).toArray below meth c H locs 0 0 QQ (F0 m 36 ls [])) hM (fun mM_1 hM H locs ls hP hS hl => ?_) (fun k2 hJ2 hM => ?_)
  · refine lv_aload_n hx hb dX5_begin_36 rfl (lv_at hl 0 rfl) ?_
    refine va_get hx hb hts hi5 hown hK hP 0 rfl rfl 26 (by decide) (hts (.fieldLink RX5 38 "NightPlotsModel" "now" "[I") (List.mem_of_getElem? (i := 1) rfl)) (fun _ h9 => h9) rfl dX5_begin_37 ?_
    refine lv_bipush (v := (16 : Int32)) hx hb dX5_begin_40 (by decide) ?_
    refine lv_iconst (v := (0 : Int32)) hx hb dX5_begin_42 (by decide) ?_
    obtain ⟨hi_3, hM⟩ := chkI_at hM
    refine va_iast hx hb hK hP (hD.same rfl) hS 8 0 rfl rfl hi_3 dX5_begin_43 (fun H locs hP _ hS => ?_)
    obtain ⟨mM_4, emM_4⟩ : ∃ z : GS, z = (upA mM_1 8 (upd (mM_1 8) (16 : Int32).toNatClampNeg (0 : Int32))) := ⟨_, rfl⟩
    have hP : va_P D vwCl (cMod Y oM mM_4 tk) H := by rw [emM_4]; exact hP
    replace hM := nm_at hM emM_4
    refine lv_aload_n hx hb dX5_begin_44 rfl (lv_at hl 0 rfl) ?_
    refine va_get hx hb hts hi5 hown hK hP 0 rfl rfl 26 (by decide) (hts (.fieldLink RX5 38 "NightPlotsModel" "now" "[I") (List.mem_of_getElem? (i := 1) rfl)) (fun _ h9 => h9) rfl dX5_begin_45 ?_
    refine lv_bipush (v := (17 : Int32)) hx hb dX5_begin_48 (by decide) ?_
    refine lv_iconst (v := (0 : Int32)) hx hb dX5_begin_50 (by decide) ?_
    obtain ⟨hi_5, hM⟩ := chkI_at hM
    refine va_iast hx hb hK hP (hD.same rfl) hS 8 0 rfl rfl hi_5 dX5_begin_51 (fun H locs hP _ hS => ?_)
    obtain ⟨mM_6, emM_6⟩ : ∃ z : GS, z = (upA mM_4 8 (upd (mM_4 8) (17 : Int32).toNatClampNeg (0 : Int32))) := ⟨_, rfl⟩
    have hP : va_P D vwCl (cMod Y oM mM_6 tk) H := by rw [emM_6]; exact hP
    replace hM := nm_at hM emM_6
    refine lv_aload_n hx hb dX5_begin_52 rfl (lv_at hl 0 rfl) ?_
    refine va_get hx hb hts hi5 hown hK hP 0 rfl rfl 26 (by decide) (hts (.fieldLink RX5 38 "NightPlotsModel" "now" "[I") (List.mem_of_getElem? (i := 1) rfl)) (fun _ h9 => h9) rfl dX5_begin_53 ?_
    refine lv_bipush (v := (18 : Int32)) hx hb dX5_begin_56 (by decide) ?_
    refine lv_aload_n hx hb dX5_begin_58 rfl (lv_at hl 0 rfl) ?_
    refine va_get hx hb hts hi5 hown hK hP 0 rfl rfl 10 (by decide) (hts (.fieldLink RX5 29 "NightPlotsModel" "seed" "I") (List.mem_of_getElem? (i := 3) rfl)) (fun _ h9 => h9) rfl dX5_begin_59 ?_
    refine lv_topi (fun x7 ex7 => ?_)
    replace hM := nm_at hM ex7
    obtain ⟨hi_8, hM⟩ := chkI_at hM
    refine va_iast hx hb hK hP (hD.same rfl) hS 8 0 rfl rfl hi_8 dX5_begin_62 (fun H locs hP _ hS => ?_)
    obtain ⟨mM_9, emM_9⟩ : ∃ z : GS, z = (upA mM_6 8 (upd (mM_6 8) (18 : Int32).toNatClampNeg x7)) := ⟨_, rfl⟩
    have hP : va_P D vwCl (cMod Y oM mM_9 tk) H := by rw [emM_9]; exact hP
    replace hM := nm_at hM emM_9
    cases hM
    rw [hQQ]
    exact W.vret hx hb hr (fun t ht hW => ⟨⟨(), rfl, trivial, by show va_P D vwCl _ t.heap; rw [ht]; exact hP⟩, hS.F ht⟩) hS.2.2 dX5_begin_63
  · refine lq2_at (fun (x10 : Int32) (mM_11 : GS) => ∀ (H : Heap) (locs : List Loc) (ls : Array Slot), va_P D vwCl (cMod Y oM mM_11 tk) H → va_S A s.heap H locs → lv_has ls 2 [(0, .ref (oM 0)), (1, .int x10)] → W p l e (headSpec wsX5_begin rmX5_begin).room s m ([.ref (oM 0)] : List Value).toArray below meth c H locs 0 0 QQ (F0 m 2 ls [])) (fun rec12 x10 mM_11 ih12 hM H locs ls hP hS hl => ?_) FU (0 : Int32) mM hM H locs ls hP hS (lv_sub hl [1, 0] rfl)
    unfold BX5_begin_2 at hM
    refine lv_iload_n hx hb dX5_begin_2 rfl (lv_at hl 1 rfl) ?_
    refine lv_bipush (v := (8 : Int32)) hx hb dX5_begin_3 (by decide) ?_
    refine lv_icmp_ge (tgt := 36) hx hb dX5_begin_5 (by decide) (fun c13 => ?_) (fun c13 => ?_)
    · replace hM := if_at_pos hM c13
      exact hJ2 mM_11 hM H locs ls hP hS (lv_sub hl [0] rfl)
    · replace hM := if_at_neg hM c13
      refine lv_aload_n hx hb dX5_begin_8 rfl (lv_at hl 0 rfl) ?_
      refine va_get hx hb hts hi5 hown hK hP 0 rfl rfl 26 (by decide) (hts (.fieldLink RX5 38 "NightPlotsModel" "now" "[I") (List.mem_of_getElem? (i := 1) rfl)) (fun _ h9 => h9) rfl dX5_begin_9 ?_
      refine lv_iload_n hx hb dX5_begin_12 rfl (lv_at hl 1 rfl) ?_
      refine lv_aload_n hx hb dX5_begin_13 rfl (lv_at hl 0 rfl) ?_
      refine va_get hx hb hts hi5 hown hK hP 0 rfl rfl 4 (by decide) (hts (.fieldLink RX5 20 "NightPlotsModel" "begins" "[I") (List.mem_of_getElem? (i := 2) rfl)) (fun _ h9 => h9) rfl dX5_begin_14 ?_
      refine lv_iload_n hx hb dX5_begin_17 rfl (lv_at hl 1 rfl) ?_
      obtain ⟨hi_14, hM⟩ := chkI_at hM
      refine va_iald hx hb hK hP 3 0 rfl rfl hi_14 dX5_begin_18 ?_
      refine lv_topi (fun x15 ex15 => ?_)
      replace hM := nm_at hM ex15
      obtain ⟨hi_16, hM⟩ := chkI_at hM
      refine va_iast hx hb hK hP (hD.same rfl) hS 8 0 rfl rfl hi_16 dX5_begin_19 (fun H locs hP _ hS => ?_)
      obtain ⟨mM_17, emM_17⟩ : ∃ z : GS, z = (upA mM_11 8 (upd (mM_11 8) x10.toNatClampNeg x15)) := ⟨_, rfl⟩
      have hP : va_P D vwCl (cMod Y oM mM_17 tk) H := by rw [emM_17]; exact hP
      replace hM := nm_at hM emM_17
      refine lv_aload_n hx hb dX5_begin_20 rfl (lv_at hl 0 rfl) ?_
      refine va_get hx hb hts hi5 hown hK hP 0 rfl rfl 26 (by decide) (hts (.fieldLink RX5 38 "NightPlotsModel" "now" "[I") (List.mem_of_getElem? (i := 1) rfl)) (fun _ h9 => h9) rfl dX5_begin_21 ?_
      refine lv_bipush (v := (8 : Int32)) hx hb dX5_begin_24 (by decide) ?_
      refine lv_iload_n hx hb dX5_begin_26 rfl (lv_at hl 1 rfl) ?_
      refine lv_iadd hx hb dX5_begin_27 ?_
      refine lv_iconst (v := (-1 : Int32)) hx hb dX5_begin_28 (by decide) ?_
      obtain ⟨hi_18, hM⟩ := chkI_at hM
      refine va_iast hx hb hK hP (hD.same rfl) hS 8 0 rfl rfl hi_18 dX5_begin_29 (fun H locs hP _ hS => ?_)
      obtain ⟨mM_19, emM_19⟩ : ∃ z : GS, z = (upA mM_17 8 (upd (mM_17 8) ((8 : Int32) + x10).toNatClampNeg (-1 : Int32))) := ⟨_, rfl⟩
      have hP : va_P D vwCl (cMod Y oM mM_19 tk) H := by rw [emM_19]; exact hP
      replace hM := nm_at hM emM_19
      obtain ⟨x20, ex20⟩ : ∃ z : Int32, z = (x10 + 1) := ⟨_, rfl⟩
      replace hM := nm_at hM ex20
      refine lv_iinc (v := x20) (lv' := [(1, .int x20), (0, .ref (oM 0))]) hx hb dX5_begin_30 hl (k := 1) rfl (by rw [ex20]; rfl) (by decide) rfl (fun ls hl => ?_)
      refine lv_goto (tgt := 2) hx hb dX5_begin_33 (by decide) ?_
      exact ih12 x20 mM_19 hM H locs ls hP hS (lv_sub hl [1, 0] rfl)
noncomputable def BX5_write_31 (i2 : Int32) (k6 : GS → Option (Int32 × GS)) (i1 : Int64) (rec11 : Int32 → GS → Option (Int32 × GS)) (x9 : Int32) (mM_10 : GS) : Option (Int32 × GS) := if i2 ≤ x9 then (k6 mM_10) else (nm (((i1 >>> (((8 : Int32) * x9).toInt64 &&& 63)) &&& (255 : Int64)).toInt32) fun (x13 : Int32) => chkI ((mM_10 0 11) + x9) 200 (nm (upA mM_10 6 (upd (mM_10 6) ((mM_10 0 11) + x9).toNatClampNeg x13)) fun (mM_15 : GS) => nm (x9 + 1) fun (x16 : Int32) => rec11 x16 mM_15))
noncomputable def MX5_write (mM : GS) (i1 : Int64) (i2 : Int32) : Option (Int32 × GS) := bnd1 (MX5_in i2 (1 : Int32) (8 : Int32)) fun (r1 : Int32) => if r1 = 0 then (some ((-3 : Int32), mM)) else (if ((mM 0 11) + i2) ≤ (200 : Int32) then (jn1 (fun (mM_5 : GS) => nm ((mM_5 0 11) + i2) fun (x7 : Int32) => nm (up2 mM_5 0 11 x7) fun (mM_8 : GS) => some ((mM_8 0 11), mM_8)) (fun k6 => lq2 (BX5_write_31 i2 k6 i1) FU (0 : Int32) mM)) else (some ((-5 : Int32), mM)))
abbrev rmX5_write : Room := { frames := 2, cells := 0, slots := 0, locals := 80 }
set_option maxHeartbeats 4000000 in
set_option maxRecDepth 100000 in
theorem ctX5_write (l : Launch) (D : va_G) (Y : Nat → ClassId) (oM : Nat → Nat) (sz : Nat) (mM : GS) (tk : Int64) (i1 : Int64) (i2 : Int32) (rr : Int32) (mMz : GS) (hM : MX5_write mM i1 i2 = some (rr, mMz)) : Met l yX5_write wsX5_write rmX5_write (pcW [.ref (oM 0), .long i1, .int i2] sz D Y (cMod Y oM mM tk)) (qiW rr D (cMod Y oM mMz tk) (va_A (cMod Y oM mM tk) sz)) 0 0 (va_A (cMod Y oM mM tk) sz) := by
  refine Met.ofW (cc := cX5_write) (maxL := 5) (ret := (some .int)) (by decide) rfl ?_
  intro p e s m args below meth c s₁ B hml hv
  obtain ⟨rfl, hsz, hP, hK, hD0⟩ := hv
  have hx := B.exec
  have hb := B.bytes
  have hr := B.returns
  have hts := atoms_spec (ws := wsX5_write) B.pre
  have hown : s.vm.findClass RX5 = some m.cls := findClass_of_methodNamed B.named
  have hlocks := B.notSynchronized
  subst hsz
  have hD := hD0.self (sz := s.heap.size)
  generalize hAe : va_A (cMod Y oM mM tk) s.heap.size = A at hD ⊢
  have hA : ∀ q : Nat, s.heap.size ≤ q → A q := fun q h => by rw [← hAe]; exact Or.inr h
  have hS : va_S A s.heap s.heap [] := va_S.rf
  have hi5 : ∀ w ∈ wsX50, w ∈ wsX5_write := fun w h => List.mem_cons_of_mem _ (List.mem_append_right _ h)
  have hl := lv_entry ([.ref (oM 0), .long i1, .int i2]) (n := 5) (Nat.le_of_ble_eq_true rfl)
  rw [lg_entry_eq]
  generalize (lg_sl ([.ref (oM 0), .long i1, .int i2]) ++ List.replicate (5 - (lg_sl ([.ref (oM 0), .long i1, .int i2])).length) Slot.unset).toArray = ls at hl ⊢
  have hl : lv_has ls 5 [(0, .ref (oM 0)), (1, .long i1), (3, .int i2)] := hl
  obtain ⟨QQ, hQQ⟩ : ∃ Q : State → Prop, Q = MQ below (qiW rr D (cMod Y oM mMz tk) A) ([.ref (oM 0), .long i1, .int i2] : List Value).toArray s 0 0 A := ⟨_, rfl⟩
  rw [← hQQ]
  unfold MX5_write at hM
  suffices hI : ∀ (H : Heap) (locs : List Loc), va_P D vwCl (cMod Y oM mM tk) H → va_S A s.heap H locs → W p l e (headSpec wsX5_write rmX5_write).room s m ([.ref (oM 0), .long i1, .int i2] : List Value).toArray below meth c H locs 0 0 QQ (F0 m 0 ls []) from hI _ _ hP hS
  clear hP hS
  intro H locs hP hS
  refine lv_iload_n hx hb dX5_write_0 rfl (lv_at hl 2 rfl) ?_
  refine lv_iconst (v := (1 : Int32)) hx hb dX5_write_1 (by decide) ?_
  refine lv_bipush (v := (8 : Int32)) hx hb dX5_write_2 (by decide) ?_
  obtain ⟨r1, hc2, hM⟩ := bnd1_at hM
  refine cm_i (w2 := (cMod Y oM mM tk)) (va_runS (As := [.int i2, .int (1 : Int32), .int (8 : Int32)]) (rest := []) ⟨hx, hb, hml, hown, hts⟩ (ctX5_in l D Y H.size i2 (1 : Int32) (8 : Int32) r1 hc2) (cwS 3 hts gX5_write_X5_in rfl rfl rfl (by decide +kernel) ⟨Nat.le_of_ble_eq_true rfl, Nat.le_of_ble_eq_true rfl⟩) (pcW_S hK hP (hD.same rfl) [] rfl (pc_map pc_nil)) rfl rfl hl.1 rfl (lv_room (Nat.le_of_ble_eq_true rfl)) dX5_write_4 ⟨Nat.zero_le _, Nat.zero_le _⟩) hP (hD.same rfl) hS hA [] (pc_map pc_nil) (up_old rfl rfl (up_old rfl rfl (up_old rfl rfl (up_old rfl rfl (up_old rfl rfl (up_old rfl rfl (up_old rfl rfl (up_old rfl rfl (up_old rfl rfl (up_old rfl rfl (up_old rfl rfl (up_old rfl rfl (up_old rfl rfl (up_old rfl rfl (up_old rfl rfl (up_old rfl rfl (up_old rfl rfl (up_old rfl rfl (up_old rfl rfl up_nil))))))))))))))))))) (fun H locs hP hS => ?_)
  refine lv_if_ne (tgt := 13) hx hb dX5_write_7 (by decide) (fun c3 => ?_) (fun c3 => ?_)
  · replace hM := if_at_neg hM c3
    refine lv_aload_n hx hb dX5_write_13 rfl (lv_at hl 0 rfl) ?_
    refine va_get hx hb hts hi5 hown hK hP 0 rfl rfl 11 (by decide) (hts (.fieldLink RX5 94 "NightPlotsModel" "bytes" "I") (List.mem_of_getElem? (i := 1) rfl)) (fun _ h9 => h9) rfl dX5_write_14 ?_
    refine lv_iload_n hx hb dX5_write_17 rfl (lv_at hl 2 rfl) ?_
    refine lv_iadd hx hb dX5_write_18 ?_
    refine lv_sipush (v := (200 : Int32)) hx hb dX5_write_19 (by decide) ?_
    refine lv_icmp_le (tgt := 28) hx hb dX5_write_22 (by decide) (fun c4 => ?_) (fun c4 => ?_)
    · replace hM := if_at_pos hM c4
      refine lv_iconst (v := (0 : Int32)) hx hb dX5_write_28 (by decide) ?_
      refine lv_istore (lv' := [(4, .int (0 : Int32)), (0, .ref (oM 0)), (1, .long i1), (3, .int i2)]) hx hb dX5_write_29 hl (by decide) rfl (fun ls hl => ?_)
      refine jn1_at (fun (mM_5 : GS) => ∀ (H : Heap) (locs : List Loc) (ls : Array Slot), va_P D vwCl (cMod Y oM mM_5 tk) H → va_S A s.heap H locs → lv_has ls 5 [(0, .ref (oM 0)), (3, .int i2)] → W p l e (headSpec wsX5_write rmX5_write).room s m ([.ref (oM 0), .long i1, .int i2] : List Value).toArray below meth c H locs 0 0 QQ (F0 m 67 ls [])) hM (fun mM_5 hM H locs ls hP hS hl => ?_) (fun k6 hJ6 hM => ?_)
      · refine lv_aload_n hx hb dX5_write_67 rfl (lv_at hl 0 rfl) ?_
        refine lv_dup hx hb dX5_write_68 rfl ?_
        refine va_get hx hb hts hi5 hown hK hP 0 rfl rfl 11 (by decide) (hts (.fieldLink RX5 94 "NightPlotsModel" "bytes" "I") (List.mem_of_getElem? (i := 1) rfl)) (fun _ h9 => h9) rfl dX5_write_69 ?_
        refine lv_iload_n hx hb dX5_write_72 rfl (lv_at hl 1 rfl) ?_
        refine lv_iadd hx hb dX5_write_73 ?_
        refine lv_topi (fun x7 ex7 => ?_)
        replace hM := nm_at hM ex7
        refine va_put (ty := .int) hx hb hts hi5 tyX5 tyX5_ok nmX5 hown hK hP (hD.same rfl) hS 0 rfl rfl 11 (by decide) (hts (.fieldLink RX5 94 "NightPlotsModel" "bytes" "I") (List.mem_of_getElem? (i := 1) rfl)) (fun _ h9 => h9) rfl (by decide +kernel) rfl rfl (Nat.le_of_ble_eq_true rfl) dX5_write_74 (fun H locs hP _ hS => ?_)
        obtain ⟨mM_8, emM_8⟩ : ∃ z : GS, z = (up2 mM_5 0 11 x7) := ⟨_, rfl⟩
        have hP : va_P D vwCl (cMod Y oM mM_8 tk) H := by rw [emM_8]; exact hP
        replace hM := nm_at hM emM_8
        refine lv_aload_n hx hb dX5_write_77 rfl (lv_at hl 0 rfl) ?_
        refine va_get hx hb hts hi5 hown hK hP 0 rfl rfl 11 (by decide) (hts (.fieldLink RX5 94 "NightPlotsModel" "bytes" "I") (List.mem_of_getElem? (i := 1) rfl)) (fun _ h9 => h9) rfl dX5_write_78 ?_
        cases hM
        rw [hQQ]
        exact W.iret hx hb hr (fun t ht hW => ⟨⟨_, (), rfl, rfl, by show va_P D vwCl _ t.heap; rw [ht]; exact hP⟩, hS.F ht⟩) hS.2.2 dX5_write_81
      · refine lq2_at (fun (x9 : Int32) (mM_10 : GS) => ∀ (H : Heap) (locs : List Loc) (ls : Array Slot), va_P D vwCl (cMod Y oM mM_10 tk) H → va_S A s.heap H locs → lv_has ls 5 [(0, .ref (oM 0)), (1, .long i1), (3, .int i2), (4, .int x9)] → W p l e (headSpec wsX5_write rmX5_write).room s m ([.ref (oM 0), .long i1, .int i2] : List Value).toArray below meth c H locs 0 0 QQ (F0 m 31 ls [])) (fun rec11 x9 mM_10 ih11 hM H locs ls hP hS hl => ?_) FU (0 : Int32) mM hM H locs ls hP hS (lv_sub hl [1, 2, 3, 0] rfl)
        unfold BX5_write_31 at hM
        refine lv_iload hx hb dX5_write_31 (lv_at hl 3 rfl) ?_
        refine lv_iload_n hx hb dX5_write_33 rfl (lv_at hl 2 rfl) ?_
        refine lv_icmp_ge (tgt := 67) hx hb dX5_write_34 (by decide) (fun c12 => ?_) (fun c12 => ?_)
        · replace hM := if_at_pos hM c12
          exact hJ6 mM_10 hM H locs ls hP hS (lv_sub hl [0, 2] rfl)
        · replace hM := if_at_neg hM c12
          refine lv_aload_n hx hb dX5_write_37 rfl (lv_at hl 0 rfl) ?_
          refine va_get hx hb hts hi5 hown hK hP 0 rfl rfl 12 (by decide) (hts (.fieldLink RX5 32 "NightPlotsModel" "text" "[I") (List.mem_of_getElem? (i := 2) rfl)) (fun _ h9 => h9) rfl dX5_write_38 ?_
          refine lv_aload_n hx hb dX5_write_41 rfl (lv_at hl 0 rfl) ?_
          refine va_get hx hb hts hi5 hown hK hP 0 rfl rfl 11 (by decide) (hts (.fieldLink RX5 94 "NightPlotsModel" "bytes" "I") (List.mem_of_getElem? (i := 1) rfl)) (fun _ h9 => h9) rfl dX5_write_42 ?_
          refine lv_iload hx hb dX5_write_45 (lv_at hl 3 rfl) ?_
          refine lv_iadd hx hb dX5_write_47 ?_
          refine lv_lload_n hx hb dX5_write_48 rfl (lv_at hl 1 rfl) ?_
          refine lv_bipush (v := (8 : Int32)) hx hb dX5_write_49 (by decide) ?_
          refine lv_iload hx hb dX5_write_51 (lv_at hl 3 rfl) ?_
          refine lv_imul hx hb dX5_write_53 ?_
          refine lv_lshr (v := (i1 >>> (((8 : Int32) * x9).toInt64 &&& 63))) hx hb dX5_write_54 rfl ?_
          refine lv_ldc2 (v := (255 : Int64)) hx hb hown (hts (.constantLong RX5 97 (255)) (List.mem_of_getElem? (i := 3) rfl)) dX5_write_55 ?_
          refine lv_land hx hb dX5_write_58 ?_
          refine lv_l2i (v := ((i1 >>> (((8 : Int32) * x9).toInt64 &&& 63)) &&& (255 : Int64)).toInt32) hx hb dX5_write_59 rfl ?_
          refine lv_topi (fun x13 ex13 => ?_)
          replace hM := nm_at hM ex13
          obtain ⟨hi_14, hM⟩ := chkI_at hM
          refine va_iast hx hb hK hP (hD.same rfl) hS 6 0 rfl rfl hi_14 dX5_write_60 (fun H locs hP _ hS => ?_)
          obtain ⟨mM_15, emM_15⟩ : ∃ z : GS, z = (upA mM_10 6 (upd (mM_10 6) ((mM_10 0 11) + x9).toNatClampNeg x13)) := ⟨_, rfl⟩
          have hP : va_P D vwCl (cMod Y oM mM_15 tk) H := by rw [emM_15]; exact hP
          replace hM := nm_at hM emM_15
          obtain ⟨x16, ex16⟩ : ∃ z : Int32, z = (x9 + 1) := ⟨_, rfl⟩
          replace hM := nm_at hM ex16
          refine lv_iinc (v := x16) (lv' := [(4, .int x16), (0, .ref (oM 0)), (1, .long i1), (3, .int i2)]) hx hb dX5_write_61 hl (k := 3) rfl (by rw [ex16]; rfl) (by decide) rfl (fun ls hl => ?_)
          refine lv_goto (tgt := 31) hx hb dX5_write_64 (by decide) ?_
          exact ih11 x16 mM_15 hM H locs ls hP hS (lv_sub hl [1, 2, 3, 0] rfl)
    · replace hM := if_at_neg hM c4
      refine lv_bipush (v := (-5 : Int32)) hx hb dX5_write_25 (by decide) ?_
      cases hM
      rw [hQQ]
      exact W.iret hx hb hr (fun t ht hW => ⟨⟨_, (), rfl, rfl, by show va_P D vwCl _ t.heap; rw [ht]; exact hP⟩, hS.F ht⟩) hS.2.2 dX5_write_27
  · replace hM := if_at_pos hM c3
    refine lv_bipush (v := (-3 : Int32)) hx hb dX5_write_10 (by decide) ?_
    cases hM
    rw [hQQ]
    exact W.iret hx hb hr (fun t ht hW => ⟨⟨_, (), rfl, rfl, by show va_P D vwCl _ t.heap; rw [ht]; exact hP⟩, hS.F ht⟩) hS.2.2 dX5_write_12
noncomputable def MX5_erase (mM : GS) : Option (Int32 × GS) := nm (mM 0 11) fun (x1 : Int32) => nm (up2 mM 0 11 (0 : Int32)) fun (mM_2 : GS) => some (x1, mM_2)
abbrev rmX5_erase : Room := { frames := 1, cells := 0, slots := 0, locals := 40 }
set_option maxHeartbeats 4000000 in
set_option maxRecDepth 100000 in
theorem ctX5_erase (l : Launch) (D : va_G) (Y : Nat → ClassId) (oM : Nat → Nat) (sz : Nat) (mM : GS) (tk : Int64) (rr : Int32) (mMz : GS) (hM : MX5_erase mM = some (rr, mMz)) : Met l yX5_erase wsX5_erase rmX5_erase (pcW [.ref (oM 0)] sz D Y (cMod Y oM mM tk)) (qiW rr D (cMod Y oM mMz tk) (va_A (cMod Y oM mM tk) sz)) 0 0 (va_A (cMod Y oM mM tk) sz) := by
  refine Met.ofW (cc := cX5_erase) (maxL := 2) (ret := (some .int)) (by decide) rfl ?_
  intro p e s m args below meth c s₁ B hml hv
  obtain ⟨rfl, hsz, hP, hK, hD0⟩ := hv
  have hx := B.exec
  have hb := B.bytes
  have hr := B.returns
  have hts := atoms_spec (ws := wsX5_erase) B.pre
  have hown : s.vm.findClass RX5 = some m.cls := findClass_of_methodNamed B.named
  have hlocks := B.notSynchronized
  subst hsz
  have hD := hD0.self (sz := s.heap.size)
  generalize hAe : va_A (cMod Y oM mM tk) s.heap.size = A at hD ⊢
  have hA : ∀ q : Nat, s.heap.size ≤ q → A q := fun q h => by rw [← hAe]; exact Or.inr h
  have hS : va_S A s.heap s.heap [] := va_S.rf
  have hi5 : ∀ w ∈ wsX50, w ∈ wsX5_erase := fun w h => List.mem_cons_of_mem _ (List.mem_append_right _ h)
  have hl := lv_entry ([.ref (oM 0)]) (n := 2) (Nat.le_of_ble_eq_true rfl)
  rw [lg_entry_eq]
  generalize (lg_sl ([.ref (oM 0)]) ++ List.replicate (2 - (lg_sl ([.ref (oM 0)])).length) Slot.unset).toArray = ls at hl ⊢
  have hl : lv_has ls 2 [(0, .ref (oM 0))] := hl
  obtain ⟨QQ, hQQ⟩ : ∃ Q : State → Prop, Q = MQ below (qiW rr D (cMod Y oM mMz tk) A) ([.ref (oM 0)] : List Value).toArray s 0 0 A := ⟨_, rfl⟩
  rw [← hQQ]
  unfold MX5_erase at hM
  suffices hI : ∀ (H : Heap) (locs : List Loc), va_P D vwCl (cMod Y oM mM tk) H → va_S A s.heap H locs → W p l e (headSpec wsX5_erase rmX5_erase).room s m ([.ref (oM 0)] : List Value).toArray below meth c H locs 0 0 QQ (F0 m 0 ls []) from hI _ _ hP hS
  clear hP hS
  intro H locs hP hS
  refine lv_aload_n hx hb dX5_erase_0 rfl (lv_at hl 0 rfl) ?_
  refine va_get hx hb hts hi5 hown hK hP 0 rfl rfl 11 (by decide) (hts (.fieldLink RX5 94 "NightPlotsModel" "bytes" "I") (List.mem_of_getElem? (i := 1) rfl)) (fun _ h9 => h9) rfl dX5_erase_1 ?_
  refine lv_topi (fun x1 ex1 => ?_)
  replace hM := nm_at hM ex1
  refine lv_istore_n (lv' := [(1, .int x1), (0, .ref (oM 0))]) hx hb dX5_erase_4 rfl hl (by decide) rfl (fun ls hl => ?_)
  refine lv_aload_n hx hb dX5_erase_5 rfl (lv_at hl 1 rfl) ?_
  refine lv_iconst (v := (0 : Int32)) hx hb dX5_erase_6 (by decide) ?_
  refine va_put (ty := .int) hx hb hts hi5 tyX5 tyX5_ok nmX5 hown hK hP (hD.same rfl) hS 0 rfl rfl 11 (by decide) (hts (.fieldLink RX5 94 "NightPlotsModel" "bytes" "I") (List.mem_of_getElem? (i := 1) rfl)) (fun _ h9 => h9) rfl (by decide +kernel) rfl rfl (Nat.le_of_ble_eq_true rfl) dX5_erase_7 (fun H locs hP _ hS => ?_)
  obtain ⟨mM_2, emM_2⟩ : ∃ z : GS, z = (up2 mM 0 11 (0 : Int32)) := ⟨_, rfl⟩
  have hP : va_P D vwCl (cMod Y oM mM_2 tk) H := by rw [emM_2]; exact hP
  replace hM := nm_at hM emM_2
  refine lv_iload_n hx hb dX5_erase_10 rfl (lv_at hl 0 rfl) ?_
  cases hM
  rw [hQQ]
  exact W.iret hx hb hr (fun t ht hW => ⟨⟨_, (), rfl, rfl, by show va_P D vwCl _ t.heap; rw [ht]; exact hP⟩, hS.F ht⟩) hS.2.2 dX5_erase_11
