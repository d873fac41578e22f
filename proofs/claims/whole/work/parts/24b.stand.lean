noncomputable def BX1_firstThatCan_4 (tT : GS) (k2 : (Nat → Int32) → Option (Int32 × (Nat → Int32))) (gS : GS) (k5 : Int32 → (Nat → Int32) → Option (Int32 × (Nat → Int32))) (rec9 : Int32 → Int32 → (Nat → Int32) → Option (Int32 × (Nat → Int32))) (x6 : Int32) (x7 : Int32) (fW_8 : Nat → Int32) : Option (Int32 × (Nat → Int32)) := if (tT 0 1) ≤ x7 then (k2 fW_8) else (bnd2 (MX1_findWays gS fW_8 tT x6) fun (r11 : Int32) (fR_12 : Nat → Int32) => if r11 ≤ 0 then (jn1 (fun (x15 : Int32) => nm (x7 + 1) fun (x17 : Int32) => rec9 x15 x17 fR_12) (fun k16 => if (tT 0 1) ≤ (x6 + (1 : Int32)) then (k16 (0 : Int32)) else (k16 (x6 + (1 : Int32))))) else (k5 x6 fR_12))
noncomputable def MX1_firstThatCan (gS : GS) (fW : Nat → Int32) (tT : GS) (i1 : Int32) : Option (Int32 × (Nat → Int32)) := jn1 (fun (fW_1 : Nat → Int32) => some ((-1 : Int32), fW_1)) (fun k2 => jn2 (fun (x3 : Int32) (fW_4 : Nat → Int32) => some (x3, fW_4)) (fun k5 => lq3 (BX1_firstThatCan_4 tT k2 gS k5) FU i1 (0 : Int32) fW))
abbrev rmX1_firstThatCan : Room := { frames := 4, cells := 0, slots := 0, locals := 160 }
set_option maxHeartbeats 4000000 in
set_option maxRecDepth 100000 in
theorem ctX1_firstThatCan (l : Launch) (D : va_G) (Y : Nat → ClassId) (aS : Nat → Nat) (vS : Nat) (hT : Nat → Nat) (sz : Nat) (gS : GS) (fW : Nat → Int32) (tT : GS) (i1 : Int32) (rr : Int32) (fWz : Nat → Int32) (hM : MX1_firstThatCan gS fW tT i1 = some (rr, fWz)) : Met l yX1_firstThatCan wsX1_firstThatCan rmX1_firstThatCan (pcW [.ref (aS 0), .int i1] sz D Y (cStand Y aS (hT 0) vS gS ++ cRow Y vS 8 fW ++ cTold Y hT tT)) (qiW rr D (cStand Y aS (hT 0) vS gS ++ cRow Y vS 8 fWz ++ cTold Y hT tT) (va_A (cStand Y aS (hT 0) vS gS ++ cRow Y vS 8 fW ++ cTold Y hT tT) sz)) 0 0 (va_A (cStand Y aS (hT 0) vS gS ++ cRow Y vS 8 fW ++ cTold Y hT tT) sz) := by
  refine Met.ofW (cc := cX1_firstThatCan) (maxL := 4) (ret := (some .int)) (by decide) rfl ?_
  intro p e s m args below meth c s₁ B hml hv
  obtain ⟨rfl, hsz, hP, hK, hD0⟩ := hv
  have hx := B.exec
  have hb := B.bytes
  have hr := B.returns
  have hts := atoms_spec (ws := wsX1_firstThatCan) B.pre
  have hown : s.vm.findClass RX1 = some m.cls := findClass_of_methodNamed B.named
  have hlocks := B.notSynchronized
  subst hsz
  have hD := hD0.self (sz := s.heap.size)
  generalize hAe : va_A (cStand Y aS (hT 0) vS gS ++ cRow Y vS 8 fW ++ cTold Y hT tT) s.heap.size = A at hD ⊢
  have hA : ∀ q : Nat, s.heap.size ≤ q → A q := fun q h => by rw [← hAe]; exact Or.inr h
  have hS : va_S A s.heap s.heap [] := va_S.rf
  have hi1 : ∀ w ∈ wsX10, w ∈ wsX1_firstThatCan := fun w h => List.mem_cons_of_mem _ (List.mem_append_left _ (List.mem_append_right _ h))
  have hi3 : ∀ w ∈ wsX30, w ∈ wsX1_firstThatCan := fun w h => List.mem_cons_of_mem _ (List.mem_append_right _ h)
  have hl := lv_entry ([.ref (aS 0), .int i1]) (n := 4) (Nat.le_of_ble_eq_true rfl)
  rw [lg_entry_eq]
  generalize (lg_sl ([.ref (aS 0), .int i1]) ++ List.replicate (4 - (lg_sl ([.ref (aS 0), .int i1])).length) Slot.unset).toArray = ls at hl ⊢
  have hl : lv_has ls 4 [(0, .ref (aS 0)), (1, .int i1)] := hl
  obtain ⟨QQ, hQQ⟩ : ∃ Q : State → Prop, Q = MQ below (qiW rr D (cStand Y aS (hT 0) vS gS ++ cRow Y vS 8 fWz ++ cTold Y hT tT) A) ([.ref (aS 0), .int i1] : List Value).toArray s 0 0 A := ⟨_, rfl⟩
  rw [← hQQ]
  unfold MX1_firstThatCan at hM
  suffices hI : ∀ (H : Heap) (locs : List Loc), va_P D vwCl (cStand Y aS (hT 0) vS gS ++ cRow Y vS 8 fW ++ cTold Y hT tT) H → va_S A s.heap H locs → W p l e (headSpec wsX1_firstThatCan rmX1_firstThatCan).room s m ([.ref (aS 0), .int i1] : List Value).toArray below meth c H locs 0 0 QQ (F0 m 0 ls []) from hI _ _ hP hS
  clear hP hS
  intro H locs hP hS
  refine lv_iload_n hx hb dX1_firstThatCan_0 rfl (lv_at hl 1 rfl) ?_
  refine lv_istore_n (lv' := [(2, .int i1), (0, .ref (aS 0)), (1, .int i1)]) hx hb dX1_firstThatCan_1 rfl hl (by decide) rfl (fun ls hl => ?_)
  refine lv_iconst (v := (0 : Int32)) hx hb dX1_firstThatCan_2 (by decide) ?_
  refine lv_istore_n (lv' := [(3, .int (0 : Int32)), (2, .int i1), (0, .ref (aS 0)), (1, .int i1)]) hx hb dX1_firstThatCan_3 rfl hl (by decide) rfl (fun ls hl => ?_)
  refine jn1_at (fun (fW_1 : Nat → Int32) => ∀ (H : Heap) (locs : List Loc) (ls : Array Slot), va_P D vwCl (cStand Y aS (hT 0) vS gS ++ cRow Y vS 8 fW_1 ++ cTold Y hT tT) H → va_S A s.heap H locs → lv_has ls 4 [] → W p l e (headSpec wsX1_firstThatCan rmX1_firstThatCan).room s m ([.ref (aS 0), .int i1] : List Value).toArray below meth c H locs 0 0 QQ (F0 m 56 ls [])) hM (fun fW_1 hM H locs ls hP hS hl => ?_) (fun k2 hJ2 hM => ?_)
  · refine lv_iconst (v := (-1 : Int32)) hx hb dX1_firstThatCan_56 (by decide) ?_
    cases hM
    rw [hQQ]
    exact W.iret hx hb hr (fun t ht hW => ⟨⟨_, (), rfl, rfl, by show va_P D vwCl _ t.heap; rw [ht]; exact hP⟩, hS.F ht⟩) hS.2.2 dX1_firstThatCan_57
  · refine jn2_at (fun (x3 : Int32) (fW_4 : Nat → Int32) => ∀ (H : Heap) (locs : List Loc) (ls : Array Slot), va_P D vwCl (cStand Y aS (hT 0) vS gS ++ cRow Y vS 8 fW_4 ++ cTold Y hT tT) H → va_S A s.heap H locs → lv_has ls 4 [(2, .int x3)] → W p l e (headSpec wsX1_firstThatCan rmX1_firstThatCan).room s m ([.ref (aS 0), .int i1] : List Value).toArray below meth c H locs 0 0 QQ (F0 m 27 ls [])) hM (fun x3 fW_4 hM H locs ls hP hS hl => ?_) (fun k5 hJ5 hM => ?_)
    · refine lv_iload_n hx hb dX1_firstThatCan_27 rfl (lv_at hl 0 rfl) ?_
      cases hM
      rw [hQQ]
      exact W.iret hx hb hr (fun t ht hW => ⟨⟨_, (), rfl, rfl, by show va_P D vwCl _ t.heap; rw [ht]; exact hP⟩, hS.F ht⟩) hS.2.2 dX1_firstThatCan_28
    · refine lq3_at (fun (x6 : Int32) (x7 : Int32) (fW_8 : Nat → Int32) => ∀ (H : Heap) (locs : List Loc) (ls : Array Slot), va_P D vwCl (cStand Y aS (hT 0) vS gS ++ cRow Y vS 8 fW_8 ++ cTold Y hT tT) H → va_S A s.heap H locs → lv_has ls 4 [(0, .ref (aS 0)), (2, .int x6), (3, .int x7)] → W p l e (headSpec wsX1_firstThatCan rmX1_firstThatCan).room s m ([.ref (aS 0), .int i1] : List Value).toArray below meth c H locs 0 0 QQ (F0 m 4 ls [])) (fun rec9 x6 x7 fW_8 ih9 hM H locs ls hP hS hl => ?_) FU i1 (0 : Int32) fW hM H locs ls hP hS (lv_sub hl [2, 1, 0] rfl)
      unfold BX1_firstThatCan_4 at hM
      refine lv_iload_n hx hb dX1_firstThatCan_4 rfl (lv_at hl 2 rfl) ?_
      refine lv_aload_n hx hb dX1_firstThatCan_5 rfl (lv_at hl 0 rfl) ?_
      refine va_get hx hb hts hi1 hown hK hP 0 rfl rfl 0 (by decide) (hts (.fieldLink RX1 21 "NightPlots$Standing" "told" "LNightPlots$Told;") (List.mem_of_getElem? (i := 1) rfl)) (fun _ h9 => h9) rfl dX1_firstThatCan_6 ?_
      refine va_get hx hb hts hi3 hown hK hP 4 rfl rfl 1 (by decide) (hts (.fieldLink RX1 73 "NightPlots$Told" "houses" "I") (List.mem_of_getElem? (i := 2) rfl)) (fun _ h9 => h9) rfl dX1_firstThatCan_9 ?_
      refine lv_icmp_ge (tgt := 56) hx hb dX1_firstThatCan_12 (by decide) (fun c10 => ?_) (fun c10 => ?_)
      · replace hM := if_at_pos hM c10
        exact hJ2 fW_8 hM H locs ls hP hS (lv_sub hl [] rfl)
      · replace hM := if_at_neg hM c10
        refine lv_aload_n hx hb dX1_firstThatCan_15 rfl (lv_at hl 0 rfl) ?_
        refine lv_iload_n hx hb dX1_firstThatCan_16 rfl (lv_at hl 1 rfl) ?_
        refine lv_aload_n hx hb dX1_firstThatCan_17 rfl (lv_at hl 0 rfl) ?_
        refine va_get hx hb hts hi1 hown hK hP 0 rfl rfl 3 (by decide) (hts (.fieldLink RX1 18 "NightPlots$Standing" "ways" "[I") (List.mem_of_getElem? (i := 3) rfl)) (fun _ h9 => h9) rfl dX1_firstThatCan_18 ?_
        obtain ⟨r11, fR_12, hc13, hM⟩ := bnd2_at hM
        refine co_i (va_runV (As := [.int x6, .ref vS]) (rest := []) ⟨hx, hb, hml, hown, hts⟩ (ctX1_findWays l D Y aS vS hT vS H.size gS fW_8 tT x6 r11 fR_12 hc13) (cwV 2 hts gX1_firstThatCan_X1_findWays rfl rfl rfl (by decide +kernel) ⟨Nat.le_of_ble_eq_true rfl, Nat.le_of_ble_eq_true rfl⟩) (pcW_V0 (ci := 1) (q0 := 0) hK hP (hD.same rfl) rfl rfl) rfl rfl hl.1 rfl (lv_room (Nat.le_of_ble_eq_true rfl)) dX1_firstThatCan_21 ⟨Nat.zero_le _, Nat.zero_le _⟩) (hD.same rfl) hS hA (fun H locs hP hS => ?_)
        refine lv_if_le (tgt := 29) hx hb dX1_firstThatCan_24 (by decide) (fun c14 => ?_) (fun c14 => ?_)
        · replace hM := if_at_pos hM c14
          refine lv_iload_n hx hb dX1_firstThatCan_29 rfl (lv_at hl 1 rfl) ?_
          refine lv_iconst (v := (1 : Int32)) hx hb dX1_firstThatCan_30 (by decide) ?_
          refine lv_iadd hx hb dX1_firstThatCan_31 ?_
          refine lv_aload_n hx hb dX1_firstThatCan_32 rfl (lv_at hl 0 rfl) ?_
          refine va_get hx hb hts hi1 hown hK hP 0 rfl rfl 0 (by decide) (hts (.fieldLink RX1 21 "NightPlots$Standing" "told" "LNightPlots$Told;") (List.mem_of_getElem? (i := 1) rfl)) (fun _ h9 => h9) rfl dX1_firstThatCan_33 ?_
          refine va_get hx hb hts hi3 hown hK hP 4 rfl rfl 1 (by decide) (hts (.fieldLink RX1 73 "NightPlots$Told" "houses" "I") (List.mem_of_getElem? (i := 2) rfl)) (fun _ h9 => h9) rfl dX1_firstThatCan_36 ?_
          refine jn1_at (fun (x15 : Int32) => ∀ (H : Heap) (locs : List Loc) (ls : Array Slot), va_P D vwCl (cStand Y aS (hT 0) vS gS ++ cRow Y vS 8 fR_12 ++ cTold Y hT tT) H → va_S A s.heap H locs → lv_has ls 4 [(0, .ref (aS 0)), (3, .int x7)] → W p l e (headSpec wsX1_firstThatCan rmX1_firstThatCan).room s m ([.ref (aS 0), .int i1] : List Value).toArray below meth c H locs 0 0 QQ (F0 m 49 ls [.int x15])) hM (fun x15 hM H locs ls hP hS hl => ?_) (fun k16 hJ16 hM => ?_)
          · refine lv_istore_n (lv' := [(2, .int x15), (0, .ref (aS 0)), (3, .int x7)]) hx hb dX1_firstThatCan_49 rfl hl (by decide) rfl (fun ls hl => ?_)
            obtain ⟨x17, ex17⟩ : ∃ z : Int32, z = (x7 + 1) := ⟨_, rfl⟩
            replace hM := nm_at hM ex17
            refine lv_iinc (v := x17) (lv' := [(3, .int x17), (2, .int x15), (0, .ref (aS 0))]) hx hb dX1_firstThatCan_50 hl (k := 2) rfl (by rw [ex17]; rfl) (by decide) rfl (fun ls hl => ?_)
            refine lv_goto (tgt := 4) hx hb dX1_firstThatCan_53 (by decide) ?_
            exact ih9 x15 x17 fR_12 hM H locs ls hP hS (lv_sub hl [2, 1, 0] rfl)
          · refine lv_icmp_ge (tgt := 48) hx hb dX1_firstThatCan_39 (by decide) (fun c18 => ?_) (fun c18 => ?_)
            · replace hM := if_at_pos hM c18
              refine lv_iconst (v := (0 : Int32)) hx hb dX1_firstThatCan_48 (by decide) ?_
              exact hJ16 (0 : Int32) hM H locs ls hP hS (lv_sub hl [0, 2] rfl)
            · replace hM := if_at_neg hM c18
              refine lv_iload_n hx hb dX1_firstThatCan_42 rfl (lv_at hl 1 rfl) ?_
              refine lv_iconst (v := (1 : Int32)) hx hb dX1_firstThatCan_43 (by decide) ?_
              refine lv_iadd hx hb dX1_firstThatCan_44 ?_
              refine lv_goto (tgt := 49) hx hb dX1_firstThatCan_45 (by decide) ?_
              exact hJ16 (x6 + (1 : Int32)) hM H locs ls hP hS (lv_sub hl [0, 2] rfl)
        · replace hM := if_at_neg hM c14
          exact hJ5 x6 fR_12 hM H locs ls hP hS (lv_sub hl [1] rfl)
noncomputable def BX1_longestRested_4 (tT : GS) (k3 : Int32 → (Nat → Int32) → Option (Int32 × (Nat → Int32))) (gS : GS) (rec7 : Int32 → Int32 → (Nat → Int32) → Option (Int32 × (Nat → Int32))) (x4 : Int32) (x5 : Int32) (fW_6 : Nat → Int32) : Option (Int32 × (Nat → Int32)) := if (tT 0 1) ≤ x5 then (k3 x4 fW_6) else (jn1 (fun (x9 : Int32) => jn2 (fun (x11 : Int32) (fW_12 : Nat → Int32) => nm (x5 + 1) fun (x14 : Int32) => rec7 x11 x14 fW_12) (fun k13 => if x9 = 0 then (k13 x4 fW_6) else (bnd2 (MX1_findWays gS fW_6 tT x5) fun (r16 : Int32) (fR_17 : Nat → Int32) => if r16 ≤ 0 then (k13 x4 fR_17) else (k13 x5 fR_17)))) (fun k10 => jn0 (k10 (1 : Int32)) (fun k20 => if x4 = (-1 : Int32) then (k20) else (chkI x5 8 (chkI x4 8 (if (gS 2 x4.toNatClampNeg) ≤ (gS 2 x5.toNatClampNeg) then (k10 (0 : Int32)) else (k20)))))))
noncomputable def MX1_longestRested (gS : GS) (fW : Nat → Int32) (tT : GS) : Option (Int32 × (Nat → Int32)) := jn2 (fun (x1 : Int32) (fW_2 : Nat → Int32) => some (x1, fW_2)) (fun k3 => lq3 (BX1_longestRested_4 tT k3 gS) FU (-1 : Int32) (0 : Int32) fW)
abbrev rmX1_longestRested : Room := { frames := 4, cells := 0, slots := 0, locals := 160 }
set_option maxHeartbeats 4000000 in
set_option maxRecDepth 100000 in
theorem ctX1_longestRested (l : Launch) (D : va_G) (Y : Nat → ClassId) (aS : Nat → Nat) (vS : Nat) (hT : Nat → Nat) (sz : Nat) (gS : GS) (fW : Nat → Int32) (tT : GS) (rr : Int32) (fWz : Nat → Int32) (hM : MX1_longestRested gS fW tT = some (rr, fWz)) : Met l yX1_longestRested wsX1_longestRested rmX1_longestRested (pcW [.ref (aS 0)] sz D Y (cStand Y aS (hT 0) vS gS ++ cRow Y vS 8 fW ++ cTold Y hT tT)) (qiW rr D (cStand Y aS (hT 0) vS gS ++ cRow Y vS 8 fWz ++ cTold Y hT tT) (va_A (cStand Y aS (hT 0) vS gS ++ cRow Y vS 8 fW ++ cTold Y hT tT) sz)) 0 0 (va_A (cStand Y aS (hT 0) vS gS ++ cRow Y vS 8 fW ++ cTold Y hT tT) sz) := by
  refine Met.ofW (cc := cX1_longestRested) (maxL := 4) (ret := (some .int)) (by decide) rfl ?_
  intro p e s m args below meth c s₁ B hml hv
  obtain ⟨rfl, hsz, hP, hK, hD0⟩ := hv
  have hx := B.exec
  have hb := B.bytes
  have hr := B.returns
  have hts := atoms_spec (ws := wsX1_longestRested) B.pre
  have hown : s.vm.findClass RX1 = some m.cls := findClass_of_methodNamed B.named
  have hlocks := B.notSynchronized
  subst hsz
  have hD := hD0.self (sz := s.heap.size)
  generalize hAe : va_A (cStand Y aS (hT 0) vS gS ++ cRow Y vS 8 fW ++ cTold Y hT tT) s.heap.size = A at hD ⊢
  have hA : ∀ q : Nat, s.heap.size ≤ q → A q := fun q h => by rw [← hAe]; exact Or.inr h
  have hS : va_S A s.heap s.heap [] := va_S.rf
  have hi1 : ∀ w ∈ wsX10, w ∈ wsX1_longestRested := fun w h => List.mem_cons_of_mem _ (List.mem_append_left _ (List.mem_append_right _ h))
  have hi3 : ∀ w ∈ wsX30, w ∈ wsX1_longestRested := fun w h => List.mem_cons_of_mem _ (List.mem_append_right _ h)
  have hl := lv_entry ([.ref (aS 0)]) (n := 4) (Nat.le_of_ble_eq_true rfl)
  rw [lg_entry_eq]
  generalize (lg_sl ([.ref (aS 0)]) ++ List.replicate (4 - (lg_sl ([.ref (aS 0)])).length) Slot.unset).toArray = ls at hl ⊢
  have hl : lv_has ls 4 [(0, .ref (aS 0))] := hl
  obtain ⟨QQ, hQQ⟩ : ∃ Q : State → Prop, Q = MQ below (qiW rr D (cStand Y aS (hT 0) vS gS ++ cRow Y vS 8 fWz ++ cTold Y hT tT) A) ([.ref (aS 0)] : List Value).toArray s 0 0 A := ⟨_, rfl⟩
  rw [← hQQ]
  unfold MX1_longestRested at hM
  suffices hI : ∀ (H : Heap) (locs : List Loc), va_P D vwCl (cStand Y aS (hT 0) vS gS ++ cRow Y vS 8 fW ++ cTold Y hT tT) H → va_S A s.heap H locs → W p l e (headSpec wsX1_longestRested rmX1_longestRested).room s m ([.ref (aS 0)] : List Value).toArray below meth c H locs 0 0 QQ (F0 m 0 ls []) from hI _ _ hP hS
  clear hP hS
  intro H locs hP hS
  refine lv_iconst (v := (-1 : Int32)) hx hb dX1_longestRested_0 (by decide) ?_
  refine lv_istore_n (lv' := [(1, .int (-1 : Int32)), (0, .ref (aS 0))]) hx hb dX1_longestRested_1 rfl hl (by decide) rfl (fun ls hl => ?_)
  refine lv_iconst (v := (0 : Int32)) hx hb dX1_longestRested_2 (by decide) ?_
  refine lv_istore_n (lv' := [(2, .int (0 : Int32)), (1, .int (-1 : Int32)), (0, .ref (aS 0))]) hx hb dX1_longestRested_3 rfl hl (by decide) rfl (fun ls hl => ?_)
  refine jn2_at (fun (x1 : Int32) (fW_2 : Nat → Int32) => ∀ (H : Heap) (locs : List Loc) (ls : Array Slot), va_P D vwCl (cStand Y aS (hT 0) vS gS ++ cRow Y vS 8 fW_2 ++ cTold Y hT tT) H → va_S A s.heap H locs → lv_has ls 4 [(1, .int x1)] → W p l e (headSpec wsX1_longestRested rmX1_longestRested).room s m ([.ref (aS 0)] : List Value).toArray below meth c H locs 0 0 QQ (F0 m 65 ls [])) hM (fun x1 fW_2 hM H locs ls hP hS hl => ?_) (fun k3 hJ3 hM => ?_)
  · refine lv_iload_n hx hb dX1_longestRested_65 rfl (lv_at hl 0 rfl) ?_
    cases hM
    rw [hQQ]
    exact W.iret hx hb hr (fun t ht hW => ⟨⟨_, (), rfl, rfl, by show va_P D vwCl _ t.heap; rw [ht]; exact hP⟩, hS.F ht⟩) hS.2.2 dX1_longestRested_66
  · refine lq3_at (fun (x4 : Int32) (x5 : Int32) (fW_6 : Nat → Int32) => ∀ (H : Heap) (locs : List Loc) (ls : Array Slot), va_P D vwCl (cStand Y aS (hT 0) vS gS ++ cRow Y vS 8 fW_6 ++ cTold Y hT tT) H → va_S A s.heap H locs → lv_has ls 4 [(0, .ref (aS 0)), (1, .int x4), (2, .int x5)] → W p l e (headSpec wsX1_longestRested rmX1_longestRested).room s m ([.ref (aS 0)] : List Value).toArray below meth c H locs 0 0 QQ (F0 m 4 ls [])) (fun rec7 x4 x5 fW_6 ih7 hM H locs ls hP hS hl => ?_) FU (-1 : Int32) (0 : Int32) fW hM H locs ls hP hS (lv_sub hl [2, 1, 0] rfl)
    unfold BX1_longestRested_4 at hM
    refine lv_iload_n hx hb dX1_longestRested_4 rfl (lv_at hl 2 rfl) ?_
    refine lv_aload_n hx hb dX1_longestRested_5 rfl (lv_at hl 0 rfl) ?_
    refine va_get hx hb hts hi1 hown hK hP 0 rfl rfl 0 (by decide) (hts (.fieldLink RX1 21 "NightPlots$Standing" "told" "LNightPlots$Told;") (List.mem_of_getElem? (i := 1) rfl)) (fun _ h9 => h9) rfl dX1_longestRested_6 ?_
    refine va_get hx hb hts hi3 hown hK hP 4 rfl rfl 1 (by decide) (hts (.fieldLink RX1 73 "NightPlots$Told" "houses" "I") (List.mem_of_getElem? (i := 2) rfl)) (fun _ h9 => h9) rfl dX1_longestRested_9 ?_
    refine lv_icmp_ge (tgt := 65) hx hb dX1_longestRested_12 (by decide) (fun c8 => ?_) (fun c8 => ?_)
    · replace hM := if_at_pos hM c8
      exact hJ3 x4 fW_6 hM H locs ls hP hS (lv_sub hl [1] rfl)
    · replace hM := if_at_neg hM c8
      refine lv_iload_n hx hb dX1_longestRested_15 rfl (lv_at hl 1 rfl) ?_
      refine lv_iconst (v := (-1 : Int32)) hx hb dX1_longestRested_16 (by decide) ?_
      refine jn1_at (fun (x9 : Int32) => ∀ (H : Heap) (locs : List Loc) (ls : Array Slot), va_P D vwCl (cStand Y aS (hT 0) vS gS ++ cRow Y vS 8 fW_6 ++ cTold Y hT tT) H → va_S A s.heap H locs → lv_has ls 4 [(0, .ref (aS 0)), (1, .int x4), (2, .int x5)] → W p l e (headSpec wsX1_longestRested rmX1_longestRested).room s m ([.ref (aS 0)] : List Value).toArray below meth c H locs 0 0 QQ (F0 m 40 ls [.int x9])) hM (fun x9 hM H locs ls hP hS hl => ?_) (fun k10 hJ10 hM => ?_)
      · refine lv_istore_n (lv' := [(3, .int x9), (0, .ref (aS 0)), (1, .int x4), (2, .int x5)]) hx hb dX1_longestRested_40 rfl hl (by decide) rfl (fun ls hl => ?_)
        refine lv_iload_n hx hb dX1_longestRested_41 rfl (lv_at hl 0 rfl) ?_
        refine jn2_at (fun (x11 : Int32) (fW_12 : Nat → Int32) => ∀ (H : Heap) (locs : List Loc) (ls : Array Slot), va_P D vwCl (cStand Y aS (hT 0) vS gS ++ cRow Y vS 8 fW_12 ++ cTold Y hT tT) H → va_S A s.heap H locs → lv_has ls 4 [(0, .ref (aS 0)), (1, .int x11), (2, .int x5)] → W p l e (headSpec wsX1_longestRested rmX1_longestRested).room s m ([.ref (aS 0)] : List Value).toArray below meth c H locs 0 0 QQ (F0 m 59 ls [])) hM (fun x11 fW_12 hM H locs ls hP hS hl => ?_) (fun k13 hJ13 hM => ?_)
        · obtain ⟨x14, ex14⟩ : ∃ z : Int32, z = (x5 + 1) := ⟨_, rfl⟩
          replace hM := nm_at hM ex14
          refine lv_iinc (v := x14) (lv' := [(2, .int x14), (0, .ref (aS 0)), (1, .int x11)]) hx hb dX1_longestRested_59 hl (k := 2) rfl (by rw [ex14]; rfl) (by decide) rfl (fun ls hl => ?_)
          refine lv_goto (tgt := 4) hx hb dX1_longestRested_62 (by decide) ?_
          exact ih7 x11 x14 fW_12 hM H locs ls hP hS (lv_sub hl [1, 2, 0] rfl)
        · refine lv_if_eq (tgt := 59) hx hb dX1_longestRested_42 (by decide) (fun c15 => ?_) (fun c15 => ?_)
          · replace hM := if_at_pos hM c15
            exact hJ13 x4 fW_6 hM H locs ls hP hS (lv_sub hl [1, 2, 3] rfl)
          · replace hM := if_at_neg hM c15
            refine lv_aload_n hx hb dX1_longestRested_45 rfl (lv_at hl 1 rfl) ?_
            refine lv_iload_n hx hb dX1_longestRested_46 rfl (lv_at hl 3 rfl) ?_
            refine lv_aload_n hx hb dX1_longestRested_47 rfl (lv_at hl 1 rfl) ?_
            refine va_get hx hb hts hi1 hown hK hP 0 rfl rfl 3 (by decide) (hts (.fieldLink RX1 18 "NightPlots$Standing" "ways" "[I") (List.mem_of_getElem? (i := 4) rfl)) (fun _ h9 => h9) rfl dX1_longestRested_48 ?_
            obtain ⟨r16, fR_17, hc18, hM⟩ := bnd2_at hM
            refine co_i (va_runV (As := [.int x5, .ref vS]) (rest := []) ⟨hx, hb, hml, hown, hts⟩ (ctX1_findWays l D Y aS vS hT vS H.size gS fW_6 tT x5 r16 fR_17 hc18) (cwV 2 hts gX1_longestRested_X1_findWays rfl rfl rfl (by decide +kernel) ⟨Nat.le_of_ble_eq_true rfl, Nat.le_of_ble_eq_true rfl⟩) (pcW_V0 (ci := 1) (q0 := 0) hK hP (hD.same rfl) rfl rfl) rfl rfl hl.1 rfl (lv_room (Nat.le_of_ble_eq_true rfl)) dX1_longestRested_51 ⟨Nat.zero_le _, Nat.zero_le _⟩) (hD.same rfl) hS hA (fun H locs hP hS => ?_)
            refine lv_if_le (tgt := 59) hx hb dX1_longestRested_54 (by decide) (fun c19 => ?_) (fun c19 => ?_)
            · replace hM := if_at_pos hM c19
              exact hJ13 x4 fR_17 hM H locs ls hP hS (lv_sub hl [1, 2, 3] rfl)
            · replace hM := if_at_neg hM c19
              refine lv_iload_n hx hb dX1_longestRested_57 rfl (lv_at hl 3 rfl) ?_
              refine lv_istore_n (lv' := [(1, .int x5), (3, .int x9), (0, .ref (aS 0)), (2, .int x5)]) hx hb dX1_longestRested_58 rfl hl (by decide) rfl (fun ls hl => ?_)
              exact hJ13 x5 fR_17 hM H locs ls hP hS (lv_sub hl [2, 0, 3] rfl)
      · refine jn0_at (∀ (H : Heap) (locs : List Loc) (ls : Array Slot), va_P D vwCl (cStand Y aS (hT 0) vS gS ++ cRow Y vS 8 fW_6 ++ cTold Y hT tT) H → va_S A s.heap H locs → lv_has ls 4 [(0, .ref (aS 0)), (1, .int x4), (2, .int x5)] → W p l e (headSpec wsX1_longestRested rmX1_longestRested).room s m ([.ref (aS 0)] : List Value).toArray below meth c H locs 0 0 QQ (F0 m 35 ls [])) hM (fun  hM H locs ls hP hS hl => ?_) (fun k20 hJ20 hM => ?_)
        · refine lv_iconst (v := (1 : Int32)) hx hb dX1_longestRested_35 (by decide) ?_
          refine lv_goto (tgt := 40) hx hb dX1_longestRested_36 (by decide) ?_
          exact hJ10 (1 : Int32) hM H locs ls hP hS (lv_sub hl [0, 1, 2] rfl)
        · refine lv_icmp_eq (tgt := 35) hx hb dX1_longestRested_17 (by decide) (fun c21 => ?_) (fun c21 => ?_)
          · replace hM := if_at_pos hM c21
            exact hJ20 hM H locs ls hP hS (lv_sub hl [0, 1, 2] rfl)
          · replace hM := if_at_neg hM c21
            refine lv_aload_n hx hb dX1_longestRested_20 rfl (lv_at hl 0 rfl) ?_
            refine va_get hx hb hts hi1 hown hK hP 0 rfl rfl 2 (by decide) (hts (.fieldLink RX1 15 "NightPlots$Standing" "rolled" "[I") (List.mem_of_getElem? (i := 3) rfl)) (fun _ h9 => h9) rfl dX1_longestRested_21 ?_
            refine lv_iload_n hx hb dX1_longestRested_24 rfl (lv_at hl 2 rfl) ?_
            obtain ⟨hi_22, hM⟩ := chkI_at hM
            refine va_iald hx hb hK hP 2 0 rfl rfl hi_22 dX1_longestRested_25 ?_
            refine lv_aload_n hx hb dX1_longestRested_26 rfl (lv_at hl 0 rfl) ?_
            refine va_get hx hb hts hi1 hown hK hP 0 rfl rfl 2 (by decide) (hts (.fieldLink RX1 15 "NightPlots$Standing" "rolled" "[I") (List.mem_of_getElem? (i := 3) rfl)) (fun _ h9 => h9) rfl dX1_longestRested_27 ?_
            refine lv_iload_n hx hb dX1_longestRested_30 rfl (lv_at hl 1 rfl) ?_
            obtain ⟨hi_23, hM⟩ := chkI_at hM
            refine va_iald hx hb hK hP 2 0 rfl rfl hi_23 dX1_longestRested_31 ?_
            refine lv_icmp_ge (tgt := 39) hx hb dX1_longestRested_32 (by decide) (fun c24 => ?_) (fun c24 => ?_)
            · replace hM := if_at_pos hM c24
              refine lv_iconst (v := (0 : Int32)) hx hb dX1_longestRested_39 (by decide) ?_
              exact hJ10 (0 : Int32) hM H locs ls hP hS (lv_sub hl [0, 1, 2] rfl)
            · replace hM := if_at_neg hM c24
              exact hJ20 hM H locs ls hP hS (lv_sub hl [0, 1, 2] rfl)
noncomputable def MX1_chooseRoller (gS : GS) (fW : Nat → Int32) (tT : GS) (i1 : Int32) : Option (Int32 × (Nat → Int32)) := if i1 = (2 : Int32) then (bnd2 (MX1_longestRested gS fW tT) fun (r8 : Int32) (fW_9 : Nat → Int32) => some (r8, fW_9)) else (jn1 (fun (x2 : Int32) => bnd2 (MX1_firstThatCan gS fW tT x2) fun (r4 : Int32) (fW_5 : Nat → Int32) => some (r4, fW_5)) (fun k3 => if i1 = (1 : Int32) then (k3 (gS 0 6)) else (k3 (0 : Int32))))
abbrev rmX1_chooseRoller : Room := { frames := 5, cells := 0, slots := 0, locals := 200 }
set_option maxHeartbeats 4000000 in
set_option maxRecDepth 100000 in
theorem ctX1_chooseRoller (l : Launch) (D : va_G) (Y : Nat → ClassId) (aS : Nat → Nat) (vS : Nat) (hT : Nat → Nat) (sz : Nat) (gS : GS) (fW : Nat → Int32) (tT : GS) (i1 : Int32) (rr : Int32) (fWz : Nat → Int32) (hM : MX1_chooseRoller gS fW tT i1 = some (rr, fWz)) : Met l yX1_chooseRoller wsX1_chooseRoller rmX1_chooseRoller (pcW [.ref (aS 0), .int i1] sz D Y (cStand Y aS (hT 0) vS gS ++ cRow Y vS 8 fW ++ cTold Y hT tT)) (qiW rr D (cStand Y aS (hT 0) vS gS ++ cRow Y vS 8 fWz ++ cTold Y hT tT) (va_A (cStand Y aS (hT 0) vS gS ++ cRow Y vS 8 fW ++ cTold Y hT tT) sz)) 0 0 (va_A (cStand Y aS (hT 0) vS gS ++ cRow Y vS 8 fW ++ cTold Y hT tT) sz) := by
  refine Met.ofW (cc := cX1_chooseRoller) (maxL := 2) (ret := (some .int)) (by decide) rfl ?_
  intro p e s m args below meth c s₁ B hml hv
  obtain ⟨rfl, hsz, hP, hK, hD0⟩ := hv
  have hx := B.exec
  have hb := B.bytes
  have hr := B.returns
  have hts := atoms_spec (ws := wsX1_chooseRoller) B.pre
  have hown : s.vm.findClass RX1 = some m.cls := findClass_of_methodNamed B.named
  have hlocks := B.notSynchronized
  subst hsz
  have hD := hD0.self (sz := s.heap.size)
  generalize hAe : va_A (cStand Y aS (hT 0) vS gS ++ cRow Y vS 8 fW ++ cTold Y hT tT) s.heap.size = A at hD ⊢
  have hA : ∀ q : Nat, s.heap.size ≤ q → A q := fun q h => by rw [← hAe]; exact Or.inr h
  have hS : va_S A s.heap s.heap [] := va_S.rf
  have hi1 : ∀ w ∈ wsX10, w ∈ wsX1_chooseRoller := fun w h => List.mem_cons_of_mem _ (List.mem_append_left _ (List.mem_append_right _ h))
  have hl := lv_entry ([.ref (aS 0), .int i1]) (n := 2) (Nat.le_of_ble_eq_true rfl)
  rw [lg_entry_eq]
  generalize (lg_sl ([.ref (aS 0), .int i1]) ++ List.replicate (2 - (lg_sl ([.ref (aS 0), .int i1])).length) Slot.unset).toArray = ls at hl ⊢
  have hl : lv_has ls 2 [(0, .ref (aS 0)), (1, .int i1)] := hl
  obtain ⟨QQ, hQQ⟩ : ∃ Q : State → Prop, Q = MQ below (qiW rr D (cStand Y aS (hT 0) vS gS ++ cRow Y vS 8 fWz ++ cTold Y hT tT) A) ([.ref (aS 0), .int i1] : List Value).toArray s 0 0 A := ⟨_, rfl⟩
  rw [← hQQ]
  unfold MX1_chooseRoller at hM
  suffices hI : ∀ (H : Heap) (locs : List Loc), va_P D vwCl (cStand Y aS (hT 0) vS gS ++ cRow Y vS 8 fW ++ cTold Y hT tT) H → va_S A s.heap H locs → W p l e (headSpec wsX1_chooseRoller rmX1_chooseRoller).room s m ([.ref (aS 0), .int i1] : List Value).toArray below meth c H locs 0 0 QQ (F0 m 0 ls []) from hI _ _ hP hS
  clear hP hS
  intro H locs hP hS
  refine lv_iload_n hx hb dX1_chooseRoller_0 rfl (lv_at hl 1 rfl) ?_
  refine lv_iconst (v := (2 : Int32)) hx hb dX1_chooseRoller_1 (by decide) ?_
  refine lv_icmp_ne (tgt := 10) hx hb dX1_chooseRoller_2 (by decide) (fun c1 => ?_) (fun c1 => ?_)
  · replace hM := if_at_neg hM c1
    refine lv_aload_n hx hb dX1_chooseRoller_10 rfl (lv_at hl 0 rfl) ?_
    refine lv_iload_n hx hb dX1_chooseRoller_11 rfl (lv_at hl 1 rfl) ?_
    refine lv_iconst (v := (1 : Int32)) hx hb dX1_chooseRoller_12 (by decide) ?_
    refine jn1_at (fun (x2 : Int32) => ∀ (H : Heap) (locs : List Loc) (ls : Array Slot), va_P D vwCl (cStand Y aS (hT 0) vS gS ++ cRow Y vS 8 fW ++ cTold Y hT tT) H → va_S A s.heap H locs → lv_has ls 2 [] → W p l e (headSpec wsX1_chooseRoller rmX1_chooseRoller).room s m ([.ref (aS 0), .int i1] : List Value).toArray below meth c H locs 0 0 QQ (F0 m 24 ls [.int x2, .ref (aS 0)])) hM (fun x2 hM H locs ls hP hS hl => ?_) (fun k3 hJ3 hM => ?_)
    · obtain ⟨r4, fW_5, hc6, hM⟩ := bnd2_at hM
      refine co_i (va_runV (As := [.int x2]) (rest := []) ⟨hx, hb, hml, hown, hts⟩ (ctX1_firstThatCan l D Y aS vS hT H.size gS fW tT x2 r4 fW_5 hc6) (cwV 1 hts gX1_chooseRoller_X1_firstThatCan rfl rfl rfl (by decide +kernel) ⟨Nat.le_of_ble_eq_true rfl, Nat.le_of_ble_eq_true rfl⟩) (pcW_V0 (ci := 1) (q0 := 0) hK hP (hD.same rfl) rfl rfl) rfl rfl hl.1 rfl (lv_room (Nat.le_of_ble_eq_true rfl)) dX1_chooseRoller_24 ⟨Nat.zero_le _, Nat.zero_le _⟩) (hD.same rfl) hS hA (fun H locs hP hS => ?_)
      cases hM
      rw [hQQ]
      exact W.iret hx hb hr (fun t ht hW => ⟨⟨_, (), rfl, rfl, by show va_P D vwCl _ t.heap; rw [ht]; exact hP⟩, hS.F ht⟩) hS.2.2 dX1_chooseRoller_27
    · refine lv_icmp_ne (tgt := 23) hx hb dX1_chooseRoller_13 (by decide) (fun c7 => ?_) (fun c7 => ?_)
      · replace hM := if_at_neg hM c7
        refine lv_iconst (v := (0 : Int32)) hx hb dX1_chooseRoller_23 (by decide) ?_
        exact hJ3 (0 : Int32) hM H locs ls hP hS (lv_sub hl [] rfl)
      · replace hM := if_at_pos hM c7
        refine lv_aload_n hx hb dX1_chooseRoller_16 rfl (lv_at hl 0 rfl) ?_
        refine va_get hx hb hts hi1 hown hK hP 0 rfl rfl 6 (by decide) (hts (.fieldLink RX1 54 "NightPlots$Standing" "turn" "I") (List.mem_of_getElem? (i := 1) rfl)) (fun _ h9 => h9) rfl dX1_chooseRoller_17 ?_
        refine lv_goto (tgt := 24) hx hb dX1_chooseRoller_20 (by decide) ?_
        exact hJ3 (gS 0 6) hM H locs ls hP hS (lv_sub hl [] rfl)
  · replace hM := if_at_pos hM c1
    refine lv_aload_n hx hb dX1_chooseRoller_5 rfl (lv_at hl 0 rfl) ?_
    obtain ⟨r8, fW_9, hc10, hM⟩ := bnd2_at hM
    refine co_i (va_runV (As := []) (rest := []) ⟨hx, hb, hml, hown, hts⟩ (ctX1_longestRested l D Y aS vS hT H.size gS fW tT r8 fW_9 hc10) (cwV 0 hts gX1_chooseRoller_X1_longestRested rfl rfl rfl (by decide +kernel) ⟨Nat.le_of_ble_eq_true rfl, Nat.le_of_ble_eq_true rfl⟩) (pcW_V0 (ci := 1) (q0 := 0) hK hP (hD.same rfl) rfl rfl) rfl rfl hl.1 rfl (lv_room (Nat.le_of_ble_eq_true rfl)) dX1_chooseRoller_6 ⟨Nat.zero_le _, Nat.zero_le _⟩) (hD.same rfl) hS hA (fun H locs hP hS => ?_)
    cases hM
    rw [hQQ]
    exact W.iret hx hb hr (fun t ht hW => ⟨⟨_, (), rfl, rfl, by show va_P D vwCl _ t.heap; rw [ht]; exact hP⟩, hS.F ht⟩) hS.2.2 dX1_chooseRoller_9
noncomputable def MX1_passNight (gS : GS) (fW : Nat → Int32) (tT : GS) (i1 : Int32) : Option (GS × (Nat → Int32)) := if i1 = (3 : Int32) then (bnd2 (MX1_passNightByLot gS fW tT) fun (gS_14 : GS) (fW_15 : Nat → Int32) => some (gS_14, fW_15)) else (bnd2 (MX1_chooseRoller gS fW tT i1) fun (r2 : Int32) (fW_3 : Nat → Int32) => if r2 = (-1 : Int32) then (nm ((gS 0 5) + (1 : Int32)) fun (x12 : Int32) => nm (up2 gS 0 5 x12) fun (gS_13 : GS) => some (gS_13, fW_3)) else (bnd2 (MX1_findWays gS fW_3 tT r2) fun (r6 : Int32) (fR_7 : Nat → Int32) => chkI (0 : Int32) 8 (bnd1 (MX1_passNightOf gS tT r2 (fR_7 (0 : Int32).toNatClampNeg) i1) fun (gS_10 : GS) => some (gS_10, fR_7))))
abbrev rmX1_passNight : Room := { frames := 8, cells := 0, slots := 0, locals := 320 }
set_option maxHeartbeats 4000000 in
set_option maxRecDepth 100000 in
theorem ctX1_passNight (l : Launch) (D : va_G) (Y : Nat → ClassId) (aS : Nat → Nat) (vS : Nat) (hT : Nat → Nat) (sz : Nat) (gS : GS) (fW : Nat → Int32) (tT : GS) (i1 : Int32) (gSz : GS) (fWz : Nat → Int32) (hM : MX1_passNight gS fW tT i1 = some (gSz, fWz)) : Met l yX1_passNight wsX1_passNight rmX1_passNight (pcW [.ref (aS 0), .int i1] sz D Y (cStand Y aS (hT 0) vS gS ++ cRow Y vS 8 fW ++ cTold Y hT tT)) (qvW D (cStand Y aS (hT 0) vS gSz ++ cRow Y vS 8 fWz ++ cTold Y hT tT) (va_A (cStand Y aS (hT 0) vS gS ++ cRow Y vS 8 fW ++ cTold Y hT tT) sz)) 0 0 (va_A (cStand Y aS (hT 0) vS gS ++ cRow Y vS 8 fW ++ cTold Y hT tT) sz) := by
  refine Met.ofW (cc := cX1_passNight) (maxL := 3) (ret := (none)) (by decide) rfl ?_
  intro p e s m args below meth c s₁ B hml hv
  obtain ⟨rfl, hsz, hP, hK, hD0⟩ := hv
  have hx := B.exec
  have hb := B.bytes
  have hr := B.returns
  have hts := atoms_spec (ws := wsX1_passNight) B.pre
  have hown : s.vm.findClass RX1 = some m.cls := findClass_of_methodNamed B.named
  have hlocks := B.notSynchronized
  subst hsz
  have hD := hD0.self (sz := s.heap.size)
  generalize hAe : va_A (cStand Y aS (hT 0) vS gS ++ cRow Y vS 8 fW ++ cTold Y hT tT) s.heap.size = A at hD ⊢
  have hA : ∀ q : Nat, s.heap.size ≤ q → A q := fun q h => by rw [← hAe]; exact Or.inr h
  have hS : va_S A s.heap s.heap [] := va_S.rf
  have hi1 : ∀ w ∈ wsX10, w ∈ wsX1_passNight := fun w h => List.mem_cons_of_mem _ (List.mem_append_left _ (List.mem_append_right _ h))
  have hl := lv_entry ([.ref (aS 0), .int i1]) (n := 3) (Nat.le_of_ble_eq_true rfl)
  rw [lg_entry_eq]
  generalize (lg_sl ([.ref (aS 0), .int i1]) ++ List.replicate (3 - (lg_sl ([.ref (aS 0), .int i1])).length) Slot.unset).toArray = ls at hl ⊢
  have hl : lv_has ls 3 [(0, .ref (aS 0)), (1, .int i1)] := hl
  obtain ⟨QQ, hQQ⟩ : ∃ Q : State → Prop, Q = MQ below (qvW D (cStand Y aS (hT 0) vS gSz ++ cRow Y vS 8 fWz ++ cTold Y hT tT) A) ([.ref (aS 0), .int i1] : List Value).toArray s 0 0 A := ⟨_, rfl⟩
  rw [← hQQ]
  unfold MX1_passNight at hM
  suffices hI : ∀ (H : Heap) (locs : List Loc), va_P D vwCl (cStand Y aS (hT 0) vS gS ++ cRow Y vS 8 fW ++ cTold Y hT tT) H → va_S A s.heap H locs → W p l e (headSpec wsX1_passNight rmX1_passNight).room s m ([.ref (aS 0), .int i1] : List Value).toArray below meth c H locs 0 0 QQ (F0 m 0 ls []) from hI _ _ hP hS
  clear hP hS
  intro H locs hP hS
  refine lv_iload_n hx hb dX1_passNight_0 rfl (lv_at hl 1 rfl) ?_
  refine lv_iconst (v := (3 : Int32)) hx hb dX1_passNight_1 (by decide) ?_
  refine lv_icmp_ne (tgt := 10) hx hb dX1_passNight_2 (by decide) (fun c1 => ?_) (fun c1 => ?_)
  · replace hM := if_at_neg hM c1
    refine lv_aload_n hx hb dX1_passNight_10 rfl (lv_at hl 0 rfl) ?_
    refine lv_iload_n hx hb dX1_passNight_11 rfl (lv_at hl 1 rfl) ?_
    obtain ⟨r2, fW_3, hc4, hM⟩ := bnd2_at hM
    refine co_i (va_runV (As := [.int i1]) (rest := []) ⟨hx, hb, hml, hown, hts⟩ (ctX1_chooseRoller l D Y aS vS hT H.size gS fW tT i1 r2 fW_3 hc4) (cwV 1 hts gX1_passNight_X1_chooseRoller rfl rfl rfl (by decide +kernel) ⟨Nat.le_of_ble_eq_true rfl, Nat.le_of_ble_eq_true rfl⟩) (pcW_V0 (ci := 1) (q0 := 0) hK hP (hD.same rfl) rfl rfl) rfl rfl hl.1 rfl (lv_room (Nat.le_of_ble_eq_true rfl)) dX1_passNight_12 ⟨Nat.zero_le _, Nat.zero_le _⟩) (hD.same rfl) hS hA (fun H locs hP hS => ?_)
    refine lv_istore_n (lv' := [(2, .int r2), (0, .ref (aS 0)), (1, .int i1)]) hx hb dX1_passNight_15 rfl hl (by decide) rfl (fun ls hl => ?_)
    refine lv_iload_n hx hb dX1_passNight_16 rfl (lv_at hl 0 rfl) ?_
    refine lv_iconst (v := (-1 : Int32)) hx hb dX1_passNight_17 (by decide) ?_
    refine lv_icmp_ne (tgt := 32) hx hb dX1_passNight_18 (by decide) (fun c5 => ?_) (fun c5 => ?_)
    · replace hM := if_at_neg hM c5
      refine lv_aload_n hx hb dX1_passNight_32 rfl (lv_at hl 1 rfl) ?_
      refine lv_iload_n hx hb dX1_passNight_33 rfl (lv_at hl 0 rfl) ?_
      refine lv_aload_n hx hb dX1_passNight_34 rfl (lv_at hl 1 rfl) ?_
      refine va_get hx hb hts hi1 hown hK hP 0 rfl rfl 3 (by decide) (hts (.fieldLink RX1 18 "NightPlots$Standing" "ways" "[I") (List.mem_of_getElem? (i := 2) rfl)) (fun _ h9 => h9) rfl dX1_passNight_35 ?_
      obtain ⟨r6, fR_7, hc8, hM⟩ := bnd2_at hM
      refine co_i (va_runV (As := [.int r2, .ref vS]) (rest := []) ⟨hx, hb, hml, hown, hts⟩ (ctX1_findWays l D Y aS vS hT vS H.size gS fW_3 tT r2 r6 fR_7 hc8) (cwV 2 hts gX1_passNight_X1_findWays rfl rfl rfl (by decide +kernel) ⟨Nat.le_of_ble_eq_true rfl, Nat.le_of_ble_eq_true rfl⟩) (pcW_V0 (ci := 1) (q0 := 0) hK hP (hD.same rfl) rfl rfl) rfl rfl hl.1 rfl (lv_room (Nat.le_of_ble_eq_true rfl)) dX1_passNight_38 ⟨Nat.zero_le _, Nat.zero_le _⟩) (hD.same rfl) hS hA (fun H locs hP hS => ?_)
      refine lv_pop hx hb dX1_passNight_41 rfl ?_
      refine lv_aload_n hx hb dX1_passNight_42 rfl (lv_at hl 1 rfl) ?_
      refine lv_iload_n hx hb dX1_passNight_43 rfl (lv_at hl 0 rfl) ?_
      refine lv_aload_n hx hb dX1_passNight_44 rfl (lv_at hl 1 rfl) ?_
      refine va_get hx hb hts hi1 hown hK hP 0 rfl rfl 3 (by decide) (hts (.fieldLink RX1 18 "NightPlots$Standing" "ways" "[I") (List.mem_of_getElem? (i := 2) rfl)) (fun _ h9 => h9) rfl dX1_passNight_45 ?_
      refine lv_iconst (v := (0 : Int32)) hx hb dX1_passNight_48 (by decide) ?_
      obtain ⟨hi_9, hM⟩ := chkI_at hM
      refine va_iald hx hb hK hP 3 0 rfl rfl hi_9 dX1_passNight_49 ?_
      refine lv_iload_n hx hb dX1_passNight_50 rfl (lv_at hl 2 rfl) ?_
      obtain ⟨gS_10, hc11, hM⟩ := bnd1_at hM
      refine cm_v (w2 := (cStand Y aS (hT 0) vS gS_10 ++ cRow Y vS 8 fR_7 ++ cTold Y hT tT)) (va_runV (As := [.int r2, .int (fR_7 (0 : Int32).toNatClampNeg), .int i1]) (rest := []) ⟨hx, hb, hml, hown, hts⟩ (ctX1_passNightOf l D Y aS hT vS H.size gS tT r2 (fR_7 (0 : Int32).toNatClampNeg) i1 gS_10 hc11) (cwV 3 hts gX1_passNight_X1_passNightOf rfl rfl rfl (by decide +kernel) ⟨Nat.le_of_ble_eq_true rfl, Nat.le_of_ble_eq_true rfl⟩) (pcW_V (ci := 1) (q0 := 0) hK hP (hD.same rfl) [0, 1, 2, 4, 5, 6, 7, 8, 9, 10, 11] rfl (pc_map (pc_cons rfl (pc_cons rfl (pc_cons rfl (pc_cons rfl (pc_cons rfl (pc_cons rfl (pc_cons rfl (pc_cons rfl (pc_cons rfl (pc_cons rfl (pc_cons rfl pc_nil)))))))))))) rfl rfl) rfl rfl hl.1 rfl (lv_room (Nat.le_of_ble_eq_true rfl)) dX1_passNight_51 ⟨Nat.zero_le _, Nat.zero_le _⟩) hP (hD.same rfl) hS hA [0, 1, 2, 4, 5, 6, 7, 8, 9, 10, 11] (pc_map (pc_cons rfl (pc_cons rfl (pc_cons rfl (pc_cons rfl (pc_cons rfl (pc_cons rfl (pc_cons rfl (pc_cons rfl (pc_cons rfl (pc_cons rfl (pc_cons rfl pc_nil)))))))))))) (up_new 0 rfl (up_new 1 rfl (up_new 2 rfl (up_old rfl rfl (up_new 3 rfl (up_new 4 rfl (up_new 5 rfl (up_new 6 rfl (up_new 7 rfl (up_new 8 rfl (up_new 9 rfl (up_new 10 rfl up_nil)))))))))))) (fun H locs hP hS => ?_)
      cases hM
      rw [hQQ]
      exact W.vret hx hb hr (fun t ht hW => ⟨⟨(), rfl, trivial, by show va_P D vwCl _ t.heap; rw [ht]; exact hP⟩, hS.F ht⟩) hS.2.2 dX1_passNight_54
    · replace hM := if_at_pos hM c5
      refine lv_aload_n hx hb dX1_passNight_21 rfl (lv_at hl 1 rfl) ?_
      refine lv_dup hx hb dX1_passNight_22 rfl ?_
      refine va_get hx hb hts hi1 hown hK hP 0 rfl rfl 5 (by decide) (hts (.fieldLink RX1 51 "NightPlots$Standing" "nights" "I") (List.mem_of_getElem? (i := 1) rfl)) (fun _ h9 => h9) rfl dX1_passNight_23 ?_
      refine lv_iconst (v := (1 : Int32)) hx hb dX1_passNight_26 (by decide) ?_
      refine lv_iadd hx hb dX1_passNight_27 ?_
      refine lv_topi (fun x12 ex12 => ?_)
      replace hM := nm_at hM ex12
      refine va_put (ty := .int) hx hb hts hi1 tyX1 tyX1_ok nmX1 hown hK hP (hD.same rfl) hS 0 rfl rfl 5 (by decide) (hts (.fieldLink RX1 51 "NightPlots$Standing" "nights" "I") (List.mem_of_getElem? (i := 1) rfl)) (fun _ h9 => h9) rfl (by decide +kernel) rfl rfl (Nat.le_of_ble_eq_true rfl) dX1_passNight_28 (fun H locs hP _ hS => ?_)
      obtain ⟨gS_13, egS_13⟩ : ∃ z : GS, z = (up2 gS 0 5 x12) := ⟨_, rfl⟩
      have hP : va_P D vwCl (cStand Y aS (hT 0) vS gS_13 ++ cRow Y vS 8 fW_3 ++ cTold Y hT tT) H := by rw [egS_13]; exact hP
      replace hM := nm_at hM egS_13
      cases hM
      rw [hQQ]
      exact W.vret hx hb hr (fun t ht hW => ⟨⟨(), rfl, trivial, by show va_P D vwCl _ t.heap; rw [ht]; exact hP⟩, hS.F ht⟩) hS.2.2 dX1_passNight_31
  · replace hM := if_at_pos hM c1
    refine lv_aload_n hx hb dX1_passNight_5 rfl (lv_at hl 0 rfl) ?_
    obtain ⟨gS_14, fW_15, hc16, hM⟩ := bnd2_at hM
    refine co_v (va_runV (As := []) (rest := []) ⟨hx, hb, hml, hown, hts⟩ (ctX1_passNightByLot l D Y aS vS hT H.size gS fW tT gS_14 fW_15 hc16) (cwV 0 hts gX1_passNight_X1_passNightByLot rfl rfl rfl (by decide +kernel) ⟨Nat.le_of_ble_eq_true rfl, Nat.le_of_ble_eq_true rfl⟩) (pcW_V0 (ci := 1) (q0 := 0) hK hP (hD.same rfl) rfl rfl) rfl rfl hl.1 rfl (lv_room (Nat.le_of_ble_eq_true rfl)) dX1_passNight_6 ⟨Nat.zero_le _, Nat.zero_le _⟩) (hD.same rfl) hS hA (fun H locs hP hS => ?_)
    cases hM
    rw [hQQ]
    exact W.vret hx hb hr (fun t ht hW => ⟨⟨(), rfl, trivial, by show va_P D vwCl _ t.heap; rw [ht]; exact hP⟩, hS.F ht⟩) hS.2.2 dX1_passNight_9
noncomputable def MX1_areBeside (gS : GS) (tT : GS) (i1 : Int32) (i2 : Int32) : Option (Int32) := bnd1 (MX1_groundOf gS tT i1) fun (r1 : Int32) => bnd1 (MX3_around tT r1) fun (r3 : Int32) => bnd1 (MX1_groundOf gS tT i2) fun (r5 : Int32) => jn1 (fun (x7 : Int32) => chkB x7 (some (x7))) (fun k8 => if (r3 &&& r5) = 0 then (k8 (0 : Int32)) else (k8 (1 : Int32)))
abbrev rmX1_areBeside : Room := { frames := 4, cells := 0, slots := 0, locals := 160 }
set_option maxHeartbeats 4000000 in
set_option maxRecDepth 100000 in
theorem ctX1_areBeside (l : Launch) (D : va_G) (Y : Nat → ClassId) (aS : Nat → Nat) (hT : Nat → Nat) (vS : Nat) (sz : Nat) (gS : GS) (tT : GS) (i1 : Int32) (i2 : Int32) (rr : Int32) (hM : MX1_areBeside gS tT i1 i2 = some (rr)) : Met l yX1_areBeside wsX1_areBeside rmX1_areBeside (pcW [.ref (aS 0), .int i1, .int i2] sz D Y (cStand Y aS (hT 0) vS gS ++ cTold Y hT tT)) (qiW rr D (cStand Y aS (hT 0) vS gS ++ cTold Y hT tT) (va_A (cStand Y aS (hT 0) vS gS ++ cTold Y hT tT) sz)) 0 0 (va_A (cStand Y aS (hT 0) vS gS ++ cTold Y hT tT) sz) := by
  refine Met.ofW (cc := cX1_areBeside) (maxL := 3) (ret := (some .boolean)) (by decide) rfl ?_
  intro p e s m args below meth c s₁ B hml hv
  obtain ⟨rfl, hsz, hP, hK, hD0⟩ := hv
  have hx := B.exec
  have hb := B.bytes
  have hr := B.returns
  have hts := atoms_spec (ws := wsX1_areBeside) B.pre
  have hown : s.vm.findClass RX1 = some m.cls := findClass_of_methodNamed B.named
  have hlocks := B.notSynchronized
  subst hsz
  have hD := hD0.self (sz := s.heap.size)
  generalize hAe : va_A (cStand Y aS (hT 0) vS gS ++ cTold Y hT tT) s.heap.size = A at hD ⊢
  have hA : ∀ q : Nat, s.heap.size ≤ q → A q := fun q h => by rw [← hAe]; exact Or.inr h
  have hS : va_S A s.heap s.heap [] := va_S.rf
  have hi1 : ∀ w ∈ wsX10, w ∈ wsX1_areBeside := fun w h => List.mem_cons_of_mem _ (List.mem_append_left _ (List.mem_append_right _ h))
  have hl := lv_entry ([.ref (aS 0), .int i1, .int i2]) (n := 3) (Nat.le_of_ble_eq_true rfl)
  rw [lg_entry_eq]
  generalize (lg_sl ([.ref (aS 0), .int i1, .int i2]) ++ List.replicate (3 - (lg_sl ([.ref (aS 0), .int i1, .int i2])).length) Slot.unset).toArray = ls at hl ⊢
  have hl : lv_has ls 3 [(0, .ref (aS 0)), (1, .int i1), (2, .int i2)] := hl
  obtain ⟨QQ, hQQ⟩ : ∃ Q : State → Prop, Q = MQ below (qiW rr D (cStand Y aS (hT 0) vS gS ++ cTold Y hT tT) A) ([.ref (aS 0), .int i1, .int i2] : List Value).toArray s 0 0 A := ⟨_, rfl⟩
  rw [← hQQ]
  unfold MX1_areBeside at hM
  suffices hI : ∀ (H : Heap) (locs : List Loc), va_P D vwCl (cStand Y aS (hT 0) vS gS ++ cTold Y hT tT) H → va_S A s.heap H locs → W p l e (headSpec wsX1_areBeside rmX1_areBeside).room s m ([.ref (aS 0), .int i1, .int i2] : List Value).toArray below meth c H locs 0 0 QQ (F0 m 0 ls []) from hI _ _ hP hS
  clear hP hS
  intro H locs hP hS
  refine lv_aload_n hx hb dX1_areBeside_0 rfl (lv_at hl 0 rfl) ?_
  refine va_get hx hb hts hi1 hown hK hP 0 rfl rfl 0 (by decide) (hts (.fieldLink RX1 21 "NightPlots$Standing" "told" "LNightPlots$Told;") (List.mem_of_getElem? (i := 1) rfl)) (fun _ h9 => h9) rfl dX1_areBeside_1 ?_
  refine lv_aload_n hx hb dX1_areBeside_4 rfl (lv_at hl 0 rfl) ?_
  refine lv_iload_n hx hb dX1_areBeside_5 rfl (lv_at hl 1 rfl) ?_
  obtain ⟨r1, hc2, hM⟩ := bnd1_at hM
  refine co_i (va_runV (As := [.int i1]) (rest := [.ref (hT 0)]) ⟨hx, hb, hml, hown, hts⟩ (ctX1_groundOf l D Y aS hT vS H.size gS tT i1 r1 hc2) (cwV 1 hts gX1_areBeside_X1_groundOf rfl rfl rfl (by decide +kernel) ⟨Nat.le_of_ble_eq_true rfl, Nat.le_of_ble_eq_true rfl⟩) (pcW_V0 (ci := 1) (q0 := 0) hK hP (hD.same rfl) rfl rfl) rfl rfl hl.1 rfl (lv_room (Nat.le_of_ble_eq_true rfl)) dX1_areBeside_6 ⟨Nat.zero_le _, Nat.zero_le _⟩) (hD.same rfl) hS hA (fun H locs hP hS => ?_)
  obtain ⟨r3, hc4, hM⟩ := bnd1_at hM
  refine cm_i (w2 := (cStand Y aS (hT 0) vS gS ++ cTold Y hT tT)) (va_runV (As := [.int r1]) (rest := []) ⟨hx, hb, hml, hown, hts⟩ (ctX3_around l D Y hT H.size tT r1 r3 hc4) (cwV 1 hts gX1_areBeside_X3_around rfl rfl rfl (by decide +kernel) ⟨Nat.le_of_ble_eq_true rfl, Nat.le_of_ble_eq_true rfl⟩) (pcW_V (ci := 3) (q0 := 3) hK hP (hD.same rfl) [3, 4, 5, 6, 7, 8, 9, 10] rfl (pc_map (pc_cons rfl (pc_cons rfl (pc_cons rfl (pc_cons rfl (pc_cons rfl (pc_cons rfl (pc_cons rfl (pc_cons rfl pc_nil))))))))) rfl rfl) rfl rfl hl.1 rfl (lv_room (Nat.le_of_ble_eq_true rfl)) dX1_areBeside_9 ⟨Nat.zero_le _, Nat.zero_le _⟩) hP (hD.same rfl) hS hA [3, 4, 5, 6, 7, 8, 9, 10] (pc_map (pc_cons rfl (pc_cons rfl (pc_cons rfl (pc_cons rfl (pc_cons rfl (pc_cons rfl (pc_cons rfl (pc_cons rfl pc_nil))))))))) (up_old rfl rfl (up_old rfl rfl (up_old rfl rfl (up_new 0 rfl (up_new 1 rfl (up_new 2 rfl (up_new 3 rfl (up_new 4 rfl (up_new 5 rfl (up_new 6 rfl (up_new 7 rfl up_nil))))))))))) (fun H locs hP hS => ?_)
  refine lv_aload_n hx hb dX1_areBeside_12 rfl (lv_at hl 0 rfl) ?_
  refine lv_iload_n hx hb dX1_areBeside_13 rfl (lv_at hl 2 rfl) ?_
  obtain ⟨r5, hc6, hM⟩ := bnd1_at hM
  refine co_i (va_runV (As := [.int i2]) (rest := [.int r3]) ⟨hx, hb, hml, hown, hts⟩ (ctX1_groundOf l D Y aS hT vS H.size gS tT i2 r5 hc6) (cwV 1 hts gX1_areBeside_X1_groundOf rfl rfl rfl (by decide +kernel) ⟨Nat.le_of_ble_eq_true rfl, Nat.le_of_ble_eq_true rfl⟩) (pcW_V0 (ci := 1) (q0 := 0) hK hP (hD.same rfl) rfl rfl) rfl rfl hl.1 rfl (lv_room (Nat.le_of_ble_eq_true rfl)) dX1_areBeside_14 ⟨Nat.zero_le _, Nat.zero_le _⟩) (hD.same rfl) hS hA (fun H locs hP hS => ?_)
  refine lv_iand hx hb dX1_areBeside_17 ?_
  refine jn1_at (fun (x7 : Int32) => ∀ (H : Heap) (locs : List Loc) (ls : Array Slot), va_P D vwCl (cStand Y aS (hT 0) vS gS ++ cTold Y hT tT) H → va_S A s.heap H locs → lv_has ls 3 [] → W p l e (headSpec wsX1_areBeside rmX1_areBeside).room s m ([.ref (aS 0), .int i1, .int i2] : List Value).toArray below meth c H locs 0 0 QQ (F0 m 26 ls [.int x7])) hM (fun x7 hM H locs ls hP hS hl => ?_) (fun k8 hJ8 hM => ?_)
  · obtain ⟨hz9, hM⟩ := chkB_at hM
    cases hM
    rw [hQQ]
    exact W.zret (ty := .boolean) hx hb hr hz9 (fun t ht hW => ⟨⟨_, (), rfl, rfl, by show va_P D vwCl _ t.heap; rw [ht]; exact hP⟩, hS.F ht⟩) hS.2.2 dX1_areBeside_26
  · refine lv_if_eq (tgt := 25) hx hb dX1_areBeside_18 (by decide) (fun c10 => ?_) (fun c10 => ?_)
    · replace hM := if_at_pos hM c10
      refine lv_iconst (v := (0 : Int32)) hx hb dX1_areBeside_25 (by decide) ?_
      exact hJ8 (0 : Int32) hM H locs ls hP hS (lv_sub hl [] rfl)
    · replace hM := if_at_neg hM c10
      refine lv_iconst (v := (1 : Int32)) hx hb dX1_areBeside_21 (by decide) ?_
      refine lv_goto (tgt := 26) hx hb dX1_areBeside_22 (by decide) ?_
      exact hJ8 (1 : Int32) hM H locs ls hP hS (lv_sub hl [] rfl)
noncomputable def MX1_areOpposite (gS : GS) (tT : GS) (i1 : Int32) (i2 : Int32) : Option (Int32) := chkI i1 8 (chkI i2 8 (jn1 (fun (x3 : Int32) => chkB x3 (some (x3))) (fun k4 => if ((2 : Int32) * (if 0 ≤ ((gS 1 i1.toNatClampNeg) - (gS 1 i2.toNatClampNeg)) then ((gS 1 i1.toNatClampNeg) - (gS 1 i2.toNatClampNeg)) else 0 - ((gS 1 i1.toNatClampNeg) - (gS 1 i2.toNatClampNeg)))) = (tT 0 0) then (k4 (1 : Int32)) else (k4 (0 : Int32)))))
abbrev rmX1_areOpposite : Room := { frames := 2, cells := 0, slots := 0, locals := 80 }
set_option maxHeartbeats 4000000 in
set_option maxRecDepth 100000 in
theorem ctX1_areOpposite (l : Launch) (D : va_G) (Y : Nat → ClassId) (aS : Nat → Nat) (hT : Nat → Nat) (vS : Nat) (sz : Nat) (gS : GS) (tT : GS) (i1 : Int32) (i2 : Int32) (rr : Int32) (hM : MX1_areOpposite gS tT i1 i2 = some (rr)) : Met l yX1_areOpposite wsX1_areOpposite rmX1_areOpposite (pcW [.ref (aS 0), .int i1, .int i2] sz D Y (cStand Y aS (hT 0) vS gS ++ cTold Y hT tT)) (qiW rr D (cStand Y aS (hT 0) vS gS ++ cTold Y hT tT) (va_A (cStand Y aS (hT 0) vS gS ++ cTold Y hT tT) sz)) 0 0 (va_A (cStand Y aS (hT 0) vS gS ++ cTold Y hT tT) sz) := by
  refine Met.ofW (cc := cX1_areOpposite) (maxL := 3) (ret := (some .boolean)) (by decide) rfl ?_
  intro p e s m args below meth c s₁ B hml hv
  obtain ⟨rfl, hsz, hP, hK, hD0⟩ := hv
  have hx := B.exec
  have hb := B.bytes
  have hr := B.returns
  have hts := atoms_spec (ws := wsX1_areOpposite) B.pre
  have hown : s.vm.findClass RX1 = some m.cls := findClass_of_methodNamed B.named
  have hlocks := B.notSynchronized
  subst hsz
  have hD := hD0.self (sz := s.heap.size)
  generalize hAe : va_A (cStand Y aS (hT 0) vS gS ++ cTold Y hT tT) s.heap.size = A at hD ⊢
  have hA : ∀ q : Nat, s.heap.size ≤ q → A q := fun q h => by rw [← hAe]; exact Or.inr h
  have hS : va_S A s.heap s.heap [] := va_S.rf
  have hi1 : ∀ w ∈ wsX10, w ∈ wsX1_areOpposite := fun w h => List.mem_cons_of_mem _ (List.mem_append_left _ (List.mem_append_right _ h))
  have hi3 : ∀ w ∈ wsX30, w ∈ wsX1_areOpposite := fun w h => List.mem_cons_of_mem _ (List.mem_append_right _ h)
  have hl := lv_entry ([.ref (aS 0), .int i1, .int i2]) (n := 3) (Nat.le_of_ble_eq_true rfl)
  rw [lg_entry_eq]
  generalize (lg_sl ([.ref (aS 0), .int i1, .int i2]) ++ List.replicate (3 - (lg_sl ([.ref (aS 0), .int i1, .int i2])).length) Slot.unset).toArray = ls at hl ⊢
  have hl : lv_has ls 3 [(0, .ref (aS 0)), (1, .int i1), (2, .int i2)] := hl
  obtain ⟨QQ, hQQ⟩ : ∃ Q : State → Prop, Q = MQ below (qiW rr D (cStand Y aS (hT 0) vS gS ++ cTold Y hT tT) A) ([.ref (aS 0), .int i1, .int i2] : List Value).toArray s 0 0 A := ⟨_, rfl⟩
  rw [← hQQ]
  unfold MX1_areOpposite at hM
  suffices hI : ∀ (H : Heap) (locs : List Loc), va_P D vwCl (cStand Y aS (hT 0) vS gS ++ cTold Y hT tT) H → va_S A s.heap H locs → W p l e (headSpec wsX1_areOpposite rmX1_areOpposite).room s m ([.ref (aS 0), .int i1, .int i2] : List Value).toArray below meth c H locs 0 0 QQ (F0 m 0 ls []) from hI _ _ hP hS
  clear hP hS
  intro H locs hP hS
  refine lv_iconst (v := (2 : Int32)) hx hb dX1_areOpposite_0 (by decide) ?_
  refine lv_aload_n hx hb dX1_areOpposite_1 rfl (lv_at hl 0 rfl) ?_
  refine va_get hx hb hts hi1 hown hK hP 0 rfl rfl 1 (by decide) (hts (.fieldLink RX1 9 "NightPlots$Standing" "place" "[I") (List.mem_of_getElem? (i := 1) rfl)) (fun _ h9 => h9) rfl dX1_areOpposite_2 ?_
  refine lv_iload_n hx hb dX1_areOpposite_5 rfl (lv_at hl 1 rfl) ?_
  obtain ⟨hi_1, hM⟩ := chkI_at hM
  refine va_iald hx hb hK hP 1 0 rfl rfl hi_1 dX1_areOpposite_6 ?_
  refine lv_aload_n hx hb dX1_areOpposite_7 rfl (lv_at hl 0 rfl) ?_
  refine va_get hx hb hts hi1 hown hK hP 0 rfl rfl 1 (by decide) (hts (.fieldLink RX1 9 "NightPlots$Standing" "place" "[I") (List.mem_of_getElem? (i := 1) rfl)) (fun _ h9 => h9) rfl dX1_areOpposite_8 ?_
  refine lv_iload_n hx hb dX1_areOpposite_11 rfl (lv_at hl 2 rfl) ?_
  obtain ⟨hi_2, hM⟩ := chkI_at hM
  refine va_iald hx hb hK hP 1 0 rfl rfl hi_2 dX1_areOpposite_12 ?_
  refine lv_isub hx hb dX1_areOpposite_13 ?_
  refine va_mabs hx hb (hml.trans hl.1.symm) hown (hts (.methodLink RX1 142 Lib.Math.abs.name) (List.mem_of_getElem? (i := 2) rfl)) (hts (.static Lib.Math.abs.name) (List.mem_of_getElem? (i := 3) rfl)) (hts (.initialized "java/lang/Math") (List.mem_of_getElem? (i := 4) rfl)) (hts (.code Lib.Math.abs.name Lib.Math.abs.code 1 (some .int)) (List.mem_of_getElem? (i := 5) rfl)) (Nat.le_of_ble_eq_true rfl) (Nat.le_of_ble_eq_true rfl) (Nat.zero_le _) (Nat.zero_le _) dX1_areOpposite_14 ?_
  refine lv_imul hx hb dX1_areOpposite_17 ?_
  refine lv_aload_n hx hb dX1_areOpposite_18 rfl (lv_at hl 0 rfl) ?_
  refine va_get hx hb hts hi1 hown hK hP 0 rfl rfl 0 (by decide) (hts (.fieldLink RX1 21 "NightPlots$Standing" "told" "LNightPlots$Told;") (List.mem_of_getElem? (i := 6) rfl)) (fun _ h9 => h9) rfl dX1_areOpposite_19 ?_
  refine va_get hx hb hts hi3 hown hK hP 3 rfl rfl 0 (by decide) (hts (.fieldLink RX1 147 "NightPlots$Told" "plots" "I") (List.mem_of_getElem? (i := 7) rfl)) (fun _ h9 => h9) rfl dX1_areOpposite_22 ?_
  refine jn1_at (fun (x3 : Int32) => ∀ (H : Heap) (locs : List Loc) (ls : Array Slot), va_P D vwCl (cStand Y aS (hT 0) vS gS ++ cTold Y hT tT) H → va_S A s.heap H locs → lv_has ls 3 [] → W p l e (headSpec wsX1_areOpposite rmX1_areOpposite).room s m ([.ref (aS 0), .int i1, .int i2] : List Value).toArray below meth c H locs 0 0 QQ (F0 m 33 ls [.int x3])) hM (fun x3 hM H locs ls hP hS hl => ?_) (fun k4 hJ4 hM => ?_)
  · obtain ⟨hz5, hM⟩ := chkB_at hM
    cases hM
    rw [hQQ]
    exact W.zret (ty := .boolean) hx hb hr hz5 (fun t ht hW => ⟨⟨_, (), rfl, rfl, by show va_P D vwCl _ t.heap; rw [ht]; exact hP⟩, hS.F ht⟩) hS.2.2 dX1_areOpposite_33
  · refine lv_icmp_ne (tgt := 32) hx hb dX1_areOpposite_25 (by decide) (fun c6 => ?_) (fun c6 => ?_)
    · replace hM := if_at_neg hM c6
      refine lv_iconst (v := (0 : Int32)) hx hb dX1_areOpposite_32 (by decide) ?_
      exact hJ4 (0 : Int32) hM H locs ls hP hS (lv_sub hl [] rfl)
    · replace hM := if_at_pos hM c6
      refine lv_iconst (v := (1 : Int32)) hx hb dX1_areOpposite_28 (by decide) ?_
      refine lv_goto (tgt := 33) hx hb dX1_areOpposite_29 (by decide) ?_
      exact hJ4 (1 : Int32) hM H locs ls hP hS (lv_sub hl [] rfl)
noncomputable def MX1_meets (gS : GS) (tT : GS) (i1 : Int32) (i2 : Int32) (i3 : Int32) : Option (Int32) := jn1 (fun (x1 : Int32) => chkB x1 (some (x1))) (fun k2 => if i3 = 0 then (bnd1 (MX1_areBeside gS tT i1 i2) fun (r7 : Int32) => k2 r7) else (bnd1 (MX1_areOpposite gS tT i1 i2) fun (r5 : Int32) => k2 r5))
abbrev rmX1_meets : Room := { frames := 5, cells := 0, slots := 0, locals := 200 }
set_option maxHeartbeats 4000000 in
set_option maxRecDepth 100000 in
theorem ctX1_meets (l : Launch) (D : va_G) (Y : Nat → ClassId) (aS : Nat → Nat) (hT : Nat → Nat) (vS : Nat) (sz : Nat) (gS : GS) (tT : GS) (i1 : Int32) (i2 : Int32) (i3 : Int32) (rr : Int32) (hM : MX1_meets gS tT i1 i2 i3 = some (rr)) : Met l yX1_meets wsX1_meets rmX1_meets (pcW [.ref (aS 0), .int i1, .int i2, .int i3] sz D Y (cStand Y aS (hT 0) vS gS ++ cTold Y hT tT)) (qiW rr D (cStand Y aS (hT 0) vS gS ++ cTold Y hT tT) (va_A (cStand Y aS (hT 0) vS gS ++ cTold Y hT tT) sz)) 0 0 (va_A (cStand Y aS (hT 0) vS gS ++ cTold Y hT tT) sz) := by
  refine Met.ofW (cc := cX1_meets) (maxL := 4) (ret := (some .boolean)) (by decide) rfl ?_
  intro p e s m args below meth c s₁ B hml hv
  obtain ⟨rfl, hsz, hP, hK, hD0⟩ := hv
  have hx := B.exec
  have hb := B.bytes
  have hr := B.returns
  have hts := atoms_spec (ws := wsX1_meets) B.pre
  have hown : s.vm.findClass RX1 = some m.cls := findClass_of_methodNamed B.named
  have hlocks := B.notSynchronized
  subst hsz
  have hD := hD0.self (sz := s.heap.size)
  generalize hAe : va_A (cStand Y aS (hT 0) vS gS ++ cTold Y hT tT) s.heap.size = A at hD ⊢
  have hA : ∀ q : Nat, s.heap.size ≤ q → A q := fun q h => by rw [← hAe]; exact Or.inr h
  have hS : va_S A s.heap s.heap [] := va_S.rf
  have hl := lv_entry ([.ref (aS 0), .int i1, .int i2, .int i3]) (n := 4) (Nat.le_of_ble_eq_true rfl)
  rw [lg_entry_eq]
  generalize (lg_sl ([.ref (aS 0), .int i1, .int i2, .int i3]) ++ List.replicate (4 - (lg_sl ([.ref (aS 0), .int i1, .int i2, .int i3])).length) Slot.unset).toArray = ls at hl ⊢
  have hl : lv_has ls 4 [(0, .ref (aS 0)), (1, .int i1), (2, .int i2), (3, .int i3)] := hl
  obtain ⟨QQ, hQQ⟩ : ∃ Q : State → Prop, Q = MQ below (qiW rr D (cStand Y aS (hT 0) vS gS ++ cTold Y hT tT) A) ([.ref (aS 0), .int i1, .int i2, .int i3] : List Value).toArray s 0 0 A := ⟨_, rfl⟩
  rw [← hQQ]
  unfold MX1_meets at hM
  suffices hI : ∀ (H : Heap) (locs : List Loc), va_P D vwCl (cStand Y aS (hT 0) vS gS ++ cTold Y hT tT) H → va_S A s.heap H locs → W p l e (headSpec wsX1_meets rmX1_meets).room s m ([.ref (aS 0), .int i1, .int i2, .int i3] : List Value).toArray below meth c H locs 0 0 QQ (F0 m 0 ls []) from hI _ _ hP hS
  clear hP hS
  intro H locs hP hS
  refine lv_iload_n hx hb dX1_meets_0 rfl (lv_at hl 3 rfl) ?_
  refine jn1_at (fun (x1 : Int32) => ∀ (H : Heap) (locs : List Loc) (ls : Array Slot), va_P D vwCl (cStand Y aS (hT 0) vS gS ++ cTold Y hT tT) H → va_S A s.heap H locs → lv_has ls 4 [] → W p l e (headSpec wsX1_meets rmX1_meets).room s m ([.ref (aS 0), .int i1, .int i2, .int i3] : List Value).toArray below meth c H locs 0 0 QQ (F0 m 19 ls [.int x1])) hM (fun x1 hM H locs ls hP hS hl => ?_) (fun k2 hJ2 hM => ?_)
  · obtain ⟨hz3, hM⟩ := chkB_at hM
    cases hM
    rw [hQQ]
    exact W.zret (ty := .boolean) hx hb hr hz3 (fun t ht hW => ⟨⟨_, (), rfl, rfl, by show va_P D vwCl _ t.heap; rw [ht]; exact hP⟩, hS.F ht⟩) hS.2.2 dX1_meets_19
  · refine lv_if_ne (tgt := 13) hx hb dX1_meets_1 (by decide) (fun c4 => ?_) (fun c4 => ?_)
    · replace hM := if_at_neg hM c4
      refine lv_aload_n hx hb dX1_meets_13 rfl (lv_at hl 0 rfl) ?_
      refine lv_iload_n hx hb dX1_meets_14 rfl (lv_at hl 1 rfl) ?_
      refine lv_iload_n hx hb dX1_meets_15 rfl (lv_at hl 2 rfl) ?_
      obtain ⟨r5, hc6, hM⟩ := bnd1_at hM
      refine co_i (va_runV (As := [.int i1, .int i2]) (rest := []) ⟨hx, hb, hml, hown, hts⟩ (ctX1_areOpposite l D Y aS hT vS H.size gS tT i1 i2 r5 hc6) (cwV 2 hts gX1_meets_X1_areOpposite rfl rfl rfl (by decide +kernel) ⟨Nat.le_of_ble_eq_true rfl, Nat.le_of_ble_eq_true rfl⟩) (pcW_V0 (ci := 1) (q0 := 0) hK hP (hD.same rfl) rfl rfl) rfl rfl hl.1 rfl (lv_room (Nat.le_of_ble_eq_true rfl)) dX1_meets_16 ⟨Nat.zero_le _, Nat.zero_le _⟩) (hD.same rfl) hS hA (fun H locs hP hS => ?_)
      exact hJ2 r5 hM H locs ls hP hS (lv_sub hl [] rfl)
    · replace hM := if_at_pos hM c4
      refine lv_aload_n hx hb dX1_meets_4 rfl (lv_at hl 0 rfl) ?_
      refine lv_iload_n hx hb dX1_meets_5 rfl (lv_at hl 1 rfl) ?_
      refine lv_iload_n hx hb dX1_meets_6 rfl (lv_at hl 2 rfl) ?_
      obtain ⟨r7, hc8, hM⟩ := bnd1_at hM
      refine co_i (va_runV (As := [.int i1, .int i2]) (rest := []) ⟨hx, hb, hml, hown, hts⟩ (ctX1_areBeside l D Y aS hT vS H.size gS tT i1 i2 r7 hc8) (cwV 2 hts gX1_meets_X1_areBeside rfl rfl rfl (by decide +kernel) ⟨Nat.le_of_ble_eq_true rfl, Nat.le_of_ble_eq_true rfl⟩) (pcW_V0 (ci := 1) (q0 := 0) hK hP (hD.same rfl) rfl rfl) rfl rfl hl.1 rfl (lv_room (Nat.le_of_ble_eq_true rfl)) dX1_meets_7 ⟨Nat.zero_le _, Nat.zero_le _⟩) (hD.same rfl) hS hA (fun H locs hP hS => ?_)
      refine lv_goto (tgt := 19) hx hb dX1_meets_10 (by decide) ?_
      exact hJ2 r7 hM H locs ls hP hS (lv_sub hl [] rfl)
noncomputable def BX1_hasFeudBeside_2 (tT : GS) (k1 : Option (Int32)) (gS : GS) (k2 : Option (Int32)) (rec4 : Int32 → Option (Int32)) (x3 : Int32) : Option (Int32) := if (tT 0 3) ≤ x3 then (k1) else (chkI x3 6 (chkI x3 6 (bnd1 (MX1_areBeside gS tT (tT 6 x3.toNatClampNeg) (tT 7 x3.toNatClampNeg)) fun (r8 : Int32) => if r8 = 0 then (nm (x3 + 1) fun (x11 : Int32) => rec4 x11) else (k2))))
noncomputable def MX1_hasFeudBeside (gS : GS) (tT : GS) : Option (Int32) := jn0 (some ((0 : Int32))) (fun k1 => jn0 (some ((1 : Int32))) (fun k2 => lq1 (BX1_hasFeudBeside_2 tT k1 gS k2) FU (0 : Int32)))
abbrev rmX1_hasFeudBeside : Room := { frames := 5, cells := 0, slots := 0, locals := 200 }
set_option maxHeartbeats 4000000 in
set_option maxRecDepth 100000 in
theorem ctX1_hasFeudBeside (l : Launch) (D : va_G) (Y : Nat → ClassId) (aS : Nat → Nat) (hT : Nat → Nat) (vS : Nat) (sz : Nat) (gS : GS) (tT : GS) (rr : Int32) (hM : MX1_hasFeudBeside gS tT = some (rr)) : Met l yX1_hasFeudBeside wsX1_hasFeudBeside rmX1_hasFeudBeside (pcW [.ref (aS 0)] sz D Y (cStand Y aS (hT 0) vS gS ++ cTold Y hT tT)) (qiW rr D (cStand Y aS (hT 0) vS gS ++ cTold Y hT tT) (va_A (cStand Y aS (hT 0) vS gS ++ cTold Y hT tT) sz)) 0 0 (va_A (cStand Y aS (hT 0) vS gS ++ cTold Y hT tT) sz) := by
  refine Met.ofW (cc := cX1_hasFeudBeside) (maxL := 2) (ret := (some .boolean)) (by decide) rfl ?_
  intro p e s m args below meth c s₁ B hml hv
  obtain ⟨rfl, hsz, hP, hK, hD0⟩ := hv
  have hx := B.exec
  have hb := B.bytes
  have hr := B.returns
  have hts := atoms_spec (ws := wsX1_hasFeudBeside) B.pre
  have hown : s.vm.findClass RX1 = some m.cls := findClass_of_methodNamed B.named
  have hlocks := B.notSynchronized
  subst hsz
  have hD := hD0.self (sz := s.heap.size)
  generalize hAe : va_A (cStand Y aS (hT 0) vS gS ++ cTold Y hT tT) s.heap.size = A at hD ⊢
  have hA : ∀ q : Nat, s.heap.size ≤ q → A q := fun q h => by rw [← hAe]; exact Or.inr h
  have hS : va_S A s.heap s.heap [] := va_S.rf
  have hi1 : ∀ w ∈ wsX10, w ∈ wsX1_hasFeudBeside := fun w h => List.mem_cons_of_mem _ (List.mem_append_left _ (List.mem_append_right _ h))
  have hi3 : ∀ w ∈ wsX30, w ∈ wsX1_hasFeudBeside := fun w h => List.mem_cons_of_mem _ (List.mem_append_right _ h)
  have hl := lv_entry ([.ref (aS 0)]) (n := 2) (Nat.le_of_ble_eq_true rfl)
  rw [lg_entry_eq]
  generalize (lg_sl ([.ref (aS 0)]) ++ List.replicate (2 - (lg_sl ([.ref (aS 0)])).length) Slot.unset).toArray = ls at hl ⊢
  have hl : lv_has ls 2 [(0, .ref (aS 0))] := hl
  obtain ⟨QQ, hQQ⟩ : ∃ Q : State → Prop, Q = MQ below (qiW rr D (cStand Y aS (hT 0) vS gS ++ cTold Y hT tT) A) ([.ref (aS 0)] : List Value).toArray s 0 0 A := ⟨_, rfl⟩
  rw [← hQQ]
  unfold MX1_hasFeudBeside at hM
  suffices hI : ∀ (H : Heap) (locs : List Loc), va_P D vwCl (cStand Y aS (hT 0) vS gS ++ cTold Y hT tT) H → va_S A s.heap H locs → W p l e (headSpec wsX1_hasFeudBeside rmX1_hasFeudBeside).room s m ([.ref (aS 0)] : List Value).toArray below meth c H locs 0 0 QQ (F0 m 0 ls []) from hI _ _ hP hS
  clear hP hS
  intro H locs hP hS
  refine lv_iconst (v := (0 : Int32)) hx hb dX1_hasFeudBeside_0 (by decide) ?_
  refine lv_istore_n (lv' := [(1, .int (0 : Int32)), (0, .ref (aS 0))]) hx hb dX1_hasFeudBeside_1 rfl hl (by decide) rfl (fun ls hl => ?_)
  refine jn0_at (∀ (H : Heap) (locs : List Loc) (ls : Array Slot), va_P D vwCl (cStand Y aS (hT 0) vS gS ++ cTold Y hT tT) H → va_S A s.heap H locs → lv_has ls 2 [] → W p l e (headSpec wsX1_hasFeudBeside rmX1_hasFeudBeside).room s m ([.ref (aS 0)] : List Value).toArray below meth c H locs 0 0 QQ (F0 m 46 ls [])) hM (fun  hM H locs ls hP hS hl => ?_) (fun k1 hJ1 hM => ?_)
  · refine lv_iconst (v := (0 : Int32)) hx hb dX1_hasFeudBeside_46 (by decide) ?_
    cases hM
    rw [hQQ]
    exact W.zret (ty := .boolean) hx hb hr rfl (fun t ht hW => ⟨⟨_, (), rfl, rfl, by show va_P D vwCl _ t.heap; rw [ht]; exact hP⟩, hS.F ht⟩) hS.2.2 dX1_hasFeudBeside_47
  · refine jn0_at (∀ (H : Heap) (locs : List Loc) (ls : Array Slot), va_P D vwCl (cStand Y aS (hT 0) vS gS ++ cTold Y hT tT) H → va_S A s.heap H locs → lv_has ls 2 [] → W p l e (headSpec wsX1_hasFeudBeside rmX1_hasFeudBeside).room s m ([.ref (aS 0)] : List Value).toArray below meth c H locs 0 0 QQ (F0 m 38 ls [])) hM (fun  hM H locs ls hP hS hl => ?_) (fun k2 hJ2 hM => ?_)
    · refine lv_iconst (v := (1 : Int32)) hx hb dX1_hasFeudBeside_38 (by decide) ?_
      cases hM
      rw [hQQ]
      exact W.zret (ty := .boolean) hx hb hr rfl (fun t ht hW => ⟨⟨_, (), rfl, rfl, by show va_P D vwCl _ t.heap; rw [ht]; exact hP⟩, hS.F ht⟩) hS.2.2 dX1_hasFeudBeside_39
    · refine lq1_at (fun (x3 : Int32) => ∀ (H : Heap) (locs : List Loc) (ls : Array Slot), va_P D vwCl (cStand Y aS (hT 0) vS gS ++ cTold Y hT tT) H → va_S A s.heap H locs → lv_has ls 2 [(0, .ref (aS 0)), (1, .int x3)] → W p l e (headSpec wsX1_hasFeudBeside rmX1_hasFeudBeside).room s m ([.ref (aS 0)] : List Value).toArray below meth c H locs 0 0 QQ (F0 m 2 ls [])) (fun rec4 x3 ih4 hM H locs ls hP hS hl => ?_) FU (0 : Int32) hM H locs ls hP hS (lv_sub hl [1, 0] rfl)
      unfold BX1_hasFeudBeside_2 at hM
      refine lv_iload_n hx hb dX1_hasFeudBeside_2 rfl (lv_at hl 1 rfl) ?_
      refine lv_aload_n hx hb dX1_hasFeudBeside_3 rfl (lv_at hl 0 rfl) ?_
      refine va_get hx hb hts hi1 hown hK hP 0 rfl rfl 0 (by decide) (hts (.fieldLink RX1 21 "NightPlots$Standing" "told" "LNightPlots$Told;") (List.mem_of_getElem? (i := 1) rfl)) (fun _ h9 => h9) rfl dX1_hasFeudBeside_4 ?_
      refine va_get hx hb hts hi3 hown hK hP 3 rfl rfl 3 (by decide) (hts (.fieldLink RX1 150 "NightPlots$Told" "feuds" "I") (List.mem_of_getElem? (i := 2) rfl)) (fun _ h9 => h9) rfl dX1_hasFeudBeside_7 ?_
      refine lv_icmp_ge (tgt := 46) hx hb dX1_hasFeudBeside_10 (by decide) (fun c5 => ?_) (fun c5 => ?_)
      · replace hM := if_at_pos hM c5
        exact hJ1 hM H locs ls hP hS (lv_sub hl [] rfl)
      · replace hM := if_at_neg hM c5
        refine lv_aload_n hx hb dX1_hasFeudBeside_13 rfl (lv_at hl 0 rfl) ?_
        refine lv_aload_n hx hb dX1_hasFeudBeside_14 rfl (lv_at hl 0 rfl) ?_
        refine va_get hx hb hts hi1 hown hK hP 0 rfl rfl 0 (by decide) (hts (.fieldLink RX1 21 "NightPlots$Standing" "told" "LNightPlots$Told;") (List.mem_of_getElem? (i := 1) rfl)) (fun _ h9 => h9) rfl dX1_hasFeudBeside_15 ?_
        refine va_get hx hb hts hi3 hown hK hP 3 rfl rfl 11 (by decide) (hts (.fieldLink RX1 153 "NightPlots$Told" "feudOne" "[I") (List.mem_of_getElem? (i := 3) rfl)) (fun _ h9 => h9) rfl dX1_hasFeudBeside_18 ?_
        refine lv_iload_n hx hb dX1_hasFeudBeside_21 rfl (lv_at hl 1 rfl) ?_
        obtain ⟨hi_6, hM⟩ := chkI_at hM
        refine va_iald hx hb hK hP 9 0 rfl rfl hi_6 dX1_hasFeudBeside_22 ?_
        refine lv_aload_n hx hb dX1_hasFeudBeside_23 rfl (lv_at hl 0 rfl) ?_
        refine va_get hx hb hts hi1 hown hK hP 0 rfl rfl 0 (by decide) (hts (.fieldLink RX1 21 "NightPlots$Standing" "told" "LNightPlots$Told;") (List.mem_of_getElem? (i := 1) rfl)) (fun _ h9 => h9) rfl dX1_hasFeudBeside_24 ?_
        refine va_get hx hb hts hi3 hown hK hP 3 rfl rfl 12 (by decide) (hts (.fieldLink RX1 156 "NightPlots$Told" "feudOther" "[I") (List.mem_of_getElem? (i := 4) rfl)) (fun _ h9 => h9) rfl dX1_hasFeudBeside_27 ?_
        refine lv_iload_n hx hb dX1_hasFeudBeside_30 rfl (lv_at hl 1 rfl) ?_
        obtain ⟨hi_7, hM⟩ := chkI_at hM
        refine va_iald hx hb hK hP 10 0 rfl rfl hi_7 dX1_hasFeudBeside_31 ?_
        obtain ⟨r8, hc9, hM⟩ := bnd1_at hM
        refine co_i (va_runV (As := [.int (tT 6 x3.toNatClampNeg), .int (tT 7 x3.toNatClampNeg)]) (rest := []) ⟨hx, hb, hml, hown, hts⟩ (ctX1_areBeside l D Y aS hT vS H.size gS tT (tT 6 x3.toNatClampNeg) (tT 7 x3.toNatClampNeg) r8 hc9) (cwV 2 hts gX1_hasFeudBeside_X1_areBeside rfl rfl rfl (by decide +kernel) ⟨Nat.le_of_ble_eq_true rfl, Nat.le_of_ble_eq_true rfl⟩) (pcW_V0 (ci := 1) (q0 := 0) hK hP (hD.same rfl) rfl rfl) rfl rfl hl.1 rfl (lv_room (Nat.le_of_ble_eq_true rfl)) dX1_hasFeudBeside_32 ⟨Nat.zero_le _, Nat.zero_le _⟩) (hD.same rfl) hS hA (fun H locs hP hS => ?_)
        refine lv_if_eq (tgt := 40) hx hb dX1_hasFeudBeside_35 (by decide) (fun c10 => ?_) (fun c10 => ?_)
        · replace hM := if_at_pos hM c10
          obtain ⟨x11, ex11⟩ : ∃ z : Int32, z = (x3 + 1) := ⟨_, rfl⟩
          replace hM := nm_at hM ex11
          refine lv_iinc (v := x11) (lv' := [(1, .int x11), (0, .ref (aS 0))]) hx hb dX1_hasFeudBeside_40 hl (k := 1) rfl (by rw [ex11]; rfl) (by decide) rfl (fun ls hl => ?_)
          refine lv_goto (tgt := 2) hx hb dX1_hasFeudBeside_43 (by decide) ?_
          exact ih4 x11 hM H locs ls hP hS (lv_sub hl [1, 0] rfl)
        · replace hM := if_at_neg hM c10
          exact hJ2 hM H locs ls hP hS (lv_sub hl [] rfl)
noncomputable def BX1_placesKey_4 (tT : GS) (k2 : Int64 → Option (Int64)) (gS : GS) (rec5 : Int64 → Int32 → Option (Int64)) (y3 : Int64) (x4 : Int32) : Option (Int64) := if (tT 0 1) ≤ x4 then (k2 y3) else (chkI x4 8 (nm ((y3 <<< ((4 : Int32).toInt64 &&& 63)) ||| ((gS 1 x4.toNatClampNeg).toInt64)) fun (y8 : Int64) => nm (x4 + 1) fun (x9 : Int32) => rec5 y8 x9))
noncomputable def MX1_placesKey (gS : GS) (tT : GS) : Option (Int64) := jn1 (fun (y1 : Int64) => some (y1)) (fun k2 => lq2 (BX1_placesKey_4 tT k2 gS) FU (0 : Int64) (0 : Int32))
abbrev rmX1_placesKey : Room := { frames := 1, cells := 0, slots := 0, locals := 40 }
set_option maxHeartbeats 4000000 in
set_option maxRecDepth 100000 in
theorem ctX1_placesKey (l : Launch) (D : va_G) (Y : Nat → ClassId) (aS : Nat → Nat) (hT : Nat → Nat) (vS : Nat) (sz : Nat) (gS : GS) (tT : GS) (rr : Int64) (hM : MX1_placesKey gS tT = some (rr)) : Met l yX1_placesKey wsX1_placesKey rmX1_placesKey (pcW [.ref (aS 0)] sz D Y (cStand Y aS (hT 0) vS gS ++ cTold Y hT tT)) (qlW rr D (cStand Y aS (hT 0) vS gS ++ cTold Y hT tT) (va_A (cStand Y aS (hT 0) vS gS ++ cTold Y hT tT) sz)) 0 0 (va_A (cStand Y aS (hT 0) vS gS ++ cTold Y hT tT) sz) := by
  refine Met.ofW (cc := cX1_placesKey) (maxL := 4) (ret := (some .long)) (by decide) rfl ?_
  intro p e s m args below meth c s₁ B hml hv
  obtain ⟨rfl, hsz, hP, hK, hD0⟩ := hv
  have hx := B.exec
  have hb := B.bytes
  have hr := B.returns
  have hts := atoms_spec (ws := wsX1_placesKey) B.pre
  have hown : s.vm.findClass RX1 = some m.cls := findClass_of_methodNamed B.named
  have hlocks := B.notSynchronized
  subst hsz
  have hD := hD0.self (sz := s.heap.size)
  generalize hAe : va_A (cStand Y aS (hT 0) vS gS ++ cTold Y hT tT) s.heap.size = A at hD ⊢
  have hA : ∀ q : Nat, s.heap.size ≤ q → A q := fun q h => by rw [← hAe]; exact Or.inr h
  have hS : va_S A s.heap s.heap [] := va_S.rf
  have hi1 : ∀ w ∈ wsX10, w ∈ wsX1_placesKey := fun w h => List.mem_cons_of_mem _ (List.mem_append_left _ (List.mem_append_right _ h))
  have hi3 : ∀ w ∈ wsX30, w ∈ wsX1_placesKey := fun w h => List.mem_cons_of_mem _ (List.mem_append_right _ h)
  have hl := lv_entry ([.ref (aS 0)]) (n := 4) (Nat.le_of_ble_eq_true rfl)
  rw [lg_entry_eq]
  generalize (lg_sl ([.ref (aS 0)]) ++ List.replicate (4 - (lg_sl ([.ref (aS 0)])).length) Slot.unset).toArray = ls at hl ⊢
  have hl : lv_has ls 4 [(0, .ref (aS 0))] := hl
  obtain ⟨QQ, hQQ⟩ : ∃ Q : State → Prop, Q = MQ below (qlW rr D (cStand Y aS (hT 0) vS gS ++ cTold Y hT tT) A) ([.ref (aS 0)] : List Value).toArray s 0 0 A := ⟨_, rfl⟩
  rw [← hQQ]
  unfold MX1_placesKey at hM
  suffices hI : ∀ (H : Heap) (locs : List Loc), va_P D vwCl (cStand Y aS (hT 0) vS gS ++ cTold Y hT tT) H → va_S A s.heap H locs → W p l e (headSpec wsX1_placesKey rmX1_placesKey).room s m ([.ref (aS 0)] : List Value).toArray below meth c H locs 0 0 QQ (F0 m 0 ls []) from hI _ _ hP hS
  clear hP hS
  intro H locs hP hS
  refine lv_lconst (v := (0 : Int64)) hx hb dX1_placesKey_0 (by decide) ?_
  refine lv_lstore_n (lv' := [(1, .long (0 : Int64)), (0, .ref (aS 0))]) hx hb dX1_placesKey_1 rfl hl (by decide) rfl (fun ls hl => ?_)
  refine lv_iconst (v := (0 : Int32)) hx hb dX1_placesKey_2 (by decide) ?_
  refine lv_istore_n (lv' := [(3, .int (0 : Int32)), (1, .long (0 : Int64)), (0, .ref (aS 0))]) hx hb dX1_placesKey_3 rfl hl (by decide) rfl (fun ls hl => ?_)
  refine jn1_at (fun (y1 : Int64) => ∀ (H : Heap) (locs : List Loc) (ls : Array Slot), va_P D vwCl (cStand Y aS (hT 0) vS gS ++ cTold Y hT tT) H → va_S A s.heap H locs → lv_has ls 4 [(1, .long y1)] → W p l e (headSpec wsX1_placesKey rmX1_placesKey).room s m ([.ref (aS 0)] : List Value).toArray below meth c H locs 0 0 QQ (F0 m 33 ls [])) hM (fun y1 hM H locs ls hP hS hl => ?_) (fun k2 hJ2 hM => ?_)
  · refine lv_lload_n hx hb dX1_placesKey_33 rfl (lv_at hl 0 rfl) ?_
    cases hM
    rw [hQQ]
    exact W.lret hx hb hr (fun t ht hW => ⟨⟨_, (), rfl, rfl, by show va_P D vwCl _ t.heap; rw [ht]; exact hP⟩, hS.F ht⟩) hS.2.2 dX1_placesKey_34
  · refine lq2_at (fun (y3 : Int64) (x4 : Int32) => ∀ (H : Heap) (locs : List Loc) (ls : Array Slot), va_P D vwCl (cStand Y aS (hT 0) vS gS ++ cTold Y hT tT) H → va_S A s.heap H locs → lv_has ls 4 [(0, .ref (aS 0)), (1, .long y3), (3, .int x4)] → W p l e (headSpec wsX1_placesKey rmX1_placesKey).room s m ([.ref (aS 0)] : List Value).toArray below meth c H locs 0 0 QQ (F0 m 4 ls [])) (fun rec5 y3 x4 ih5 hM H locs ls hP hS hl => ?_) FU (0 : Int64) (0 : Int32) hM H locs ls hP hS (lv_sub hl [2, 1, 0] rfl)
    unfold BX1_placesKey_4 at hM
    refine lv_iload_n hx hb dX1_placesKey_4 rfl (lv_at hl 2 rfl) ?_
    refine lv_aload_n hx hb dX1_placesKey_5 rfl (lv_at hl 0 rfl) ?_
    refine va_get hx hb hts hi1 hown hK hP 0 rfl rfl 0 (by decide) (hts (.fieldLink RX1 21 "NightPlots$Standing" "told" "LNightPlots$Told;") (List.mem_of_getElem? (i := 1) rfl)) (fun _ h9 => h9) rfl dX1_placesKey_6 ?_
    refine va_get hx hb hts hi3 hown hK hP 3 rfl rfl 1 (by decide) (hts (.fieldLink RX1 73 "NightPlots$Told" "houses" "I") (List.mem_of_getElem? (i := 2) rfl)) (fun _ h9 => h9) rfl dX1_placesKey_9 ?_
    refine lv_icmp_ge (tgt := 33) hx hb dX1_placesKey_12 (by decide) (fun c6 => ?_) (fun c6 => ?_)
    · replace hM := if_at_pos hM c6
      exact hJ2 y3 hM H locs ls hP hS (lv_sub hl [1] rfl)
    · replace hM := if_at_neg hM c6
      refine lv_lload_n hx hb dX1_placesKey_15 rfl (lv_at hl 1 rfl) ?_
      refine lv_iconst (v := (4 : Int32)) hx hb dX1_placesKey_16 (by decide) ?_
      refine lv_lshl (v := (y3 <<< ((4 : Int32).toInt64 &&& 63))) hx hb dX1_placesKey_17 rfl ?_
      refine lv_aload_n hx hb dX1_placesKey_18 rfl (lv_at hl 0 rfl) ?_
      refine va_get hx hb hts hi1 hown hK hP 0 rfl rfl 1 (by decide) (hts (.fieldLink RX1 9 "NightPlots$Standing" "place" "[I") (List.mem_of_getElem? (i := 3) rfl)) (fun _ h9 => h9) rfl dX1_placesKey_19 ?_
      refine lv_iload_n hx hb dX1_placesKey_22 rfl (lv_at hl 2 rfl) ?_
      obtain ⟨hi_7, hM⟩ := chkI_at hM
      refine va_iald hx hb hK hP 1 0 rfl rfl hi_7 dX1_placesKey_23 ?_
      refine lv_i2l (v := (gS 1 x4.toNatClampNeg).toInt64) hx hb dX1_placesKey_24 rfl ?_
      refine lv_lor hx hb dX1_placesKey_25 ?_
      refine lv_topl (fun y8 ey8 => ?_)
      replace hM := nm_at hM ey8
      refine lv_lstore_n (lv' := [(1, .long y8), (0, .ref (aS 0)), (3, .int x4)]) hx hb dX1_placesKey_26 rfl hl (by decide) rfl (fun ls hl => ?_)
      obtain ⟨x9, ex9⟩ : ∃ z : Int32, z = (x4 + 1) := ⟨_, rfl⟩
      replace hM := nm_at hM ex9
      refine lv_iinc (v := x9) (lv' := [(3, .int x9), (1, .long y8), (0, .ref (aS 0))]) hx hb dX1_placesKey_27 hl (k := 2) rfl (by rw [ex9]; rfl) (by decide) rfl (fun ls hl => ?_)
      refine lv_goto (tgt := 4) hx hb dX1_placesKey_30 (by decide) ?_
      exact ih5 y8 x9 hM H locs ls hP hS (lv_sub hl [2, 1, 0] rfl)
noncomputable def BX1_restRank_4 (tT : GS) (k2 : Int32 → Option (Int32)) (i1 : Int32) (gS : GS) (rec5 : Int32 → Int32 → Option (Int32)) (x3 : Int32) (x4 : Int32) : Option (Int32) := if (tT 0 1) ≤ x4 then (k2 x3) else (chkI x4 8 (chkI i1 8 (jn1 (fun (x9 : Int32) => nm (x4 + 1) fun (x11 : Int32) => rec5 x9 x11) (fun k10 => if (gS 2 i1.toNatClampNeg) ≤ (gS 2 x4.toNatClampNeg) then (k10 x3) else (nm (x3 + 1) fun (x13 : Int32) => k10 x13)))))
noncomputable def MX1_restRank (gS : GS) (tT : GS) (i1 : Int32) : Option (Int32) := jn1 (fun (x1 : Int32) => some (x1)) (fun k2 => lq2 (BX1_restRank_4 tT k2 i1 gS) FU (0 : Int32) (0 : Int32))
abbrev rmX1_restRank : Room := { frames := 1, cells := 0, slots := 0, locals := 40 }
set_option maxHeartbeats 4000000 in
set_option maxRecDepth 100000 in
theorem ctX1_restRank (l : Launch) (D : va_G) (Y : Nat → ClassId) (aS : Nat → Nat) (hT : Nat → Nat) (vS : Nat) (sz : Nat) (gS : GS) (tT : GS) (i1 : Int32) (rr : Int32) (hM : MX1_restRank gS tT i1 = some (rr)) : Met l yX1_restRank wsX1_restRank rmX1_restRank (pcW [.ref (aS 0), .int i1] sz D Y (cStand Y aS (hT 0) vS gS ++ cTold Y hT tT)) (qiW rr D (cStand Y aS (hT 0) vS gS ++ cTold Y hT tT) (va_A (cStand Y aS (hT 0) vS gS ++ cTold Y hT tT) sz)) 0 0 (va_A (cStand Y aS (hT 0) vS gS ++ cTold Y hT tT) sz) := by
  refine Met.ofW (cc := cX1_restRank) (maxL := 4) (ret := (some .int)) (by decide) rfl ?_
  intro p e s m args below meth c s₁ B hml hv
  obtain ⟨rfl, hsz, hP, hK, hD0⟩ := hv
  have hx := B.exec
  have hb := B.bytes
  have hr := B.returns
  have hts := atoms_spec (ws := wsX1_restRank) B.pre
  have hown : s.vm.findClass RX1 = some m.cls := findClass_of_methodNamed B.named
  have hlocks := B.notSynchronized
  subst hsz
  have hD := hD0.self (sz := s.heap.size)
  generalize hAe : va_A (cStand Y aS (hT 0) vS gS ++ cTold Y hT tT) s.heap.size = A at hD ⊢
  have hA : ∀ q : Nat, s.heap.size ≤ q → A q := fun q h => by rw [← hAe]; exact Or.inr h
  have hS : va_S A s.heap s.heap [] := va_S.rf
  have hi1 : ∀ w ∈ wsX10, w ∈ wsX1_restRank := fun w h => List.mem_cons_of_mem _ (List.mem_append_left _ (List.mem_append_right _ h))
  have hi3 : ∀ w ∈ wsX30, w ∈ wsX1_restRank := fun w h => List.mem_cons_of_mem _ (List.mem_append_right _ h)
  have hl := lv_entry ([.ref (aS 0), .int i1]) (n := 4) (Nat.le_of_ble_eq_true rfl)
  rw [lg_entry_eq]
  generalize (lg_sl ([.ref (aS 0), .int i1]) ++ List.replicate (4 - (lg_sl ([.ref (aS 0), .int i1])).length) Slot.unset).toArray = ls at hl ⊢
  have hl : lv_has ls 4 [(0, .ref (aS 0)), (1, .int i1)] := hl
  obtain ⟨QQ, hQQ⟩ : ∃ Q : State → Prop, Q = MQ below (qiW rr D (cStand Y aS (hT 0) vS gS ++ cTold Y hT tT) A) ([.ref (aS 0), .int i1] : List Value).toArray s 0 0 A := ⟨_, rfl⟩
  rw [← hQQ]
  unfold MX1_restRank at hM
  suffices hI : ∀ (H : Heap) (locs : List Loc), va_P D vwCl (cStand Y aS (hT 0) vS gS ++ cTold Y hT tT) H → va_S A s.heap H locs → W p l e (headSpec wsX1_restRank rmX1_restRank).room s m ([.ref (aS 0), .int i1] : List Value).toArray below meth c H locs 0 0 QQ (F0 m 0 ls []) from hI _ _ hP hS
  clear hP hS
  intro H locs hP hS
  refine lv_iconst (v := (0 : Int32)) hx hb dX1_restRank_0 (by decide) ?_
  refine lv_istore_n (lv' := [(2, .int (0 : Int32)), (0, .ref (aS 0)), (1, .int i1)]) hx hb dX1_restRank_1 rfl hl (by decide) rfl (fun ls hl => ?_)
  refine lv_iconst (v := (0 : Int32)) hx hb dX1_restRank_2 (by decide) ?_
  refine lv_istore_n (lv' := [(3, .int (0 : Int32)), (2, .int (0 : Int32)), (0, .ref (aS 0)), (1, .int i1)]) hx hb dX1_restRank_3 rfl hl (by decide) rfl (fun ls hl => ?_)
  refine jn1_at (fun (x1 : Int32) => ∀ (H : Heap) (locs : List Loc) (ls : Array Slot), va_P D vwCl (cStand Y aS (hT 0) vS gS ++ cTold Y hT tT) H → va_S A s.heap H locs → lv_has ls 4 [(2, .int x1)] → W p l e (headSpec wsX1_restRank rmX1_restRank).room s m ([.ref (aS 0), .int i1] : List Value).toArray below meth c H locs 0 0 QQ (F0 m 39 ls [])) hM (fun x1 hM H locs ls hP hS hl => ?_) (fun k2 hJ2 hM => ?_)
  · refine lv_iload_n hx hb dX1_restRank_39 rfl (lv_at hl 0 rfl) ?_
    cases hM
    rw [hQQ]
    exact W.iret hx hb hr (fun t ht hW => ⟨⟨_, (), rfl, rfl, by show va_P D vwCl _ t.heap; rw [ht]; exact hP⟩, hS.F ht⟩) hS.2.2 dX1_restRank_40
  · refine lq2_at (fun (x3 : Int32) (x4 : Int32) => ∀ (H : Heap) (locs : List Loc) (ls : Array Slot), va_P D vwCl (cStand Y aS (hT 0) vS gS ++ cTold Y hT tT) H → va_S A s.heap H locs → lv_has ls 4 [(0, .ref (aS 0)), (1, .int i1), (2, .int x3), (3, .int x4)] → W p l e (headSpec wsX1_restRank rmX1_restRank).room s m ([.ref (aS 0), .int i1] : List Value).toArray below meth c H locs 0 0 QQ (F0 m 4 ls [])) (fun rec5 x3 x4 ih5 hM H locs ls hP hS hl => ?_) FU (0 : Int32) (0 : Int32) hM H locs ls hP hS (lv_sub hl [2, 3, 1, 0] rfl)
    unfold BX1_restRank_4 at hM
    refine lv_iload_n hx hb dX1_restRank_4 rfl (lv_at hl 3 rfl) ?_
    refine lv_aload_n hx hb dX1_restRank_5 rfl (lv_at hl 0 rfl) ?_
    refine va_get hx hb hts hi1 hown hK hP 0 rfl rfl 0 (by decide) (hts (.fieldLink RX1 21 "NightPlots$Standing" "told" "LNightPlots$Told;") (List.mem_of_getElem? (i := 1) rfl)) (fun _ h9 => h9) rfl dX1_restRank_6 ?_
    refine va_get hx hb hts hi3 hown hK hP 3 rfl rfl 1 (by decide) (hts (.fieldLink RX1 73 "NightPlots$Told" "houses" "I") (List.mem_of_getElem? (i := 2) rfl)) (fun _ h9 => h9) rfl dX1_restRank_9 ?_
    refine lv_icmp_ge (tgt := 39) hx hb dX1_restRank_12 (by decide) (fun c6 => ?_) (fun c6 => ?_)
    · replace hM := if_at_pos hM c6
      exact hJ2 x3 hM H locs ls hP hS (lv_sub hl [2] rfl)
    · replace hM := if_at_neg hM c6
      refine lv_aload_n hx hb dX1_restRank_15 rfl (lv_at hl 0 rfl) ?_
      refine va_get hx hb hts hi1 hown hK hP 0 rfl rfl 2 (by decide) (hts (.fieldLink RX1 15 "NightPlots$Standing" "rolled" "[I") (List.mem_of_getElem? (i := 3) rfl)) (fun _ h9 => h9) rfl dX1_restRank_16 ?_
      refine lv_iload_n hx hb dX1_restRank_19 rfl (lv_at hl 3 rfl) ?_
      obtain ⟨hi_7, hM⟩ := chkI_at hM
      refine va_iald hx hb hK hP 2 0 rfl rfl hi_7 dX1_restRank_20 ?_
      refine lv_aload_n hx hb dX1_restRank_21 rfl (lv_at hl 0 rfl) ?_
      refine va_get hx hb hts hi1 hown hK hP 0 rfl rfl 2 (by decide) (hts (.fieldLink RX1 15 "NightPlots$Standing" "rolled" "[I") (List.mem_of_getElem? (i := 3) rfl)) (fun _ h9 => h9) rfl dX1_restRank_22 ?_
      refine lv_iload_n hx hb dX1_restRank_25 rfl (lv_at hl 1 rfl) ?_
      obtain ⟨hi_8, hM⟩ := chkI_at hM
      refine va_iald hx hb hK hP 2 0 rfl rfl hi_8 dX1_restRank_26 ?_
      refine jn1_at (fun (x9 : Int32) => ∀ (H : Heap) (locs : List Loc) (ls : Array Slot), va_P D vwCl (cStand Y aS (hT 0) vS gS ++ cTold Y hT tT) H → va_S A s.heap H locs → lv_has ls 4 [(0, .ref (aS 0)), (1, .int i1), (2, .int x9), (3, .int x4)] → W p l e (headSpec wsX1_restRank rmX1_restRank).room s m ([.ref (aS 0), .int i1] : List Value).toArray below meth c H locs 0 0 QQ (F0 m 33 ls [])) hM (fun x9 hM H locs ls hP hS hl => ?_) (fun k10 hJ10 hM => ?_)
      · obtain ⟨x11, ex11⟩ : ∃ z : Int32, z = (x4 + 1) := ⟨_, rfl⟩
        replace hM := nm_at hM ex11
        refine lv_iinc (v := x11) (lv' := [(3, .int x11), (0, .ref (aS 0)), (1, .int i1), (2, .int x9)]) hx hb dX1_restRank_33 hl (k := 3) rfl (by rw [ex11]; rfl) (by decide) rfl (fun ls hl => ?_)
        refine lv_goto (tgt := 4) hx hb dX1_restRank_36 (by decide) ?_
        exact ih5 x9 x11 hM H locs ls hP hS (lv_sub hl [1, 2, 3, 0] rfl)
      · refine lv_icmp_ge (tgt := 33) hx hb dX1_restRank_27 (by decide) (fun c12 => ?_) (fun c12 => ?_)
        · replace hM := if_at_pos hM c12
          exact hJ10 x3 hM H locs ls hP hS (lv_sub hl [0, 1, 2, 3] rfl)
        · replace hM := if_at_neg hM c12
          obtain ⟨x13, ex13⟩ : ∃ z : Int32, z = (x3 + 1) := ⟨_, rfl⟩
          replace hM := nm_at hM ex13
          refine lv_iinc (v := x13) (lv' := [(2, .int x13), (0, .ref (aS 0)), (1, .int i1), (3, .int x4)]) hx hb dX1_restRank_30 hl (k := 2) rfl (by rw [ex13]; rfl) (by decide) rfl (fun ls hl => ?_)
          exact hJ10 x13 hM H locs ls hP hS (lv_sub hl [1, 2, 0, 3] rfl)
noncomputable def BX1_restKey_5 (tT : GS) (k2 : Int64 → Option (Int64)) (gS : GS) (rec5 : Int64 → Int32 → Option (Int64)) (y3 : Int64) (x4 : Int32) : Option (Int64) := if (tT 0 1) ≤ x4 then (k2 y3) else (bnd1 (MX1_restRank gS tT x4) fun (r7 : Int32) => nm ((y3 <<< ((3 : Int32).toInt64 &&& 63)) ||| (r7.toInt64)) fun (y9 : Int64) => nm (x4 + 1) fun (x10 : Int32) => rec5 y9 x10)
noncomputable def MX1_restKey (gS : GS) (tT : GS) (i1 : Int64) : Option (Int64) := jn1 (fun (y1 : Int64) => some (y1)) (fun k2 => lq2 (BX1_restKey_5 tT k2 gS) FU i1 (0 : Int32))
abbrev rmX1_restKey : Room := { frames := 2, cells := 0, slots := 0, locals := 80 }
set_option maxHeartbeats 4000000 in
set_option maxRecDepth 100000 in
theorem ctX1_restKey (l : Launch) (D : va_G) (Y : Nat → ClassId) (aS : Nat → Nat) (hT : Nat → Nat) (vS : Nat) (sz : Nat) (gS : GS) (tT : GS) (i1 : Int64) (rr : Int64) (hM : MX1_restKey gS tT i1 = some (rr)) : Met l yX1_restKey wsX1_restKey rmX1_restKey (pcW [.ref (aS 0), .long i1] sz D Y (cStand Y aS (hT 0) vS gS ++ cTold Y hT tT)) (qlW rr D (cStand Y aS (hT 0) vS gS ++ cTold Y hT tT) (va_A (cStand Y aS (hT 0) vS gS ++ cTold Y hT tT) sz)) 0 0 (va_A (cStand Y aS (hT 0) vS gS ++ cTold Y hT tT) sz) := by
  refine Met.ofW (cc := cX1_restKey) (maxL := 6) (ret := (some .long)) (by decide) rfl ?_
  intro p e s m args below meth c s₁ B hml hv
  obtain ⟨rfl, hsz, hP, hK, hD0⟩ := hv
  have hx := B.exec
  have hb := B.bytes
  have hr := B.returns
  have hts := atoms_spec (ws := wsX1_restKey) B.pre
  have hown : s.vm.findClass RX1 = some m.cls := findClass_of_methodNamed B.named
  have hlocks := B.notSynchronized
  subst hsz
  have hD := hD0.self (sz := s.heap.size)
  generalize hAe : va_A (cStand Y aS (hT 0) vS gS ++ cTold Y hT tT) s.heap.size = A at hD ⊢
  have hA : ∀ q : Nat, s.heap.size ≤ q → A q := fun q h => by rw [← hAe]; exact Or.inr h
  have hS : va_S A s.heap s.heap [] := va_S.rf
  have hi1 : ∀ w ∈ wsX10, w ∈ wsX1_restKey := fun w h => List.mem_cons_of_mem _ (List.mem_append_left _ (List.mem_append_right _ h))
  have hi3 : ∀ w ∈ wsX30, w ∈ wsX1_restKey := fun w h => List.mem_cons_of_mem _ (List.mem_append_right _ h)
  have hl := lv_entry ([.ref (aS 0), .long i1]) (n := 6) (Nat.le_of_ble_eq_true rfl)
  rw [lg_entry_eq]
  generalize (lg_sl ([.ref (aS 0), .long i1]) ++ List.replicate (6 - (lg_sl ([.ref (aS 0), .long i1])).length) Slot.unset).toArray = ls at hl ⊢
  have hl : lv_has ls 6 [(0, .ref (aS 0)), (1, .long i1)] := hl
  obtain ⟨QQ, hQQ⟩ : ∃ Q : State → Prop, Q = MQ below (qlW rr D (cStand Y aS (hT 0) vS gS ++ cTold Y hT tT) A) ([.ref (aS 0), .long i1] : List Value).toArray s 0 0 A := ⟨_, rfl⟩
  rw [← hQQ]
  unfold MX1_restKey at hM
  suffices hI : ∀ (H : Heap) (locs : List Loc), va_P D vwCl (cStand Y aS (hT 0) vS gS ++ cTold Y hT tT) H → va_S A s.heap H locs → W p l e (headSpec wsX1_restKey rmX1_restKey).room s m ([.ref (aS 0), .long i1] : List Value).toArray below meth c H locs 0 0 QQ (F0 m 0 ls []) from hI _ _ hP hS
  clear hP hS
  intro H locs hP hS
  refine lv_lload_n hx hb dX1_restKey_0 rfl (lv_at hl 1 rfl) ?_
  refine lv_lstore_n (lv' := [(3, .long i1), (0, .ref (aS 0)), (1, .long i1)]) hx hb dX1_restKey_1 rfl hl (by decide) rfl (fun ls hl => ?_)
  refine lv_iconst (v := (0 : Int32)) hx hb dX1_restKey_2 (by decide) ?_
  refine lv_istore (lv' := [(5, .int (0 : Int32)), (3, .long i1), (0, .ref (aS 0)), (1, .long i1)]) hx hb dX1_restKey_3 hl (by decide) rfl (fun ls hl => ?_)
  refine jn1_at (fun (y1 : Int64) => ∀ (H : Heap) (locs : List Loc) (ls : Array Slot), va_P D vwCl (cStand Y aS (hT 0) vS gS ++ cTold Y hT tT) H → va_S A s.heap H locs → lv_has ls 6 [(3, .long y1)] → W p l e (headSpec wsX1_restKey rmX1_restKey).room s m ([.ref (aS 0), .long i1] : List Value).toArray below meth c H locs 0 0 QQ (F0 m 35 ls [])) hM (fun y1 hM H locs ls hP hS hl => ?_) (fun k2 hJ2 hM => ?_)
  · refine lv_lload_n hx hb dX1_restKey_35 rfl (lv_at hl 0 rfl) ?_
    cases hM
    rw [hQQ]
    exact W.lret hx hb hr (fun t ht hW => ⟨⟨_, (), rfl, rfl, by show va_P D vwCl _ t.heap; rw [ht]; exact hP⟩, hS.F ht⟩) hS.2.2 dX1_restKey_36
  · refine lq2_at (fun (y3 : Int64) (x4 : Int32) => ∀ (H : Heap) (locs : List Loc) (ls : Array Slot), va_P D vwCl (cStand Y aS (hT 0) vS gS ++ cTold Y hT tT) H → va_S A s.heap H locs → lv_has ls 6 [(0, .ref (aS 0)), (3, .long y3), (5, .int x4)] → W p l e (headSpec wsX1_restKey rmX1_restKey).room s m ([.ref (aS 0), .long i1] : List Value).toArray below meth c H locs 0 0 QQ (F0 m 5 ls [])) (fun rec5 y3 x4 ih5 hM H locs ls hP hS hl => ?_) FU i1 (0 : Int32) hM H locs ls hP hS (lv_sub hl [2, 1, 0] rfl)
    unfold BX1_restKey_5 at hM
    refine lv_iload hx hb dX1_restKey_5 (lv_at hl 2 rfl) ?_
    refine lv_aload_n hx hb dX1_restKey_7 rfl (lv_at hl 0 rfl) ?_
    refine va_get hx hb hts hi1 hown hK hP 0 rfl rfl 0 (by decide) (hts (.fieldLink RX1 21 "NightPlots$Standing" "told" "LNightPlots$Told;") (List.mem_of_getElem? (i := 1) rfl)) (fun _ h9 => h9) rfl dX1_restKey_8 ?_
    refine va_get hx hb hts hi3 hown hK hP 3 rfl rfl 1 (by decide) (hts (.fieldLink RX1 73 "NightPlots$Told" "houses" "I") (List.mem_of_getElem? (i := 2) rfl)) (fun _ h9 => h9) rfl dX1_restKey_11 ?_
    refine lv_icmp_ge (tgt := 35) hx hb dX1_restKey_14 (by decide) (fun c6 => ?_) (fun c6 => ?_)
    · replace hM := if_at_pos hM c6
      exact hJ2 y3 hM H locs ls hP hS (lv_sub hl [1] rfl)
    · replace hM := if_at_neg hM c6
      refine lv_lload_n hx hb dX1_restKey_17 rfl (lv_at hl 1 rfl) ?_
      refine lv_iconst (v := (3 : Int32)) hx hb dX1_restKey_18 (by decide) ?_
      refine lv_lshl (v := (y3 <<< ((3 : Int32).toInt64 &&& 63))) hx hb dX1_restKey_19 rfl ?_
      refine lv_aload_n hx hb dX1_restKey_20 rfl (lv_at hl 0 rfl) ?_
      refine lv_iload hx hb dX1_restKey_21 (lv_at hl 2 rfl) ?_
      obtain ⟨r7, hc8, hM⟩ := bnd1_at hM
      refine co_i (va_runV (As := [.int x4]) (rest := [.long (y3 <<< ((3 : Int32).toInt64 &&& 63))]) ⟨hx, hb, hml, hown, hts⟩ (ctX1_restRank l D Y aS hT vS H.size gS tT x4 r7 hc8) (cwV 1 hts gX1_restKey_X1_restRank rfl rfl rfl (by decide +kernel) ⟨Nat.le_of_ble_eq_true rfl, Nat.le_of_ble_eq_true rfl⟩) (pcW_V0 (ci := 1) (q0 := 0) hK hP (hD.same rfl) rfl rfl) rfl rfl hl.1 rfl (lv_room (Nat.le_of_ble_eq_true rfl)) dX1_restKey_23 ⟨Nat.zero_le _, Nat.zero_le _⟩) (hD.same rfl) hS hA (fun H locs hP hS => ?_)
      refine lv_i2l (v := r7.toInt64) hx hb dX1_restKey_26 rfl ?_
      refine lv_lor hx hb dX1_restKey_27 ?_
      refine lv_topl (fun y9 ey9 => ?_)
      replace hM := nm_at hM ey9
      refine lv_lstore_n (lv' := [(3, .long y9), (0, .ref (aS 0)), (5, .int x4)]) hx hb dX1_restKey_28 rfl hl (by decide) rfl (fun ls hl => ?_)
      obtain ⟨x10, ex10⟩ : ∃ z : Int32, z = (x4 + 1) := ⟨_, rfl⟩
      replace hM := nm_at hM ex10
      refine lv_iinc (v := x10) (lv' := [(5, .int x10), (3, .long y9), (0, .ref (aS 0))]) hx hb dX1_restKey_29 hl (k := 2) rfl (by rw [ex10]; rfl) (by decide) rfl (fun ls hl => ?_)
      refine lv_goto (tgt := 5) hx hb dX1_restKey_32 (by decide) ?_
      exact ih5 y9 x10 hM H locs ls hP hS (lv_sub hl [2, 1, 0] rfl)
noncomputable def MX1_stateKey (gS : GS) (tT : GS) (i1 : Int32) : Option (Int64) := bnd1 (MX1_placesKey gS tT) fun (r1 : Int64) => if i1 = (1 : Int32) then (some (((r1 <<< ((3 : Int32).toInt64 &&& 63)) ||| ((gS 0 6).toInt64)))) else (if i1 = (2 : Int32) then (bnd1 (MX1_restKey gS tT r1) fun (r4 : Int64) => some (r4)) else (if i1 = (3 : Int32) then (some (((r1 <<< ((16 : Int32).toInt64 &&& 63)) ||| ((gS 0 7).toInt64)))) else (some (r1))))
abbrev rmX1_stateKey : Room := { frames := 3, cells := 0, slots := 0, locals := 120 }
set_option maxHeartbeats 4000000 in
set_option maxRecDepth 100000 in
theorem ctX1_stateKey (l : Launch) (D : va_G) (Y : Nat → ClassId) (aS : Nat → Nat) (hT : Nat → Nat) (vS : Nat) (sz : Nat) (gS : GS) (tT : GS) (i1 : Int32) (rr : Int64) (hM : MX1_stateKey gS tT i1 = some (rr)) : Met l yX1_stateKey wsX1_stateKey rmX1_stateKey (pcW [.ref (aS 0), .int i1] sz D Y (cStand Y aS (hT 0) vS gS ++ cTold Y hT tT)) (qlW rr D (cStand Y aS (hT 0) vS gS ++ cTold Y hT tT) (va_A (cStand Y aS (hT 0) vS gS ++ cTold Y hT tT) sz)) 0 0 (va_A (cStand Y aS (hT 0) vS gS ++ cTold Y hT tT) sz) := by
  refine Met.ofW (cc := cX1_stateKey) (maxL := 4) (ret := (some .long)) (by decide) rfl ?_
  intro p e s m args below meth c s₁ B hml hv
  obtain ⟨rfl, hsz, hP, hK, hD0⟩ := hv
  have hx := B.exec
  have hb := B.bytes
  have hr := B.returns
  have hts := atoms_spec (ws := wsX1_stateKey) B.pre
  have hown : s.vm.findClass RX1 = some m.cls := findClass_of_methodNamed B.named
  have hlocks := B.notSynchronized
  subst hsz
  have hD := hD0.self (sz := s.heap.size)
  generalize hAe : va_A (cStand Y aS (hT 0) vS gS ++ cTold Y hT tT) s.heap.size = A at hD ⊢
  have hA : ∀ q : Nat, s.heap.size ≤ q → A q := fun q h => by rw [← hAe]; exact Or.inr h
  have hS : va_S A s.heap s.heap [] := va_S.rf
  have hi1 : ∀ w ∈ wsX10, w ∈ wsX1_stateKey := fun w h => List.mem_cons_of_mem _ (List.mem_append_left _ (List.mem_append_right _ h))
  have hl := lv_entry ([.ref (aS 0), .int i1]) (n := 4) (Nat.le_of_ble_eq_true rfl)
  rw [lg_entry_eq]
  generalize (lg_sl ([.ref (aS 0), .int i1]) ++ List.replicate (4 - (lg_sl ([.ref (aS 0), .int i1])).length) Slot.unset).toArray = ls at hl ⊢
  have hl : lv_has ls 4 [(0, .ref (aS 0)), (1, .int i1)] := hl
  obtain ⟨QQ, hQQ⟩ : ∃ Q : State → Prop, Q = MQ below (qlW rr D (cStand Y aS (hT 0) vS gS ++ cTold Y hT tT) A) ([.ref (aS 0), .int i1] : List Value).toArray s 0 0 A := ⟨_, rfl⟩
  rw [← hQQ]
  unfold MX1_stateKey at hM
  suffices hI : ∀ (H : Heap) (locs : List Loc), va_P D vwCl (cStand Y aS (hT 0) vS gS ++ cTold Y hT tT) H → va_S A s.heap H locs → W p l e (headSpec wsX1_stateKey rmX1_stateKey).room s m ([.ref (aS 0), .int i1] : List Value).toArray below meth c H locs 0 0 QQ (F0 m 0 ls []) from hI _ _ hP hS
  clear hP hS
  intro H locs hP hS
  refine lv_aload_n hx hb dX1_stateKey_0 rfl (lv_at hl 0 rfl) ?_
  obtain ⟨r1, hc2, hM⟩ := bnd1_at hM
  refine co_l (va_runV (As := []) (rest := []) ⟨hx, hb, hml, hown, hts⟩ (ctX1_placesKey l D Y aS hT vS H.size gS tT r1 hc2) (cwV 0 hts gX1_stateKey_X1_placesKey rfl rfl rfl (by decide +kernel) ⟨Nat.le_of_ble_eq_true rfl, Nat.le_of_ble_eq_true rfl⟩) (pcW_V0 (ci := 1) (q0 := 0) hK hP (hD.same rfl) rfl rfl) rfl rfl hl.1 rfl (lv_room (Nat.le_of_ble_eq_true rfl)) dX1_stateKey_1 ⟨Nat.zero_le _, Nat.zero_le _⟩) (hD.same rfl) hS hA (fun H locs hP hS => ?_)
  refine lv_lstore_n (lv' := [(2, .long r1), (0, .ref (aS 0)), (1, .int i1)]) hx hb dX1_stateKey_4 rfl hl (by decide) rfl (fun ls hl => ?_)
  refine lv_iload_n hx hb dX1_stateKey_5 rfl (lv_at hl 2 rfl) ?_
  by_cases c3_0 : i1 = (1 : Int32)
  · replace hM := if_at_pos hM c3_0
    refine lv_tableIn (off := 26) (tgt := 32) hx hb dX1_stateKey_6 (by rw [c3_0]; decide) (by rw [c3_0]; decide) (by rw [c3_0]; rfl) (by decide) ?_
    refine lv_lload_n hx hb dX1_stateKey_32 rfl (lv_at hl 0 rfl) ?_
    refine lv_iconst (v := (3 : Int32)) hx hb dX1_stateKey_33 (by decide) ?_
    refine lv_lshl (v := (r1 <<< ((3 : Int32).toInt64 &&& 63))) hx hb dX1_stateKey_34 rfl ?_
    refine lv_aload_n hx hb dX1_stateKey_35 rfl (lv_at hl 1 rfl) ?_
    refine va_get hx hb hts hi1 hown hK hP 0 rfl rfl 6 (by decide) (hts (.fieldLink RX1 54 "NightPlots$Standing" "turn" "I") (List.mem_of_getElem? (i := 1) rfl)) (fun _ h9 => h9) rfl dX1_stateKey_36 ?_
    refine lv_i2l (v := (gS 0 6).toInt64) hx hb dX1_stateKey_39 rfl ?_
    refine lv_lor hx hb dX1_stateKey_40 ?_
    cases hM
    rw [hQQ]
    exact W.lret hx hb hr (fun t ht hW => ⟨⟨_, (), rfl, rfl, by show va_P D vwCl _ t.heap; rw [ht]; exact hP⟩, hS.F ht⟩) hS.2.2 dX1_stateKey_41
  · replace hM := if_at_neg hM c3_0
    by_cases c3_1 : i1 = (2 : Int32)
    · replace hM := if_at_pos hM c3_1
      refine lv_tableIn (off := 36) (tgt := 42) hx hb dX1_stateKey_6 (by rw [c3_1]; decide) (by rw [c3_1]; decide) (by rw [c3_1]; rfl) (by decide) ?_
      refine lv_aload_n hx hb dX1_stateKey_42 rfl (lv_at hl 1 rfl) ?_
      refine lv_lload_n hx hb dX1_stateKey_43 rfl (lv_at hl 0 rfl) ?_
      obtain ⟨r4, hc5, hM⟩ := bnd1_at hM
      refine co_l (va_runV (As := [.long r1]) (rest := []) ⟨hx, hb, hml, hown, hts⟩ (ctX1_restKey l D Y aS hT vS H.size gS tT r1 r4 hc5) (cwV 1 hts gX1_stateKey_X1_restKey rfl rfl rfl (by decide +kernel) ⟨Nat.le_of_ble_eq_true rfl, Nat.le_of_ble_eq_true rfl⟩) (pcW_V0 (ci := 1) (q0 := 0) hK hP (hD.same rfl) rfl rfl) rfl rfl hl.1 rfl (lv_room (Nat.le_of_ble_eq_true rfl)) dX1_stateKey_44 ⟨Nat.zero_le _, Nat.zero_le _⟩) (hD.same rfl) hS hA (fun H locs hP hS => ?_)
      cases hM
      rw [hQQ]
      exact W.lret hx hb hr (fun t ht hW => ⟨⟨_, (), rfl, rfl, by show va_P D vwCl _ t.heap; rw [ht]; exact hP⟩, hS.F ht⟩) hS.2.2 dX1_stateKey_47
    · replace hM := if_at_neg hM c3_1
      by_cases c3_2 : i1 = (3 : Int32)
      · replace hM := if_at_pos hM c3_2
        refine lv_tableIn (off := 42) (tgt := 48) hx hb dX1_stateKey_6 (by rw [c3_2]; decide) (by rw [c3_2]; decide) (by rw [c3_2]; rfl) (by decide) ?_
        refine lv_lload_n hx hb dX1_stateKey_48 rfl (lv_at hl 0 rfl) ?_
        refine lv_bipush (v := (16 : Int32)) hx hb dX1_stateKey_49 (by decide) ?_
        refine lv_lshl (v := (r1 <<< ((16 : Int32).toInt64 &&& 63))) hx hb dX1_stateKey_51 rfl ?_
        refine lv_aload_n hx hb dX1_stateKey_52 rfl (lv_at hl 1 rfl) ?_
        refine va_get hx hb hts hi1 hown hK hP 0 rfl rfl 7 (by decide) (hts (.fieldLink RX1 60 "NightPlots$Standing" "x" "I") (List.mem_of_getElem? (i := 2) rfl)) (fun _ h9 => h9) rfl dX1_stateKey_53 ?_
        refine lv_i2l (v := (gS 0 7).toInt64) hx hb dX1_stateKey_56 rfl ?_
        refine lv_lor hx hb dX1_stateKey_57 ?_
        cases hM
        rw [hQQ]
        exact W.lret hx hb hr (fun t ht hW => ⟨⟨_, (), rfl, rfl, by show va_P D vwCl _ t.heap; rw [ht]; exact hP⟩, hS.F ht⟩) hS.2.2 dX1_stateKey_58
      · replace hM := if_at_neg hM c3_2
        refine lv_tableOut (tgt := 59) hx hb dX1_stateKey_6 (by have n3_0 := lv_neT (a := 1) c3_0 rfl; have n3_1 := lv_neT (a := 2) c3_1 rfl; have n3_2 := lv_neT (a := 3) c3_2 rfl; omega) (by decide) ?_
        refine lv_lload_n hx hb dX1_stateKey_59 rfl (lv_at hl 0 rfl) ?_
        cases hM
        rw [hQQ]
        exact W.lret hx hb hr (fun t ht hW => ⟨⟨_, (), rfl, rfl, by show va_P D vwCl _ t.heap; rw [ht]; exact hP⟩, hS.F ht⟩) hS.2.2 dX1_stateKey_60
