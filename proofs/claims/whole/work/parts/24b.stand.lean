noncomputable def BX1_drawn_63 (tT : GS) (k10 : (Nat → Int32) → Option (Int32 × GS × (Nat → Int32))) (gS_6 : GS) (k14 : Int32 → Int32 → (Nat → Int32) → Option (Int32 × GS × (Nat → Int32))) (rec19 : Int32 → Int32 → (Nat → Int32) → Option (Int32 × GS × (Nat → Int32))) (x16 : Int32) (x17 : Int32) (fW_18 : Nat → Int32) : Option (Int32 × GS × (Nat → Int32)) := if (tT 0 1) ≤ x17 then (k10 fW_18) else (bnd2 (MX1_findWays gS_6 fW_18 tT x17) fun (r21 : Int32) (fR_22 : Nat → Int32) => jn0 (nm (x16 - r21) fun (x25 : Int32) => nm (x17 + 1) fun (x26 : Int32) => rec19 x25 x26 fR_22) (fun k24 => if x16 < 0 then (k24) else (if r21 ≤ x16 then (k24) else (if (8 : Int32) ≤ x16 then (k24) else (k14 x16 x17 fR_22)))))
noncomputable def BX1_drawn_4 (tT : GS) (k3 : Int32 → (Nat → Int32) → Option (Int32 × GS × (Nat → Int32))) (gS : GS) (rec33 : Int32 → Int32 → (Nat → Int32) → Option (Int32 × GS × (Nat → Int32))) (x30 : Int32) (x31 : Int32) (fW_32 : Nat → Int32) : Option (Int32 × GS × (Nat → Int32)) := if (tT 0 1) ≤ x31 then (k3 x30 fW_32) else (bnd2 (MX1_findWays gS fW_32 tT x31) fun (r35 : Int32) (fR_36 : Nat → Int32) => nm (x30 + r35) fun (x38 : Int32) => nm (x31 + 1) fun (x39 : Int32) => rec33 x38 x39 fR_36)
noncomputable def MX1_drawn (gS : GS) (fW : Nat → Int32) (tT : GS) : Option (Int32 × GS × (Nat → Int32)) := jn2 (fun (x1 : Int32) (fW_2 : Nat → Int32) => if 0 < x1 then (nm (((16807 : Int32) * (gS 0 7)) - ((16807 : Int32) * (gS 0 7)) / (65521 : Int32) * (65521 : Int32)) fun (x5 : Int32) => nm (up2 gS 0 7 x5) fun (gS_6 : GS) => chkZ x1 (nm ((gS_6 0 7) - (gS_6 0 7) / x1 * x1) fun (x8 : Int32) => jn1 (fun (fW_9 : Nat → Int32) => some ((-1 : Int32), gS_6, fW_9)) (fun k10 => jn3 (fun (x11 : Int32) (x12 : Int32) (fW_13 : Nat → Int32) => chkI x11 8 (some ((((20 : Int32) * x12) + (fW_13 x11.toNatClampNeg)), gS_6, fW_13))) (fun k14 => lq3 (BX1_drawn_63 tT k10 gS_6 k14) FU x8 (0 : Int32) fW_2)))) else (some ((-1 : Int32), gS, fW_2))) (fun k3 => lq3 (BX1_drawn_4 tT k3 gS) FU (0 : Int32) (0 : Int32) fW)
abbrev rmX1_drawn : Room := { frames := 4, cells := 0, slots := 0, locals := 160 }
set_option maxHeartbeats 4000000 in
set_option maxRecDepth 100000 in
theorem ctX1_drawn (l : Launch) (D : va_G) (Y : Nat → ClassId) (aS : Nat → Nat) (vS : Nat) (hT : Nat → Nat) (sz : Nat) (gS : GS) (fW : Nat → Int32) (tT : GS) (rr : Int32) (gSz : GS) (fWz : Nat → Int32) (hM : MX1_drawn gS fW tT = some (rr, gSz, fWz)) : Met l yX1_drawn wsX1_drawn rmX1_drawn (pcW [.ref (aS 0)] sz D Y (cStand Y aS (hT 0) vS gS ++ cRow Y vS 8 fW ++ cTold Y hT tT)) (qiW rr D (cStand Y aS (hT 0) vS gSz ++ cRow Y vS 8 fWz ++ cTold Y hT tT) (va_A (cStand Y aS (hT 0) vS gS ++ cRow Y vS 8 fW ++ cTold Y hT tT) sz)) 0 0 (va_A (cStand Y aS (hT 0) vS gS ++ cRow Y vS 8 fW ++ cTold Y hT tT) sz) := by
  refine Met.ofW (cc := cX1_drawn) (maxL := 5) (ret := (some .int)) (by decide) rfl ?_
  intro p e s m args below meth c s₁ B hml hv
  obtain ⟨rfl, hsz, hP, hK, hD0⟩ := hv
  have hx := B.exec
  have hb := B.bytes
  have hr := B.returns
  have hts := atoms_spec (ws := wsX1_drawn) B.pre
  have hown : s.vm.findClass RX1 = some m.cls := findClass_of_methodNamed B.named
  have hlocks := B.notSynchronized
  subst hsz
  have hD := hD0.self (sz := s.heap.size)
  generalize hAe : va_A (cStand Y aS (hT 0) vS gS ++ cRow Y vS 8 fW ++ cTold Y hT tT) s.heap.size = A at hD ⊢
  have hA : ∀ q : Nat, s.heap.size ≤ q → A q := fun q h => by rw [← hAe]; exact Or.inr h
  have hS : va_S A s.heap s.heap [] := va_S.rf
  have hi1 : ∀ w ∈ wsX10, w ∈ wsX1_drawn := fun w h => List.mem_cons_of_mem _ (List.mem_append_left _ (List.mem_append_right _ h))
  have hi3 : ∀ w ∈ wsX30, w ∈ wsX1_drawn := fun w h => List.mem_cons_of_mem _ (List.mem_append_right _ h)
  have hl := lv_entry ([.ref (aS 0)]) (n := 5) (Nat.le_of_ble_eq_true rfl)
  rw [lg_entry_eq]
  generalize (lg_sl ([.ref (aS 0)]) ++ List.replicate (5 - (lg_sl ([.ref (aS 0)])).length) Slot.unset).toArray = ls at hl ⊢
  have hl : lv_has ls 5 [(0, .ref (aS 0))] := hl
  obtain ⟨QQ, hQQ⟩ : ∃ Q : State → Prop, Q = MQ below (qiW rr D (cStand Y aS (hT 0) vS gSz ++ cRow Y vS 8 fWz ++ cTold Y hT tT) A) ([.ref (aS 0)] : List Value).toArray s 0 0 A := ⟨_, rfl⟩
  rw [← hQQ]
  unfold MX1_drawn at hM
  suffices hI : ∀ (H : Heap) (locs : List Loc), va_P D vwCl (cStand Y aS (hT 0) vS gS ++ cRow Y vS 8 fW ++ cTold Y hT tT) H → va_S A s.heap H locs → W p l e (headSpec wsX1_drawn rmX1_drawn).room s m ([.ref (aS 0)] : List Value).toArray below meth c H locs 0 0 QQ (F0 m 0 ls []) from hI _ _ hP hS
  clear hP hS
  intro H locs hP hS
  refine lv_iconst (v := (0 : Int32)) hx hb dX1_drawn_0 (by decide) ?_
  refine lv_istore_n (lv' := [(1, .int (0 : Int32)), (0, .ref (aS 0))]) hx hb dX1_drawn_1 rfl hl (by decide) rfl (fun ls hl => ?_)
  refine lv_iconst (v := (0 : Int32)) hx hb dX1_drawn_2 (by decide) ?_
  refine lv_istore_n (lv' := [(2, .int (0 : Int32)), (1, .int (0 : Int32)), (0, .ref (aS 0))]) hx hb dX1_drawn_3 rfl hl (by decide) rfl (fun ls hl => ?_)
  refine jn2_at (fun (x1 : Int32) (fW_2 : Nat → Int32) => ∀ (H : Heap) (locs : List Loc) (ls : Array Slot), va_P D vwCl (cStand Y aS (hT 0) vS gS ++ cRow Y vS 8 fW_2 ++ cTold Y hT tT) H → va_S A s.heap H locs → lv_has ls 5 [(0, .ref (aS 0)), (1, .int x1)] → W p l e (headSpec wsX1_drawn rmX1_drawn).room s m ([.ref (aS 0)] : List Value).toArray below meth c H locs 0 0 QQ (F0 m 33 ls [])) hM (fun x1 fW_2 hM H locs ls hP hS hl => ?_) (fun k3 hJ3 hM => ?_)
  · refine lv_iload_n hx hb dX1_drawn_33 rfl (lv_at hl 1 rfl) ?_
    refine lv_if_gt (tgt := 39) hx hb dX1_drawn_34 (by decide) (fun c4 => ?_) (fun c4 => ?_)
    · replace hM := if_at_pos hM c4
      refine lv_aload_n hx hb dX1_drawn_39 rfl (lv_at hl 0 rfl) ?_
      refine lv_sipush (v := (16807 : Int32)) hx hb dX1_drawn_40 (by decide) ?_
      refine lv_aload_n hx hb dX1_drawn_43 rfl (lv_at hl 0 rfl) ?_
      refine va_get hx hb hts hi1 hown hK hP 0 rfl rfl 7 (by decide) (hts (.fieldLink RX1 57 "NightPlots$Standing" "x" "I") (List.mem_of_getElem? (i := 4) rfl)) (fun _ h9 => h9) rfl dX1_drawn_44 ?_
      refine lv_imul hx hb dX1_drawn_47 ?_
      refine lv_ldc (v := (65521 : Int32)) hx hb hown (hts (.constant RX1 122 (65521)) (List.mem_of_getElem? (i := 5) rfl)) dX1_drawn_48 ?_
      refine lv_irem hx hb dX1_drawn_50 (by decide) ?_
      refine lv_topi (fun x5 ex5 => ?_)
      replace hM := nm_at hM ex5
      refine va_put (ty := .int) hx hb hts hi1 tyX1 tyX1_ok nmX1 hown hK hP (hD.same rfl) hS 0 rfl rfl 7 (by decide) (hts (.fieldLink RX1 57 "NightPlots$Standing" "x" "I") (List.mem_of_getElem? (i := 4) rfl)) (fun _ h9 => h9) rfl (by decide +kernel) rfl rfl (Nat.le_of_ble_eq_true rfl) dX1_drawn_51 (fun H locs hP _ hS => ?_)
      obtain ⟨gS_6, egS_6⟩ : ∃ z : GS, z = (up2 gS 0 7 x5) := ⟨_, rfl⟩
      have hP : va_P D vwCl (cStand Y aS (hT 0) vS gS_6 ++ cRow Y vS 8 fW_2 ++ cTold Y hT tT) H := by rw [egS_6]; exact hP
      replace hM := nm_at hM egS_6
      refine lv_aload_n hx hb dX1_drawn_54 rfl (lv_at hl 0 rfl) ?_
      refine va_get hx hb hts hi1 hown hK hP 0 rfl rfl 7 (by decide) (hts (.fieldLink RX1 57 "NightPlots$Standing" "x" "I") (List.mem_of_getElem? (i := 4) rfl)) (fun _ h9 => h9) rfl dX1_drawn_55 ?_
      refine lv_iload_n hx hb dX1_drawn_58 rfl (lv_at hl 1 rfl) ?_
      obtain ⟨hz7, hM⟩ := chkZ_at hM
      refine lv_irem hx hb dX1_drawn_59 hz7 ?_
      refine lv_topi (fun x8 ex8 => ?_)
      replace hM := nm_at hM ex8
      refine lv_istore_n (lv' := [(2, .int x8), (0, .ref (aS 0)), (1, .int x1)]) hx hb dX1_drawn_60 rfl hl (by decide) rfl (fun ls hl => ?_)
      refine lv_iconst (v := (0 : Int32)) hx hb dX1_drawn_61 (by decide) ?_
      refine lv_istore_n (lv' := [(3, .int (0 : Int32)), (2, .int x8), (0, .ref (aS 0)), (1, .int x1)]) hx hb dX1_drawn_62 rfl hl (by decide) rfl (fun ls hl => ?_)
      refine jn1_at (fun (fW_9 : Nat → Int32) => ∀ (H : Heap) (locs : List Loc) (ls : Array Slot), va_P D vwCl (cStand Y aS (hT 0) vS gS_6 ++ cRow Y vS 8 fW_9 ++ cTold Y hT tT) H → va_S A s.heap H locs → lv_has ls 5 [] → W p l e (headSpec wsX1_drawn rmX1_drawn).room s m ([.ref (aS 0)] : List Value).toArray below meth c H locs 0 0 QQ (F0 m 127 ls [])) hM (fun fW_9 hM H locs ls hP hS hl => ?_) (fun k10 hJ10 hM => ?_)
      · refine lv_iconst (v := (-1 : Int32)) hx hb dX1_drawn_127 (by decide) ?_
        cases hM
        rw [hQQ]
        exact W.iret hx hb hr (fun t ht hW => ⟨⟨_, (), rfl, rfl, by show va_P D vwCl _ t.heap; rw [ht]; exact hP⟩, hS.F ht⟩) hS.2.2 dX1_drawn_128
      · refine jn3_at (fun (x11 : Int32) (x12 : Int32) (fW_13 : Nat → Int32) => ∀ (H : Heap) (locs : List Loc) (ls : Array Slot), va_P D vwCl (cStand Y aS (hT 0) vS gS_6 ++ cRow Y vS 8 fW_13 ++ cTold Y hT tT) H → va_S A s.heap H locs → lv_has ls 5 [(0, .ref (aS 0)), (2, .int x11), (3, .int x12)] → W p l e (headSpec wsX1_drawn rmX1_drawn).room s m ([.ref (aS 0)] : List Value).toArray below meth c H locs 0 0 QQ (F0 m 104 ls [])) hM (fun x11 x12 fW_13 hM H locs ls hP hS hl => ?_) (fun k14 hJ14 hM => ?_)
        · refine lv_bipush (v := (20 : Int32)) hx hb dX1_drawn_104 (by decide) ?_
          refine lv_iload_n hx hb dX1_drawn_106 rfl (lv_at hl 2 rfl) ?_
          refine lv_imul hx hb dX1_drawn_107 ?_
          refine lv_aload_n hx hb dX1_drawn_108 rfl (lv_at hl 0 rfl) ?_
          refine va_get hx hb hts hi1 hown hK hP 0 rfl rfl 3 (by decide) (hts (.fieldLink RX1 18 "NightPlots$Standing" "ways" "[I") (List.mem_of_getElem? (i := 3) rfl)) (fun _ h9 => h9) rfl dX1_drawn_109 ?_
          refine lv_iload_n hx hb dX1_drawn_112 rfl (lv_at hl 1 rfl) ?_
          obtain ⟨hi_15, hM⟩ := chkI_at hM
          refine va_iald hx hb hK hP 3 0 rfl rfl hi_15 dX1_drawn_113 ?_
          refine lv_iadd hx hb dX1_drawn_114 ?_
          cases hM
          rw [hQQ]
          exact W.iret hx hb hr (fun t ht hW => ⟨⟨_, (), rfl, rfl, by show va_P D vwCl _ t.heap; rw [ht]; exact hP⟩, hS.F ht⟩) hS.2.2 dX1_drawn_115
        · refine lq3_at (fun (x16 : Int32) (x17 : Int32) (fW_18 : Nat → Int32) => ∀ (H : Heap) (locs : List Loc) (ls : Array Slot), va_P D vwCl (cStand Y aS (hT 0) vS gS_6 ++ cRow Y vS 8 fW_18 ++ cTold Y hT tT) H → va_S A s.heap H locs → lv_has ls 5 [(0, .ref (aS 0)), (2, .int x16), (3, .int x17)] → W p l e (headSpec wsX1_drawn rmX1_drawn).room s m ([.ref (aS 0)] : List Value).toArray below meth c H locs 0 0 QQ (F0 m 63 ls [])) (fun rec19 x16 x17 fW_18 ih19 hM H locs ls hP hS hl => ?_) FU x8 (0 : Int32) fW_2 hM H locs ls hP hS (lv_sub hl [2, 1, 0] rfl)
          unfold BX1_drawn_63 at hM
          refine lv_iload_n hx hb dX1_drawn_63 rfl (lv_at hl 2 rfl) ?_
          refine lv_aload_n hx hb dX1_drawn_64 rfl (lv_at hl 0 rfl) ?_
          refine va_get hx hb hts hi1 hown hK hP 0 rfl rfl 0 (by decide) (hts (.fieldLink RX1 21 "NightPlots$Standing" "told" "LNightPlots$Told;") (List.mem_of_getElem? (i := 1) rfl)) (fun _ h9 => h9) rfl dX1_drawn_65 ?_
          refine va_get hx hb hts hi3 hown hK hP 4 rfl rfl 1 (by decide) (hts (.fieldLink RX1 70 "NightPlots$Told" "houses" "I") (List.mem_of_getElem? (i := 2) rfl)) (fun _ h9 => h9) rfl dX1_drawn_68 ?_
          refine lv_icmp_ge (tgt := 127) hx hb dX1_drawn_71 (by decide) (fun c20 => ?_) (fun c20 => ?_)
          · replace hM := if_at_pos hM c20
            exact hJ10 fW_18 hM H locs ls hP hS (lv_sub hl [] rfl)
          · replace hM := if_at_neg hM c20
            refine lv_aload_n hx hb dX1_drawn_74 rfl (lv_at hl 0 rfl) ?_
            refine lv_iload_n hx hb dX1_drawn_75 rfl (lv_at hl 2 rfl) ?_
            refine lv_aload_n hx hb dX1_drawn_76 rfl (lv_at hl 0 rfl) ?_
            refine va_get hx hb hts hi1 hown hK hP 0 rfl rfl 3 (by decide) (hts (.fieldLink RX1 18 "NightPlots$Standing" "ways" "[I") (List.mem_of_getElem? (i := 3) rfl)) (fun _ h9 => h9) rfl dX1_drawn_77 ?_
            obtain ⟨r21, fR_22, hc23, hM⟩ := bnd2_at hM
            refine co_i (va_runV (As := [.int x17, .ref vS]) (rest := []) ⟨hx, hb, hml, hown, hts⟩ (ctX1_findWays l D Y aS vS hT vS H.size gS_6 fW_18 tT x17 r21 fR_22 hc23) (cwV 2 hts gX1_drawn_X1_findWays rfl rfl rfl (by decide +kernel) ⟨Nat.le_of_ble_eq_true rfl, Nat.le_of_ble_eq_true rfl⟩) (pcW_V0 (ci := 1) (q0 := 0) hK hP (hD.same rfl) rfl rfl) rfl rfl hl.1 rfl (lv_room (Nat.le_of_ble_eq_true rfl)) dX1_drawn_80 ⟨Nat.zero_le _, Nat.zero_le _⟩) (hD.same rfl) hS hA (fun H locs hP hS => ?_)
            refine lv_istore (lv' := [(4, .int r21), (0, .ref (aS 0)), (2, .int x16), (3, .int x17)]) hx hb dX1_drawn_83 hl (by decide) rfl (fun ls hl => ?_)
            refine lv_iload_n hx hb dX1_drawn_85 rfl (lv_at hl 2 rfl) ?_
            refine jn0_at (∀ (H : Heap) (locs : List Loc) (ls : Array Slot), va_P D vwCl (cStand Y aS (hT 0) vS gS_6 ++ cRow Y vS 8 fR_22 ++ cTold Y hT tT) H → va_S A s.heap H locs → lv_has ls 5 [(0, .ref (aS 0)), (2, .int x16), (3, .int x17), (4, .int r21)] → W p l e (headSpec wsX1_drawn rmX1_drawn).room s m ([.ref (aS 0)] : List Value).toArray below meth c H locs 0 0 QQ (F0 m 116 ls [])) hM (fun  hM H locs ls hP hS hl => ?_) (fun k24 hJ24 hM => ?_)
            · refine lv_iload_n hx hb dX1_drawn_116 rfl (lv_at hl 1 rfl) ?_
              refine lv_iload hx hb dX1_drawn_117 (lv_at hl 3 rfl) ?_
              refine lv_isub hx hb dX1_drawn_119 ?_
              refine lv_topi (fun x25 ex25 => ?_)
              replace hM := nm_at hM ex25
              refine lv_istore_n (lv' := [(2, .int x25), (0, .ref (aS 0)), (3, .int x17), (4, .int r21)]) hx hb dX1_drawn_120 rfl hl (by decide) rfl (fun ls hl => ?_)
              obtain ⟨x26, ex26⟩ : ∃ z : Int32, z = (x17 + 1) := ⟨_, rfl⟩
              replace hM := nm_at hM ex26
              refine lv_iinc (v := x26) (lv' := [(3, .int x26), (2, .int x25), (0, .ref (aS 0)), (4, .int r21)]) hx hb dX1_drawn_121 hl (k := 2) rfl (by rw [ex26]; rfl) (by decide) rfl (fun ls hl => ?_)
              refine lv_goto (tgt := 63) hx hb dX1_drawn_124 (by decide) ?_
              exact ih19 x25 x26 fR_22 hM H locs ls hP hS (lv_sub hl [2, 1, 0] rfl)
            · refine lv_if_lt (tgt := 116) hx hb dX1_drawn_86 (by decide) (fun c27 => ?_) (fun c27 => ?_)
              · replace hM := if_at_pos hM c27
                exact hJ24 hM H locs ls hP hS (lv_sub hl [1, 2, 3, 0] rfl)
              · replace hM := if_at_neg hM c27
                refine lv_iload_n hx hb dX1_drawn_89 rfl (lv_at hl 2 rfl) ?_
                refine lv_iload hx hb dX1_drawn_90 (lv_at hl 0 rfl) ?_
                refine lv_icmp_ge (tgt := 116) hx hb dX1_drawn_92 (by decide) (fun c28 => ?_) (fun c28 => ?_)
                · replace hM := if_at_pos hM c28
                  exact hJ24 hM H locs ls hP hS (lv_sub hl [1, 2, 3, 0] rfl)
                · replace hM := if_at_neg hM c28
                  refine lv_iload_n hx hb dX1_drawn_95 rfl (lv_at hl 2 rfl) ?_
                  refine lv_aload_n hx hb dX1_drawn_96 rfl (lv_at hl 1 rfl) ?_
                  refine va_get hx hb hts hi1 hown hK hP 0 rfl rfl 3 (by decide) (hts (.fieldLink RX1 18 "NightPlots$Standing" "ways" "[I") (List.mem_of_getElem? (i := 3) rfl)) (fun _ h9 => h9) rfl dX1_drawn_97 ?_
                  refine va_alen (v := (8 : Int32)) hx hb hK hP 3 0 rfl rfl rfl dX1_drawn_100 ?_
                  refine lv_icmp_ge (tgt := 116) hx hb dX1_drawn_101 (by decide) (fun c29 => ?_) (fun c29 => ?_)
                  · replace hM := if_at_pos hM c29
                    exact hJ24 hM H locs ls hP hS (lv_sub hl [1, 2, 3, 0] rfl)
                  · replace hM := if_at_neg hM c29
                    exact hJ14 x16 x17 fR_22 hM H locs ls hP hS (lv_sub hl [1, 2, 3] rfl)
    · replace hM := if_at_neg hM c4
      refine lv_iconst (v := (-1 : Int32)) hx hb dX1_drawn_37 (by decide) ?_
      cases hM
      rw [hQQ]
      exact W.iret hx hb hr (fun t ht hW => ⟨⟨_, (), rfl, rfl, by show va_P D vwCl _ t.heap; rw [ht]; exact hP⟩, hS.F ht⟩) hS.2.2 dX1_drawn_38
  · refine lq3_at (fun (x30 : Int32) (x31 : Int32) (fW_32 : Nat → Int32) => ∀ (H : Heap) (locs : List Loc) (ls : Array Slot), va_P D vwCl (cStand Y aS (hT 0) vS gS ++ cRow Y vS 8 fW_32 ++ cTold Y hT tT) H → va_S A s.heap H locs → lv_has ls 5 [(0, .ref (aS 0)), (1, .int x30), (2, .int x31)] → W p l e (headSpec wsX1_drawn rmX1_drawn).room s m ([.ref (aS 0)] : List Value).toArray below meth c H locs 0 0 QQ (F0 m 4 ls [])) (fun rec33 x30 x31 fW_32 ih33 hM H locs ls hP hS hl => ?_) FU (0 : Int32) (0 : Int32) fW hM H locs ls hP hS (lv_sub hl [2, 1, 0] rfl)
    unfold BX1_drawn_4 at hM
    refine lv_iload_n hx hb dX1_drawn_4 rfl (lv_at hl 2 rfl) ?_
    refine lv_aload_n hx hb dX1_drawn_5 rfl (lv_at hl 0 rfl) ?_
    refine va_get hx hb hts hi1 hown hK hP 0 rfl rfl 0 (by decide) (hts (.fieldLink RX1 21 "NightPlots$Standing" "told" "LNightPlots$Told;") (List.mem_of_getElem? (i := 1) rfl)) (fun _ h9 => h9) rfl dX1_drawn_6 ?_
    refine va_get hx hb hts hi3 hown hK hP 4 rfl rfl 1 (by decide) (hts (.fieldLink RX1 70 "NightPlots$Told" "houses" "I") (List.mem_of_getElem? (i := 2) rfl)) (fun _ h9 => h9) rfl dX1_drawn_9 ?_
    refine lv_icmp_ge (tgt := 33) hx hb dX1_drawn_12 (by decide) (fun c34 => ?_) (fun c34 => ?_)
    · replace hM := if_at_pos hM c34
      exact hJ3 x30 fW_32 hM H locs ls hP hS (lv_sub hl [0, 1] rfl)
    · replace hM := if_at_neg hM c34
      refine lv_iload_n hx hb dX1_drawn_15 rfl (lv_at hl 1 rfl) ?_
      refine lv_aload_n hx hb dX1_drawn_16 rfl (lv_at hl 0 rfl) ?_
      refine lv_iload_n hx hb dX1_drawn_17 rfl (lv_at hl 2 rfl) ?_
      refine lv_aload_n hx hb dX1_drawn_18 rfl (lv_at hl 0 rfl) ?_
      refine va_get hx hb hts hi1 hown hK hP 0 rfl rfl 3 (by decide) (hts (.fieldLink RX1 18 "NightPlots$Standing" "ways" "[I") (List.mem_of_getElem? (i := 3) rfl)) (fun _ h9 => h9) rfl dX1_drawn_19 ?_
      obtain ⟨r35, fR_36, hc37, hM⟩ := bnd2_at hM
      refine co_i (va_runV (As := [.int x31, .ref vS]) (rest := [.int x30]) ⟨hx, hb, hml, hown, hts⟩ (ctX1_findWays l D Y aS vS hT vS H.size gS fW_32 tT x31 r35 fR_36 hc37) (cwV 2 hts gX1_drawn_X1_findWays rfl rfl rfl (by decide +kernel) ⟨Nat.le_of_ble_eq_true rfl, Nat.le_of_ble_eq_true rfl⟩) (pcW_V0 (ci := 1) (q0 := 0) hK hP (hD.same rfl) rfl rfl) rfl rfl hl.1 rfl (lv_room (Nat.le_of_ble_eq_true rfl)) dX1_drawn_22 ⟨Nat.zero_le _, Nat.zero_le _⟩) (hD.same rfl) hS hA (fun H locs hP hS => ?_)
      refine lv_iadd hx hb dX1_drawn_25 ?_
      refine lv_topi (fun x38 ex38 => ?_)
      replace hM := nm_at hM ex38
      refine lv_istore_n (lv' := [(1, .int x38), (0, .ref (aS 0)), (2, .int x31)]) hx hb dX1_drawn_26 rfl hl (by decide) rfl (fun ls hl => ?_)
      obtain ⟨x39, ex39⟩ : ∃ z : Int32, z = (x31 + 1) := ⟨_, rfl⟩
      replace hM := nm_at hM ex39
      refine lv_iinc (v := x39) (lv' := [(2, .int x39), (1, .int x38), (0, .ref (aS 0))]) hx hb dX1_drawn_27 hl (k := 2) rfl (by rw [ex39]; rfl) (by decide) rfl (fun ls hl => ?_)
      refine lv_goto (tgt := 4) hx hb dX1_drawn_30 (by decide) ?_
      exact ih33 x38 x39 fR_36 hM H locs ls hP hS (lv_sub hl [2, 1, 0] rfl)
noncomputable def MX1_passNight (gS : GS) (fW : Nat → Int32) (tT : GS) (i1 : Int32) : Option (GS × (Nat → Int32)) := jn3 (fun (x1 : Int32) (gS_2 : GS) (fW_3 : Nat → Int32) => if x1 = (-1 : Int32) then (nm ((gS_2 0 5) + (1 : Int32)) fun (x8 : Int32) => nm (up2 gS_2 0 5 x8) fun (gS_9 : GS) => some (gS_9, fW_3)) else (bnd1 (MX1_passNightOf gS_2 tT (x1 / (20 : Int32)) (x1 - x1 / (20 : Int32) * (20 : Int32)) i1) fun (gS_6 : GS) => some (gS_6, fW_3))) (fun k4 => if i1 = (1 : Int32) then (bnd2 (MX1_firstFrom gS fW tT (gS 0 6)) fun (r11 : Int32) (fW_12 : Nat → Int32) => k4 r11 gS fW_12) else (if i1 = (2 : Int32) then (bnd2 (MX1_longestRested gS fW tT) fun (r14 : Int32) (fW_15 : Nat → Int32) => k4 r14 gS fW_15) else (if i1 = (3 : Int32) then (bnd3 (MX1_drawn gS fW tT) fun (r17 : Int32) (gS_18 : GS) (fW_19 : Nat → Int32) => k4 r17 gS_18 fW_19) else (bnd2 (MX1_firstFrom gS fW tT (0 : Int32)) fun (r21 : Int32) (fW_22 : Nat → Int32) => k4 r21 gS fW_22))))
abbrev rmX1_passNight : Room := { frames := 5, cells := 0, slots := 0, locals := 200 }
set_option maxHeartbeats 4000000 in
set_option maxRecDepth 100000 in
theorem ctX1_passNight (l : Launch) (D : va_G) (Y : Nat → ClassId) (aS : Nat → Nat) (vS : Nat) (hT : Nat → Nat) (sz : Nat) (gS : GS) (fW : Nat → Int32) (tT : GS) (i1 : Int32) (gSz : GS) (fWz : Nat → Int32) (hM : MX1_passNight gS fW tT i1 = some (gSz, fWz)) : Met l yX1_passNight wsX1_passNight rmX1_passNight (pcW [.ref (aS 0), .int i1] sz D Y (cStand Y aS (hT 0) vS gS ++ cRow Y vS 8 fW ++ cTold Y hT tT)) (qvW D (cStand Y aS (hT 0) vS gSz ++ cRow Y vS 8 fWz ++ cTold Y hT tT) (va_A (cStand Y aS (hT 0) vS gS ++ cRow Y vS 8 fW ++ cTold Y hT tT) sz)) 0 0 (va_A (cStand Y aS (hT 0) vS gS ++ cRow Y vS 8 fW ++ cTold Y hT tT) sz) := by
  refine Met.ofW (cc := cX1_passNight) (maxL := 3) (ret := (none)) (by decide) rfl ?_
  intro p e s m args below meth c s₁ B hml hv
  obtain ⟨rfl, hsz, hP, hK, hD0⟩ := hv
  have hx := B.exec
  have hb := B.bytes
  have hr := B.returns
  have hts := atoms_spec (ws := wsX1_passNight) B.pre
  have hown : s.vm.findClass RX1 = some m.cls := findClass_of_methodNamed B.named
  have hlocks := B.notSynchronized
  subst hsz
  have hD := hD0.self (sz := s.heap.size)
  generalize hAe : va_A (cStand Y aS (hT 0) vS gS ++ cRow Y vS 8 fW ++ cTold Y hT tT) s.heap.size = A at hD ⊢
  have hA : ∀ q : Nat, s.heap.size ≤ q → A q := fun q h => by rw [← hAe]; exact Or.inr h
  have hS : va_S A s.heap s.heap [] := va_S.rf
  have hi1 : ∀ w ∈ wsX10, w ∈ wsX1_passNight := fun w h => List.mem_cons_of_mem _ (List.mem_append_left _ (List.mem_append_right _ h))
  have hl := lv_entry ([.ref (aS 0), .int i1]) (n := 3) (Nat.le_of_ble_eq_true rfl)
  rw [lg_entry_eq]
  generalize (lg_sl ([.ref (aS 0), .int i1]) ++ List.replicate (3 - (lg_sl ([.ref (aS 0), .int i1])).length) Slot.unset).toArray = ls at hl ⊢
  have hl : lv_has ls 3 [(0, .ref (aS 0)), (1, .int i1)] := hl
  obtain ⟨QQ, hQQ⟩ : ∃ Q : State → Prop, Q = MQ below (qvW D (cStand Y aS (hT 0) vS gSz ++ cRow Y vS 8 fWz ++ cTold Y hT tT) A) ([.ref (aS 0), .int i1] : List Value).toArray s 0 0 A := ⟨_, rfl⟩
  rw [← hQQ]
  unfold MX1_passNight at hM
  suffices hI : ∀ (H : Heap) (locs : List Loc), va_P D vwCl (cStand Y aS (hT 0) vS gS ++ cRow Y vS 8 fW ++ cTold Y hT tT) H → va_S A s.heap H locs → W p l e (headSpec wsX1_passNight rmX1_passNight).room s m ([.ref (aS 0), .int i1] : List Value).toArray below meth c H locs 0 0 QQ (F0 m 0 ls []) from hI _ _ hP hS
  clear hP hS
  intro H locs hP hS
  refine lv_iload_n hx hb dX1_passNight_0 rfl (lv_at hl 1 rfl) ?_
  refine jn3_at (fun (x1 : Int32) (gS_2 : GS) (fW_3 : Nat → Int32) => ∀ (H : Heap) (locs : List Loc) (ls : Array Slot), va_P D vwCl (cStand Y aS (hT 0) vS gS_2 ++ cRow Y vS 8 fW_3 ++ cTold Y hT tT) H → va_S A s.heap H locs → lv_has ls 3 [(0, .ref (aS 0)), (1, .int i1), (2, .int x1)] → W p l e (headSpec wsX1_passNight rmX1_passNight).room s m ([.ref (aS 0), .int i1] : List Value).toArray below meth c H locs 0 0 QQ (F0 m 62 ls [])) hM (fun x1 gS_2 fW_3 hM H locs ls hP hS hl => ?_) (fun k4 hJ4 hM => ?_)
  · refine lv_iload_n hx hb dX1_passNight_62 rfl (lv_at hl 2 rfl) ?_
    refine lv_iconst (v := (-1 : Int32)) hx hb dX1_passNight_63 (by decide) ?_
    refine lv_icmp_ne (tgt := 78) hx hb dX1_passNight_64 (by decide) (fun c5 => ?_) (fun c5 => ?_)
    · replace hM := if_at_neg hM c5
      refine lv_aload_n hx hb dX1_passNight_78 rfl (lv_at hl 0 rfl) ?_
      refine lv_iload_n hx hb dX1_passNight_79 rfl (lv_at hl 2 rfl) ?_
      refine lv_bipush (v := (20 : Int32)) hx hb dX1_passNight_80 (by decide) ?_
      refine lv_idiv hx hb dX1_passNight_82 (by decide) ?_
      refine lv_iload_n hx hb dX1_passNight_83 rfl (lv_at hl 2 rfl) ?_
      refine lv_bipush (v := (20 : Int32)) hx hb dX1_passNight_84 (by decide) ?_
      refine lv_irem hx hb dX1_passNight_86 (by decide) ?_
      refine lv_iload_n hx hb dX1_passNight_87 rfl (lv_at hl 1 rfl) ?_
      obtain ⟨gS_6, hc7, hM⟩ := bnd1_at hM
      refine cm_v (w2 := (cStand Y aS (hT 0) vS gS_6 ++ cRow Y vS 8 fW_3 ++ cTold Y hT tT)) (va_runV (As := [.int (x1 / (20 : Int32)), .int (x1 - x1 / (20 : Int32) * (20 : Int32)), .int i1]) (rest := []) ⟨hx, hb, hml, hown, hts⟩ (ctX1_passNightOf l D Y aS hT vS H.size gS_2 tT (x1 / (20 : Int32)) (x1 - x1 / (20 : Int32) * (20 : Int32)) i1 gS_6 hc7) (cwV 3 hts gX1_passNight_X1_passNightOf rfl rfl rfl (by decide +kernel) ⟨Nat.le_of_ble_eq_true rfl, Nat.le_of_ble_eq_true rfl⟩) (pcW_V (ci := 1) (q0 := 0) hK hP (hD.same rfl) [0, 1, 2, 4, 5, 6, 7, 8, 9, 10, 11] rfl (pc_map (pc_cons rfl (pc_cons rfl (pc_cons rfl (pc_cons rfl (pc_cons rfl (pc_cons rfl (pc_cons rfl (pc_cons rfl (pc_cons rfl (pc_cons rfl (pc_cons rfl pc_nil)))))))))))) rfl rfl) rfl rfl hl.1 rfl (lv_room (Nat.le_of_ble_eq_true rfl)) dX1_passNight_88 ⟨Nat.zero_le _, Nat.zero_le _⟩) hP (hD.same rfl) hS hA [0, 1, 2, 4, 5, 6, 7, 8, 9, 10, 11] (pc_map (pc_cons rfl (pc_cons rfl (pc_cons rfl (pc_cons rfl (pc_cons rfl (pc_cons rfl (pc_cons rfl (pc_cons rfl (pc_cons rfl (pc_cons rfl (pc_cons rfl pc_nil)))))))))))) (up_new 0 rfl (up_new 1 rfl (up_new 2 rfl (up_old rfl rfl (up_new 3 rfl (up_new 4 rfl (up_new 5 rfl (up_new 6 rfl (up_new 7 rfl (up_new 8 rfl (up_new 9 rfl (up_new 10 rfl up_nil)))))))))))) (fun H locs hP hS => ?_)
      cases hM
      rw [hQQ]
      exact W.vret hx hb hr (fun t ht hW => ⟨⟨(), rfl, trivial, by show va_P D vwCl _ t.heap; rw [ht]; exact hP⟩, hS.F ht⟩) hS.2.2 dX1_passNight_91
    · replace hM := if_at_pos hM c5
      refine lv_aload_n hx hb dX1_passNight_67 rfl (lv_at hl 0 rfl) ?_
      refine lv_dup hx hb dX1_passNight_68 rfl ?_
      refine va_get hx hb hts hi1 hown hK hP 0 rfl rfl 5 (by decide) (hts (.fieldLink RX1 48 "NightPlots$Standing" "nights" "I") (List.mem_of_getElem? (i := 2) rfl)) (fun _ h9 => h9) rfl dX1_passNight_69 ?_
      refine lv_iconst (v := (1 : Int32)) hx hb dX1_passNight_72 (by decide) ?_
      refine lv_iadd hx hb dX1_passNight_73 ?_
      refine lv_topi (fun x8 ex8 => ?_)
      replace hM := nm_at hM ex8
      refine va_put (ty := .int) hx hb hts hi1 tyX1 tyX1_ok nmX1 hown hK hP (hD.same rfl) hS 0 rfl rfl 5 (by decide) (hts (.fieldLink RX1 48 "NightPlots$Standing" "nights" "I") (List.mem_of_getElem? (i := 2) rfl)) (fun _ h9 => h9) rfl (by decide +kernel) rfl rfl (Nat.le_of_ble_eq_true rfl) dX1_passNight_74 (fun H locs hP _ hS => ?_)
      obtain ⟨gS_9, egS_9⟩ : ∃ z : GS, z = (up2 gS_2 0 5 x8) := ⟨_, rfl⟩
      have hP : va_P D vwCl (cStand Y aS (hT 0) vS gS_9 ++ cRow Y vS 8 fW_3 ++ cTold Y hT tT) H := by rw [egS_9]; exact hP
      replace hM := nm_at hM egS_9
      cases hM
      rw [hQQ]
      exact W.vret hx hb hr (fun t ht hW => ⟨⟨(), rfl, trivial, by show va_P D vwCl _ t.heap; rw [ht]; exact hP⟩, hS.F ht⟩) hS.2.2 dX1_passNight_77
  · by_cases c10_0 : i1 = (1 : Int32)
    · replace hM := if_at_pos hM c10_0
      refine lv_tableIn (off := 27) (tgt := 28) hx hb dX1_passNight_1 (by rw [c10_0]; decide) (by rw [c10_0]; decide) (by rw [c10_0]; rfl) (by decide) ?_
      refine lv_aload_n hx hb dX1_passNight_28 rfl (lv_at hl 0 rfl) ?_
      refine lv_aload_n hx hb dX1_passNight_29 rfl (lv_at hl 0 rfl) ?_
      refine va_get hx hb hts hi1 hown hK hP 0 rfl rfl 6 (by decide) (hts (.fieldLink RX1 51 "NightPlots$Standing" "turn" "I") (List.mem_of_getElem? (i := 1) rfl)) (fun _ h9 => h9) rfl dX1_passNight_30 ?_
      obtain ⟨r11, fW_12, hc13, hM⟩ := bnd2_at hM
      refine co_i (va_runV (As := [.int (gS 0 6)]) (rest := []) ⟨hx, hb, hml, hown, hts⟩ (ctX1_firstFrom l D Y aS vS hT H.size gS fW tT (gS 0 6) r11 fW_12 hc13) (cwV 1 hts gX1_passNight_X1_firstFrom rfl rfl rfl (by decide +kernel) ⟨Nat.le_of_ble_eq_true rfl, Nat.le_of_ble_eq_true rfl⟩) (pcW_V0 (ci := 1) (q0 := 0) hK hP (hD.same rfl) rfl rfl) rfl rfl hl.1 rfl (lv_room (Nat.le_of_ble_eq_true rfl)) dX1_passNight_33 ⟨Nat.zero_le _, Nat.zero_le _⟩) (hD.same rfl) hS hA (fun H locs hP hS => ?_)
      refine lv_istore_n (lv' := [(2, .int r11), (0, .ref (aS 0)), (1, .int i1)]) hx hb dX1_passNight_36 rfl hl (by decide) rfl (fun ls hl => ?_)
      refine lv_goto (tgt := 62) hx hb dX1_passNight_37 (by decide) ?_
      exact hJ4 r11 gS fW_12 hM H locs ls hP hS (lv_sub hl [1, 2, 0] rfl)
    · replace hM := if_at_neg hM c10_0
      by_cases c10_1 : i1 = (2 : Int32)
      · replace hM := if_at_pos hM c10_1
        refine lv_tableIn (off := 39) (tgt := 40) hx hb dX1_passNight_1 (by rw [c10_1]; decide) (by rw [c10_1]; decide) (by rw [c10_1]; rfl) (by decide) ?_
        refine lv_aload_n hx hb dX1_passNight_40 rfl (lv_at hl 0 rfl) ?_
        obtain ⟨r14, fW_15, hc16, hM⟩ := bnd2_at hM
        refine co_i (va_runV (As := []) (rest := []) ⟨hx, hb, hml, hown, hts⟩ (ctX1_longestRested l D Y aS vS hT H.size gS fW tT r14 fW_15 hc16) (cwV 0 hts gX1_passNight_X1_longestRested rfl rfl rfl (by decide +kernel) ⟨Nat.le_of_ble_eq_true rfl, Nat.le_of_ble_eq_true rfl⟩) (pcW_V0 (ci := 1) (q0 := 0) hK hP (hD.same rfl) rfl rfl) rfl rfl hl.1 rfl (lv_room (Nat.le_of_ble_eq_true rfl)) dX1_passNight_41 ⟨Nat.zero_le _, Nat.zero_le _⟩) (hD.same rfl) hS hA (fun H locs hP hS => ?_)
        refine lv_istore_n (lv' := [(2, .int r14), (0, .ref (aS 0)), (1, .int i1)]) hx hb dX1_passNight_44 rfl hl (by decide) rfl (fun ls hl => ?_)
        refine lv_goto (tgt := 62) hx hb dX1_passNight_45 (by decide) ?_
        exact hJ4 r14 gS fW_15 hM H locs ls hP hS (lv_sub hl [1, 2, 0] rfl)
      · replace hM := if_at_neg hM c10_1
        by_cases c10_2 : i1 = (3 : Int32)
        · replace hM := if_at_pos hM c10_2
          refine lv_tableIn (off := 47) (tgt := 48) hx hb dX1_passNight_1 (by rw [c10_2]; decide) (by rw [c10_2]; decide) (by rw [c10_2]; rfl) (by decide) ?_
          refine lv_aload_n hx hb dX1_passNight_48 rfl (lv_at hl 0 rfl) ?_
          obtain ⟨r17, gS_18, fW_19, hc20, hM⟩ := bnd3_at hM
          refine co_i (va_runV (As := []) (rest := []) ⟨hx, hb, hml, hown, hts⟩ (ctX1_drawn l D Y aS vS hT H.size gS fW tT r17 gS_18 fW_19 hc20) (cwV 0 hts gX1_passNight_X1_drawn rfl rfl rfl (by decide +kernel) ⟨Nat.le_of_ble_eq_true rfl, Nat.le_of_ble_eq_true rfl⟩) (pcW_V0 (ci := 1) (q0 := 0) hK hP (hD.same rfl) rfl rfl) rfl rfl hl.1 rfl (lv_room (Nat.le_of_ble_eq_true rfl)) dX1_passNight_49 ⟨Nat.zero_le _, Nat.zero_le _⟩) (hD.same rfl) hS hA (fun H locs hP hS => ?_)
          refine lv_istore_n (lv' := [(2, .int r17), (0, .ref (aS 0)), (1, .int i1)]) hx hb dX1_passNight_52 rfl hl (by decide) rfl (fun ls hl => ?_)
          refine lv_goto (tgt := 62) hx hb dX1_passNight_53 (by decide) ?_
          exact hJ4 r17 gS_18 fW_19 hM H locs ls hP hS (lv_sub hl [1, 2, 0] rfl)
        · replace hM := if_at_neg hM c10_2
          refine lv_tableOut (tgt := 56) hx hb dX1_passNight_1 (by have n10_0 := lv_neT (a := 1) c10_0 rfl; have n10_1 := lv_neT (a := 2) c10_1 rfl; have n10_2 := lv_neT (a := 3) c10_2 rfl; omega) (by decide) ?_
          refine lv_aload_n hx hb dX1_passNight_56 rfl (lv_at hl 0 rfl) ?_
          refine lv_iconst (v := (0 : Int32)) hx hb dX1_passNight_57 (by decide) ?_
          obtain ⟨r21, fW_22, hc23, hM⟩ := bnd2_at hM
          refine co_i (va_runV (As := [.int (0 : Int32)]) (rest := []) ⟨hx, hb, hml, hown, hts⟩ (ctX1_firstFrom l D Y aS vS hT H.size gS fW tT (0 : Int32) r21 fW_22 hc23) (cwV 1 hts gX1_passNight_X1_firstFrom rfl rfl rfl (by decide +kernel) ⟨Nat.le_of_ble_eq_true rfl, Nat.le_of_ble_eq_true rfl⟩) (pcW_V0 (ci := 1) (q0 := 0) hK hP (hD.same rfl) rfl rfl) rfl rfl hl.1 rfl (lv_room (Nat.le_of_ble_eq_true rfl)) dX1_passNight_58 ⟨Nat.zero_le _, Nat.zero_le _⟩) (hD.same rfl) hS hA (fun H locs hP hS => ?_)
          refine lv_istore_n (lv' := [(2, .int r21), (0, .ref (aS 0)), (1, .int i1)]) hx hb dX1_passNight_61 rfl hl (by decide) rfl (fun ls hl => ?_)
          exact hJ4 r21 gS fW_22 hM H locs ls hP hS (lv_sub hl [1, 2, 0] rfl)
noncomputable def MX1_areBeside (gS : GS) (tT : GS) (i1 : Int32) (i2 : Int32) : Option (Int32) := bnd1 (MX1_groundOf gS tT i1) fun (r1 : Int32) => bnd1 (MX3_around tT r1) fun (r3 : Int32) => bnd1 (MX1_groundOf gS tT i2) fun (r5 : Int32) => jn1 (fun (x7 : Int32) => chkB x7 (some (x7))) (fun k8 => if (r3 &&& r5) = 0 then (k8 (0 : Int32)) else (k8 (1 : Int32)))
abbrev rmX1_areBeside : Room := { frames := 4, cells := 0, slots := 0, locals := 160 }
set_option maxHeartbeats 4000000 in
set_option maxRecDepth 100000 in
theorem ctX1_areBeside (l : Launch) (D : va_G) (Y : Nat → ClassId) (aS : Nat → Nat) (hT : Nat → Nat) (vS : Nat) (sz : Nat) (gS : GS) (tT : GS) (i1 : Int32) (i2 : Int32) (rr : Int32) (hM : MX1_areBeside gS tT i1 i2 = some (rr)) : Met l yX1_areBeside wsX1_areBeside rmX1_areBeside (pcW [.ref (aS 0), .int i1, .int i2] sz D Y (cStand Y aS (hT 0) vS gS ++ cTold Y hT tT)) (qiW rr D (cStand Y aS (hT 0) vS gS ++ cTold Y hT tT) (va_A (cStand Y aS (hT 0) vS gS ++ cTold Y hT tT) sz)) 0 0 (va_A (cStand Y aS (hT 0) vS gS ++ cTold Y hT tT) sz) := by
  refine Met.ofW (cc := cX1_areBeside) (maxL := 3) (ret := (some .boolean)) (by decide) rfl ?_
  intro p e s m args below meth c s₁ B hml hv
  obtain ⟨rfl, hsz, hP, hK, hD0⟩ := hv
  have hx := B.exec
  have hb := B.bytes
  have hr := B.returns
  have hts := atoms_spec (ws := wsX1_areBeside) B.pre
  have hown : s.vm.findClass RX1 = some m.cls := findClass_of_methodNamed B.named
  have hlocks := B.notSynchronized
  subst hsz
  have hD := hD0.self (sz := s.heap.size)
  generalize hAe : va_A (cStand Y aS (hT 0) vS gS ++ cTold Y hT tT) s.heap.size = A at hD ⊢
  have hA : ∀ q : Nat, s.heap.size ≤ q → A q := fun q h => by rw [← hAe]; exact Or.inr h
  have hS : va_S A s.heap s.heap [] := va_S.rf
  have hi1 : ∀ w ∈ wsX10, w ∈ wsX1_areBeside := fun w h => List.mem_cons_of_mem _ (List.mem_append_left _ (List.mem_append_right _ h))
  have hl := lv_entry ([.ref (aS 0), .int i1, .int i2]) (n := 3) (Nat.le_of_ble_eq_true rfl)
  rw [lg_entry_eq]
  generalize (lg_sl ([.ref (aS 0), .int i1, .int i2]) ++ List.replicate (3 - (lg_sl ([.ref (aS 0), .int i1, .int i2])).length) Slot.unset).toArray = ls at hl ⊢
  have hl : lv_has ls 3 [(0, .ref (aS 0)), (1, .int i1), (2, .int i2)] := hl
  obtain ⟨QQ, hQQ⟩ : ∃ Q : State → Prop, Q = MQ below (qiW rr D (cStand Y aS (hT 0) vS gS ++ cTold Y hT tT) A) ([.ref (aS 0), .int i1, .int i2] : List Value).toArray s 0 0 A := ⟨_, rfl⟩
  rw [← hQQ]
  unfold MX1_areBeside at hM
  suffices hI : ∀ (H : Heap) (locs : List Loc), va_P D vwCl (cStand Y aS (hT 0) vS gS ++ cTold Y hT tT) H → va_S A s.heap H locs → W p l e (headSpec wsX1_areBeside rmX1_areBeside).room s m ([.ref (aS 0), .int i1, .int i2] : List Value).toArray below meth c H locs 0 0 QQ (F0 m 0 ls []) from hI _ _ hP hS
  clear hP hS
  intro H locs hP hS
  refine lv_aload_n hx hb dX1_areBeside_0 rfl (lv_at hl 0 rfl) ?_
  refine va_get hx hb hts hi1 hown hK hP 0 rfl rfl 0 (by decide) (hts (.fieldLink RX1 21 "NightPlots$Standing" "told" "LNightPlots$Told;") (List.mem_of_getElem? (i := 1) rfl)) (fun _ h9 => h9) rfl dX1_areBeside_1 ?_
  refine lv_aload_n hx hb dX1_areBeside_4 rfl (lv_at hl 0 rfl) ?_
  refine lv_iload_n hx hb dX1_areBeside_5 rfl (lv_at hl 1 rfl) ?_
  obtain ⟨r1, hc2, hM⟩ := bnd1_at hM
  refine co_i (va_runV (As := [.int i1]) (rest := [.ref (hT 0)]) ⟨hx, hb, hml, hown, hts⟩ (ctX1_groundOf l D Y aS hT vS H.size gS tT i1 r1 hc2) (cwV 1 hts gX1_areBeside_X1_groundOf rfl rfl rfl (by decide +kernel) ⟨Nat.le_of_ble_eq_true rfl, Nat.le_of_ble_eq_true rfl⟩) (pcW_V0 (ci := 1) (q0 := 0) hK hP (hD.same rfl) rfl rfl) rfl rfl hl.1 rfl (lv_room (Nat.le_of_ble_eq_true rfl)) dX1_areBeside_6 ⟨Nat.zero_le _, Nat.zero_le _⟩) (hD.same rfl) hS hA (fun H locs hP hS => ?_)
  obtain ⟨r3, hc4, hM⟩ := bnd1_at hM
  refine cm_i (w2 := (cStand Y aS (hT 0) vS gS ++ cTold Y hT tT)) (va_runV (As := [.int r1]) (rest := []) ⟨hx, hb, hml, hown, hts⟩ (ctX3_around l D Y hT H.size tT r1 r3 hc4) (cwV 1 hts gX1_areBeside_X3_around rfl rfl rfl (by decide +kernel) ⟨Nat.le_of_ble_eq_true rfl, Nat.le_of_ble_eq_true rfl⟩) (pcW_V (ci := 3) (q0 := 3) hK hP (hD.same rfl) [3, 4, 5, 6, 7, 8, 9, 10] rfl (pc_map (pc_cons rfl (pc_cons rfl (pc_cons rfl (pc_cons rfl (pc_cons rfl (pc_cons rfl (pc_cons rfl (pc_cons rfl pc_nil))))))))) rfl rfl) rfl rfl hl.1 rfl (lv_room (Nat.le_of_ble_eq_true rfl)) dX1_areBeside_9 ⟨Nat.zero_le _, Nat.zero_le _⟩) hP (hD.same rfl) hS hA [3, 4, 5, 6, 7, 8, 9, 10] (pc_map (pc_cons rfl (pc_cons rfl (pc_cons rfl (pc_cons rfl (pc_cons rfl (pc_cons rfl (pc_cons rfl (pc_cons rfl pc_nil))))))))) (up_old rfl rfl (up_old rfl rfl (up_old rfl rfl (up_new 0 rfl (up_new 1 rfl (up_new 2 rfl (up_new 3 rfl (up_new 4 rfl (up_new 5 rfl (up_new 6 rfl (up_new 7 rfl up_nil))))))))))) (fun H locs hP hS => ?_)
  refine lv_aload_n hx hb dX1_areBeside_12 rfl (lv_at hl 0 rfl) ?_
  refine lv_iload_n hx hb dX1_areBeside_13 rfl (lv_at hl 2 rfl) ?_
  obtain ⟨r5, hc6, hM⟩ := bnd1_at hM
  refine co_i (va_runV (As := [.int i2]) (rest := [.int r3]) ⟨hx, hb, hml, hown, hts⟩ (ctX1_groundOf l D Y aS hT vS H.size gS tT i2 r5 hc6) (cwV 1 hts gX1_areBeside_X1_groundOf rfl rfl rfl (by decide +kernel) ⟨Nat.le_of_ble_eq_true rfl, Nat.le_of_ble_eq_true rfl⟩) (pcW_V0 (ci := 1) (q0 := 0) hK hP (hD.same rfl) rfl rfl) rfl rfl hl.1 rfl (lv_room (Nat.le_of_ble_eq_true rfl)) dX1_areBeside_14 ⟨Nat.zero_le _, Nat.zero_le _⟩) (hD.same rfl) hS hA (fun H locs hP hS => ?_)
  refine lv_iand hx hb dX1_areBeside_17 ?_
  refine jn1_at (fun (x7 : Int32) => ∀ (H : Heap) (locs : List Loc) (ls : Array Slot), va_P D vwCl (cStand Y aS (hT 0) vS gS ++ cTold Y hT tT) H → va_S A s.heap H locs → lv_has ls 3 [] → W p l e (headSpec wsX1_areBeside rmX1_areBeside).room s m ([.ref (aS 0), .int i1, .int i2] : List Value).toArray below meth c H locs 0 0 QQ (F0 m 26 ls [.int x7])) hM (fun x7 hM H locs ls hP hS hl => ?_) (fun k8 hJ8 hM => ?_)
  · obtain ⟨hz9, hM⟩ := chkB_at hM
    cases hM
    rw [hQQ]
    exact W.zret (ty := .boolean) hx hb hr hz9 (fun t ht hW => ⟨⟨_, (), rfl, rfl, by show va_P D vwCl _ t.heap; rw [ht]; exact hP⟩, hS.F ht⟩) hS.2.2 dX1_areBeside_26
  · refine lv_if_eq (tgt := 25) hx hb dX1_areBeside_18 (by decide) (fun c10 => ?_) (fun c10 => ?_)
    · replace hM := if_at_pos hM c10
      refine lv_iconst (v := (0 : Int32)) hx hb dX1_areBeside_25 (by decide) ?_
      exact hJ8 (0 : Int32) hM H locs ls hP hS (lv_sub hl [] rfl)
    · replace hM := if_at_neg hM c10
      refine lv_iconst (v := (1 : Int32)) hx hb dX1_areBeside_21 (by decide) ?_
      refine lv_goto (tgt := 26) hx hb dX1_areBeside_22 (by decide) ?_
      exact hJ8 (1 : Int32) hM H locs ls hP hS (lv_sub hl [] rfl)
noncomputable def MX1_areOpposite (gS : GS) (tT : GS) (i1 : Int32) (i2 : Int32) : Option (Int32) := chkI i1 8 (chkI i2 8 (jn1 (fun (x3 : Int32) => chkB x3 (some (x3))) (fun k4 => if ((2 : Int32) * (if 0 ≤ ((gS 1 i1.toNatClampNeg) - (gS 1 i2.toNatClampNeg)) then ((gS 1 i1.toNatClampNeg) - (gS 1 i2.toNatClampNeg)) else 0 - ((gS 1 i1.toNatClampNeg) - (gS 1 i2.toNatClampNeg)))) = (tT 0 0) then (k4 (1 : Int32)) else (k4 (0 : Int32)))))
abbrev rmX1_areOpposite : Room := { frames := 2, cells := 0, slots := 0, locals := 80 }
set_option maxHeartbeats 4000000 in
set_option maxRecDepth 100000 in
theorem ctX1_areOpposite (l : Launch) (D : va_G) (Y : Nat → ClassId) (aS : Nat → Nat) (hT : Nat → Nat) (vS : Nat) (sz : Nat) (gS : GS) (tT : GS) (i1 : Int32) (i2 : Int32) (rr : Int32) (hM : MX1_areOpposite gS tT i1 i2 = some (rr)) : Met l yX1_areOpposite wsX1_areOpposite rmX1_areOpposite (pcW [.ref (aS 0), .int i1, .int i2] sz D Y (cStand Y aS (hT 0) vS gS ++ cTold Y hT tT)) (qiW rr D (cStand Y aS (hT 0) vS gS ++ cTold Y hT tT) (va_A (cStand Y aS (hT 0) vS gS ++ cTold Y hT tT) sz)) 0 0 (va_A (cStand Y aS (hT 0) vS gS ++ cTold Y hT tT) sz) := by
  refine Met.ofW (cc := cX1_areOpposite) (maxL := 3) (ret := (some .boolean)) (by decide) rfl ?_
  intro p e s m args below meth c s₁ B hml hv
  obtain ⟨rfl, hsz, hP, hK, hD0⟩ := hv
  have hx := B.exec
  have hb := B.bytes
  have hr := B.returns
  have hts := atoms_spec (ws := wsX1_areOpposite) B.pre
  have hown : s.vm.findClass RX1 = some m.cls := findClass_of_methodNamed B.named
  have hlocks := B.notSynchronized
  subst hsz
  have hD := hD0.self (sz := s.heap.size)
  generalize hAe : va_A (cStand Y aS (hT 0) vS gS ++ cTold Y hT tT) s.heap.size = A at hD ⊢
  have hA : ∀ q : Nat, s.heap.size ≤ q → A q := fun q h => by rw [← hAe]; exact Or.inr h
  have hS : va_S A s.heap s.heap [] := va_S.rf
  have hi1 : ∀ w ∈ wsX10, w ∈ wsX1_areOpposite := fun w h => List.mem_cons_of_mem _ (List.mem_append_left _ (List.mem_append_right _ h))
  have hi3 : ∀ w ∈ wsX30, w ∈ wsX1_areOpposite := fun w h => List.mem_cons_of_mem _ (List.mem_append_right _ h)
  have hl := lv_entry ([.ref (aS 0), .int i1, .int i2]) (n := 3) (Nat.le_of_ble_eq_true rfl)
  rw [lg_entry_eq]
  generalize (lg_sl ([.ref (aS 0), .int i1, .int i2]) ++ List.replicate (3 - (lg_sl ([.ref (aS 0), .int i1, .int i2])).length) Slot.unset).toArray = ls at hl ⊢
  have hl : lv_has ls 3 [(0, .ref (aS 0)), (1, .int i1), (2, .int i2)] := hl
  obtain ⟨QQ, hQQ⟩ : ∃ Q : State → Prop, Q = MQ below (qiW rr D (cStand Y aS (hT 0) vS gS ++ cTold Y hT tT) A) ([.ref (aS 0), .int i1, .int i2] : List Value).toArray s 0 0 A := ⟨_, rfl⟩
  rw [← hQQ]
  unfold MX1_areOpposite at hM
  suffices hI : ∀ (H : Heap) (locs : List Loc), va_P D vwCl (cStand Y aS (hT 0) vS gS ++ cTold Y hT tT) H → va_S A s.heap H locs → W p l e (headSpec wsX1_areOpposite rmX1_areOpposite).room s m ([.ref (aS 0), .int i1, .int i2] : List Value).toArray below meth c H locs 0 0 QQ (F0 m 0 ls []) from hI _ _ hP hS
  clear hP hS
  intro H locs hP hS
  refine lv_iconst (v := (2 : Int32)) hx hb dX1_areOpposite_0 (by decide) ?_
  refine lv_aload_n hx hb dX1_areOpposite_1 rfl (lv_at hl 0 rfl) ?_
  refine va_get hx hb hts hi1 hown hK hP 0 rfl rfl 1 (by decide) (hts (.fieldLink RX1 9 "NightPlots$Standing" "place" "[I") (List.mem_of_getElem? (i := 1) rfl)) (fun _ h9 => h9) rfl dX1_areOpposite_2 ?_
  refine lv_iload_n hx hb dX1_areOpposite_5 rfl (lv_at hl 1 rfl) ?_
  obtain ⟨hi_1, hM⟩ := chkI_at hM
  refine va_iald hx hb hK hP 1 0 rfl rfl hi_1 dX1_areOpposite_6 ?_
  refine lv_aload_n hx hb dX1_areOpposite_7 rfl (lv_at hl 0 rfl) ?_
  refine va_get hx hb hts hi1 hown hK hP 0 rfl rfl 1 (by decide) (hts (.fieldLink RX1 9 "NightPlots$Standing" "place" "[I") (List.mem_of_getElem? (i := 1) rfl)) (fun _ h9 => h9) rfl dX1_areOpposite_8 ?_
  refine lv_iload_n hx hb dX1_areOpposite_11 rfl (lv_at hl 2 rfl) ?_
  obtain ⟨hi_2, hM⟩ := chkI_at hM
  refine va_iald hx hb hK hP 1 0 rfl rfl hi_2 dX1_areOpposite_12 ?_
  refine lv_isub hx hb dX1_areOpposite_13 ?_
  refine va_mabs hx hb (hml.trans hl.1.symm) hown (hts (.methodLink RX1 133 Lib.Math.abs.name) (List.mem_of_getElem? (i := 2) rfl)) (hts (.static Lib.Math.abs.name) (List.mem_of_getElem? (i := 3) rfl)) (hts (.initialized "java/lang/Math") (List.mem_of_getElem? (i := 4) rfl)) (hts (.code Lib.Math.abs.name Lib.Math.abs.code 1 (some .int)) (List.mem_of_getElem? (i := 5) rfl)) (Nat.le_of_ble_eq_true rfl) (Nat.le_of_ble_eq_true rfl) (Nat.zero_le _) (Nat.zero_le _) dX1_areOpposite_14 ?_
  refine lv_imul hx hb dX1_areOpposite_17 ?_
  refine lv_aload_n hx hb dX1_areOpposite_18 rfl (lv_at hl 0 rfl) ?_
  refine va_get hx hb hts hi1 hown hK hP 0 rfl rfl 0 (by decide) (hts (.fieldLink RX1 21 "NightPlots$Standing" "told" "LNightPlots$Told;") (List.mem_of_getElem? (i := 6) rfl)) (fun _ h9 => h9) rfl dX1_areOpposite_19 ?_
  refine va_get hx hb hts hi3 hown hK hP 3 rfl rfl 0 (by decide) (hts (.fieldLink RX1 138 "NightPlots$Told" "plots" "I") (List.mem_of_getElem? (i := 7) rfl)) (fun _ h9 => h9) rfl dX1_areOpposite_22 ?_
  refine jn1_at (fun (x3 : Int32) => ∀ (H : Heap) (locs : List Loc) (ls : Array Slot), va_P D vwCl (cStand Y aS (hT 0) vS gS ++ cTold Y hT tT) H → va_S A s.heap H locs → lv_has ls 3 [] → W p l e (headSpec wsX1_areOpposite rmX1_areOpposite).room s m ([.ref (aS 0), .int i1, .int i2] : List Value).toArray below meth c H locs 0 0 QQ (F0 m 33 ls [.int x3])) hM (fun x3 hM H locs ls hP hS hl => ?_) (fun k4 hJ4 hM => ?_)
  · obtain ⟨hz5, hM⟩ := chkB_at hM
    cases hM
    rw [hQQ]
    exact W.zret (ty := .boolean) hx hb hr hz5 (fun t ht hW => ⟨⟨_, (), rfl, rfl, by show va_P D vwCl _ t.heap; rw [ht]; exact hP⟩, hS.F ht⟩) hS.2.2 dX1_areOpposite_33
  · refine lv_icmp_ne (tgt := 32) hx hb dX1_areOpposite_25 (by decide) (fun c6 => ?_) (fun c6 => ?_)
    · replace hM := if_at_neg hM c6
      refine lv_iconst (v := (0 : Int32)) hx hb dX1_areOpposite_32 (by decide) ?_
      exact hJ4 (0 : Int32) hM H locs ls hP hS (lv_sub hl [] rfl)
    · replace hM := if_at_pos hM c6
      refine lv_iconst (v := (1 : Int32)) hx hb dX1_areOpposite_28 (by decide) ?_
      refine lv_goto (tgt := 33) hx hb dX1_areOpposite_29 (by decide) ?_
      exact hJ4 (1 : Int32) hM H locs ls hP hS (lv_sub hl [] rfl)
noncomputable def MX1_meets (gS : GS) (tT : GS) (i1 : Int32) (i2 : Int32) (i3 : Int32) : Option (Int32) := jn1 (fun (x1 : Int32) => chkB x1 (some (x1))) (fun k2 => if i3 = 0 then (bnd1 (MX1_areBeside gS tT i1 i2) fun (r7 : Int32) => k2 r7) else (bnd1 (MX1_areOpposite gS tT i1 i2) fun (r5 : Int32) => k2 r5))
abbrev rmX1_meets : Room := { frames := 5, cells := 0, slots := 0, locals := 200 }
set_option maxHeartbeats 4000000 in
set_option maxRecDepth 100000 in
theorem ctX1_meets (l : Launch) (D : va_G) (Y : Nat → ClassId) (aS : Nat → Nat) (hT : Nat → Nat) (vS : Nat) (sz : Nat) (gS : GS) (tT : GS) (i1 : Int32) (i2 : Int32) (i3 : Int32) (rr : Int32) (hM : MX1_meets gS tT i1 i2 i3 = some (rr)) : Met l yX1_meets wsX1_meets rmX1_meets (pcW [.ref (aS 0), .int i1, .int i2, .int i3] sz D Y (cStand Y aS (hT 0) vS gS ++ cTold Y hT tT)) (qiW rr D (cStand Y aS (hT 0) vS gS ++ cTold Y hT tT) (va_A (cStand Y aS (hT 0) vS gS ++ cTold Y hT tT) sz)) 0 0 (va_A (cStand Y aS (hT 0) vS gS ++ cTold Y hT tT) sz) := by
  refine Met.ofW (cc := cX1_meets) (maxL := 4) (ret := (some .boolean)) (by decide) rfl ?_
  intro p e s m args below meth c s₁ B hml hv
  obtain ⟨rfl, hsz, hP, hK, hD0⟩ := hv
  have hx := B.exec
  have hb := B.bytes
  have hr := B.returns
  have hts := atoms_spec (ws := wsX1_meets) B.pre
  have hown : s.vm.findClass RX1 = some m.cls := findClass_of_methodNamed B.named
  have hlocks := B.notSynchronized
  subst hsz
  have hD := hD0.self (sz := s.heap.size)
  generalize hAe : va_A (cStand Y aS (hT 0) vS gS ++ cTold Y hT tT) s.heap.size = A at hD ⊢
  have hA : ∀ q : Nat, s.heap.size ≤ q → A q := fun q h => by rw [← hAe]; exact Or.inr h
  have hS : va_S A s.heap s.heap [] := va_S.rf
  have hl := lv_entry ([.ref (aS 0), .int i1, .int i2, .int i3]) (n := 4) (Nat.le_of_ble_eq_true rfl)
  rw [lg_entry_eq]
  generalize (lg_sl ([.ref (aS 0), .int i1, .int i2, .int i3]) ++ List.replicate (4 - (lg_sl ([.ref (aS 0), .int i1, .int i2, .int i3])).length) Slot.unset).toArray = ls at hl ⊢
  have hl : lv_has ls 4 [(0, .ref (aS 0)), (1, .int i1), (2, .int i2), (3, .int i3)] := hl
  obtain ⟨QQ, hQQ⟩ : ∃ Q : State → Prop, Q = MQ below (qiW rr D (cStand Y aS (hT 0) vS gS ++ cTold Y hT tT) A) ([.ref (aS 0), .int i1, .int i2, .int i3] : List Value).toArray s 0 0 A := ⟨_, rfl⟩
  rw [← hQQ]
  unfold MX1_meets at hM
  suffices hI : ∀ (H : Heap) (locs : List Loc), va_P D vwCl (cStand Y aS (hT 0) vS gS ++ cTold Y hT tT) H → va_S A s.heap H locs → W p l e (headSpec wsX1_meets rmX1_meets).room s m ([.ref (aS 0), .int i1, .int i2, .int i3] : List Value).toArray below meth c H locs 0 0 QQ (F0 m 0 ls []) from hI _ _ hP hS
  clear hP hS
  intro H locs hP hS
  refine lv_iload_n hx hb dX1_meets_0 rfl (lv_at hl 3 rfl) ?_
  refine jn1_at (fun (x1 : Int32) => ∀ (H : Heap) (locs : List Loc) (ls : Array Slot), va_P D vwCl (cStand Y aS (hT 0) vS gS ++ cTold Y hT tT) H → va_S A s.heap H locs → lv_has ls 4 [] → W p l e (headSpec wsX1_meets rmX1_meets).room s m ([.ref (aS 0), .int i1, .int i2, .int i3] : List Value).toArray below meth c H locs 0 0 QQ (F0 m 19 ls [.int x1])) hM (fun x1 hM H locs ls hP hS hl => ?_) (fun k2 hJ2 hM => ?_)
  · obtain ⟨hz3, hM⟩ := chkB_at hM
    cases hM
    rw [hQQ]
    exact W.zret (ty := .boolean) hx hb hr hz3 (fun t ht hW => ⟨⟨_, (), rfl, rfl, by show va_P D vwCl _ t.heap; rw [ht]; exact hP⟩, hS.F ht⟩) hS.2.2 dX1_meets_19
  · refine lv_if_ne (tgt := 13) hx hb dX1_meets_1 (by decide) (fun c4 => ?_) (fun c4 => ?_)
    · replace hM := if_at_neg hM c4
      refine lv_aload_n hx hb dX1_meets_13 rfl (lv_at hl 0 rfl) ?_
      refine lv_iload_n hx hb dX1_meets_14 rfl (lv_at hl 1 rfl) ?_
      refine lv_iload_n hx hb dX1_meets_15 rfl (lv_at hl 2 rfl) ?_
      obtain ⟨r5, hc6, hM⟩ := bnd1_at hM
      refine co_i (va_runV (As := [.int i1, .int i2]) (rest := []) ⟨hx, hb, hml, hown, hts⟩ (ctX1_areOpposite l D Y aS hT vS H.size gS tT i1 i2 r5 hc6) (cwV 2 hts gX1_meets_X1_areOpposite rfl rfl rfl (by decide +kernel) ⟨Nat.le_of_ble_eq_true rfl, Nat.le_of_ble_eq_true rfl⟩) (pcW_V0 (ci := 1) (q0 := 0) hK hP (hD.same rfl) rfl rfl) rfl rfl hl.1 rfl (lv_room (Nat.le_of_ble_eq_true rfl)) dX1_meets_16 ⟨Nat.zero_le _, Nat.zero_le _⟩) (hD.same rfl) hS hA (fun H locs hP hS => ?_)
      exact hJ2 r5 hM H locs ls hP hS (lv_sub hl [] rfl)
    · replace hM := if_at_pos hM c4
      refine lv_aload_n hx hb dX1_meets_4 rfl (lv_at hl 0 rfl) ?_
      refine lv_iload_n hx hb dX1_meets_5 rfl (lv_at hl 1 rfl) ?_
      refine lv_iload_n hx hb dX1_meets_6 rfl (lv_at hl 2 rfl) ?_
      obtain ⟨r7, hc8, hM⟩ := bnd1_at hM
      refine co_i (va_runV (As := [.int i1, .int i2]) (rest := []) ⟨hx, hb, hml, hown, hts⟩ (ctX1_areBeside l D Y aS hT vS H.size gS tT i1 i2 r7 hc8) (cwV 2 hts gX1_meets_X1_areBeside rfl rfl rfl (by decide +kernel) ⟨Nat.le_of_ble_eq_true rfl, Nat.le_of_ble_eq_true rfl⟩) (pcW_V0 (ci := 1) (q0 := 0) hK hP (hD.same rfl) rfl rfl) rfl rfl hl.1 rfl (lv_room (Nat.le_of_ble_eq_true rfl)) dX1_meets_7 ⟨Nat.zero_le _, Nat.zero_le _⟩) (hD.same rfl) hS hA (fun H locs hP hS => ?_)
      refine lv_goto (tgt := 19) hx hb dX1_meets_10 (by decide) ?_
      exact hJ2 r7 hM H locs ls hP hS (lv_sub hl [] rfl)
noncomputable def BX1_hasFeudBeside_2 (tT : GS) (k1 : Option (Int32)) (gS : GS) (k2 : Option (Int32)) (rec4 : Int32 → Option (Int32)) (x3 : Int32) : Option (Int32) := if (tT 0 3) ≤ x3 then (k1) else (chkI x3 6 (chkI x3 6 (bnd1 (MX1_areBeside gS tT (tT 6 x3.toNatClampNeg) (tT 7 x3.toNatClampNeg)) fun (r8 : Int32) => if r8 = 0 then (nm (x3 + 1) fun (x11 : Int32) => rec4 x11) else (k2))))
noncomputable def MX1_hasFeudBeside (gS : GS) (tT : GS) : Option (Int32) := jn0 (some ((0 : Int32))) (fun k1 => jn0 (some ((1 : Int32))) (fun k2 => lq1 (BX1_hasFeudBeside_2 tT k1 gS k2) FU (0 : Int32)))
abbrev rmX1_hasFeudBeside : Room := { frames := 5, cells := 0, slots := 0, locals := 200 }
set_option maxHeartbeats 4000000 in
set_option maxRecDepth 100000 in
theorem ctX1_hasFeudBeside (l : Launch) (D : va_G) (Y : Nat → ClassId) (aS : Nat → Nat) (hT : Nat → Nat) (vS : Nat) (sz : Nat) (gS : GS) (tT : GS) (rr : Int32) (hM : MX1_hasFeudBeside gS tT = some (rr)) : Met l yX1_hasFeudBeside wsX1_hasFeudBeside rmX1_hasFeudBeside (pcW [.ref (aS 0)] sz D Y (cStand Y aS (hT 0) vS gS ++ cTold Y hT tT)) (qiW rr D (cStand Y aS (hT 0) vS gS ++ cTold Y hT tT) (va_A (cStand Y aS (hT 0) vS gS ++ cTold Y hT tT) sz)) 0 0 (va_A (cStand Y aS (hT 0) vS gS ++ cTold Y hT tT) sz) := by
  refine Met.ofW (cc := cX1_hasFeudBeside) (maxL := 2) (ret := (some .boolean)) (by decide) rfl ?_
  intro p e s m args below meth c s₁ B hml hv
  obtain ⟨rfl, hsz, hP, hK, hD0⟩ := hv
  have hx := B.exec
  have hb := B.bytes
  have hr := B.returns
  have hts := atoms_spec (ws := wsX1_hasFeudBeside) B.pre
  have hown : s.vm.findClass RX1 = some m.cls := findClass_of_methodNamed B.named
  have hlocks := B.notSynchronized
  subst hsz
  have hD := hD0.self (sz := s.heap.size)
  generalize hAe : va_A (cStand Y aS (hT 0) vS gS ++ cTold Y hT tT) s.heap.size = A at hD ⊢
  have hA : ∀ q : Nat, s.heap.size ≤ q → A q := fun q h => by rw [← hAe]; exact Or.inr h
  have hS : va_S A s.heap s.heap [] := va_S.rf
  have hi1 : ∀ w ∈ wsX10, w ∈ wsX1_hasFeudBeside := fun w h => List.mem_cons_of_mem _ (List.mem_append_left _ (List.mem_append_right _ h))
  have hi3 : ∀ w ∈ wsX30, w ∈ wsX1_hasFeudBeside := fun w h => List.mem_cons_of_mem _ (List.mem_append_right _ h)
  have hl := lv_entry ([.ref (aS 0)]) (n := 2) (Nat.le_of_ble_eq_true rfl)
  rw [lg_entry_eq]
  generalize (lg_sl ([.ref (aS 0)]) ++ List.replicate (2 - (lg_sl ([.ref (aS 0)])).length) Slot.unset).toArray = ls at hl ⊢
  have hl : lv_has ls 2 [(0, .ref (aS 0))] := hl
  obtain ⟨QQ, hQQ⟩ : ∃ Q : State → Prop, Q = MQ below (qiW rr D (cStand Y aS (hT 0) vS gS ++ cTold Y hT tT) A) ([.ref (aS 0)] : List Value).toArray s 0 0 A := ⟨_, rfl⟩
  rw [← hQQ]
  unfold MX1_hasFeudBeside at hM
  suffices hI : ∀ (H : Heap) (locs : List Loc), va_P D vwCl (cStand Y aS (hT 0) vS gS ++ cTold Y hT tT) H → va_S A s.heap H locs → W p l e (headSpec wsX1_hasFeudBeside rmX1_hasFeudBeside).room s m ([.ref (aS 0)] : List Value).toArray below meth c H locs 0 0 QQ (F0 m 0 ls []) from hI _ _ hP hS
  clear hP hS
  intro H locs hP hS
  refine lv_iconst (v := (0 : Int32)) hx hb dX1_hasFeudBeside_0 (by decide) ?_
  refine lv_istore_n (lv' := [(1, .int (0 : Int32)), (0, .ref (aS 0))]) hx hb dX1_hasFeudBeside_1 rfl hl (by decide) rfl (fun ls hl => ?_)
  refine jn0_at (∀ (H : Heap) (locs : List Loc) (ls : Array Slot), va_P D vwCl (cStand Y aS (hT 0) vS gS ++ cTold Y hT tT) H → va_S A s.heap H locs → lv_has ls 2 [] → W p l e (headSpec wsX1_hasFeudBeside rmX1_hasFeudBeside).room s m ([.ref (aS 0)] : List Value).toArray below meth c H locs 0 0 QQ (F0 m 46 ls [])) hM (fun  hM H locs ls hP hS hl => ?_) (fun k1 hJ1 hM => ?_)
  · refine lv_iconst (v := (0 : Int32)) hx hb dX1_hasFeudBeside_46 (by decide) ?_
    cases hM
    rw [hQQ]
    exact W.zret (ty := .boolean) hx hb hr rfl (fun t ht hW => ⟨⟨_, (), rfl, rfl, by show va_P D vwCl _ t.heap; rw [ht]; exact hP⟩, hS.F ht⟩) hS.2.2 dX1_hasFeudBeside_47
  · refine jn0_at (∀ (H : Heap) (locs : List Loc) (ls : Array Slot), va_P D vwCl (cStand Y aS (hT 0) vS gS ++ cTold Y hT tT) H → va_S A s.heap H locs → lv_has ls 2 [] → W p l e (headSpec wsX1_hasFeudBeside rmX1_hasFeudBeside).room s m ([.ref (aS 0)] : List Value).toArray below meth c H locs 0 0 QQ (F0 m 38 ls [])) hM (fun  hM H locs ls hP hS hl => ?_) (fun k2 hJ2 hM => ?_)
    · refine lv_iconst (v := (1 : Int32)) hx hb dX1_hasFeudBeside_38 (by decide) ?_
      cases hM
      rw [hQQ]
      exact W.zret (ty := .boolean) hx hb hr rfl (fun t ht hW => ⟨⟨_, (), rfl, rfl, by show va_P D vwCl _ t.heap; rw [ht]; exact hP⟩, hS.F ht⟩) hS.2.2 dX1_hasFeudBeside_39
    · refine lq1_at (fun (x3 : Int32) => ∀ (H : Heap) (locs : List Loc) (ls : Array Slot), va_P D vwCl (cStand Y aS (hT 0) vS gS ++ cTold Y hT tT) H → va_S A s.heap H locs → lv_has ls 2 [(0, .ref (aS 0)), (1, .int x3)] → W p l e (headSpec wsX1_hasFeudBeside rmX1_hasFeudBeside).room s m ([.ref (aS 0)] : List Value).toArray below meth c H locs 0 0 QQ (F0 m 2 ls [])) (fun rec4 x3 ih4 hM H locs ls hP hS hl => ?_) FU (0 : Int32) hM H locs ls hP hS (lv_sub hl [1, 0] rfl)
      unfold BX1_hasFeudBeside_2 at hM
      refine lv_iload_n hx hb dX1_hasFeudBeside_2 rfl (lv_at hl 1 rfl) ?_
      refine lv_aload_n hx hb dX1_hasFeudBeside_3 rfl (lv_at hl 0 rfl) ?_
      refine va_get hx hb hts hi1 hown hK hP 0 rfl rfl 0 (by decide) (hts (.fieldLink RX1 21 "NightPlots$Standing" "told" "LNightPlots$Told;") (List.mem_of_getElem? (i := 1) rfl)) (fun _ h9 => h9) rfl dX1_hasFeudBeside_4 ?_
      refine va_get hx hb hts hi3 hown hK hP 3 rfl rfl 3 (by decide) (hts (.fieldLink RX1 141 "NightPlots$Told" "feuds" "I") (List.mem_of_getElem? (i := 2) rfl)) (fun _ h9 => h9) rfl dX1_hasFeudBeside_7 ?_
      refine lv_icmp_ge (tgt := 46) hx hb dX1_hasFeudBeside_10 (by decide) (fun c5 => ?_) (fun c5 => ?_)
      · replace hM := if_at_pos hM c5
        exact hJ1 hM H locs ls hP hS (lv_sub hl [] rfl)
      · replace hM := if_at_neg hM c5
        refine lv_aload_n hx hb dX1_hasFeudBeside_13 rfl (lv_at hl 0 rfl) ?_
        refine lv_aload_n hx hb dX1_hasFeudBeside_14 rfl (lv_at hl 0 rfl) ?_
        refine va_get hx hb hts hi1 hown hK hP 0 rfl rfl 0 (by decide) (hts (.fieldLink RX1 21 "NightPlots$Standing" "told" "LNightPlots$Told;") (List.mem_of_getElem? (i := 1) rfl)) (fun _ h9 => h9) rfl dX1_hasFeudBeside_15 ?_
        refine va_get hx hb hts hi3 hown hK hP 3 rfl rfl 12 (by decide) (hts (.fieldLink RX1 144 "NightPlots$Told" "feudOne" "[I") (List.mem_of_getElem? (i := 3) rfl)) (fun _ h9 => h9) rfl dX1_hasFeudBeside_18 ?_
        refine lv_iload_n hx hb dX1_hasFeudBeside_21 rfl (lv_at hl 1 rfl) ?_
        obtain ⟨hi_6, hM⟩ := chkI_at hM
        refine va_iald hx hb hK hP 9 0 rfl rfl hi_6 dX1_hasFeudBeside_22 ?_
        refine lv_aload_n hx hb dX1_hasFeudBeside_23 rfl (lv_at hl 0 rfl) ?_
        refine va_get hx hb hts hi1 hown hK hP 0 rfl rfl 0 (by decide) (hts (.fieldLink RX1 21 "NightPlots$Standing" "told" "LNightPlots$Told;") (List.mem_of_getElem? (i := 1) rfl)) (fun _ h9 => h9) rfl dX1_hasFeudBeside_24 ?_
        refine va_get hx hb hts hi3 hown hK hP 3 rfl rfl 13 (by decide) (hts (.fieldLink RX1 147 "NightPlots$Told" "feudOther" "[I") (List.mem_of_getElem? (i := 4) rfl)) (fun _ h9 => h9) rfl dX1_hasFeudBeside_27 ?_
        refine lv_iload_n hx hb dX1_hasFeudBeside_30 rfl (lv_at hl 1 rfl) ?_
        obtain ⟨hi_7, hM⟩ := chkI_at hM
        refine va_iald hx hb hK hP 10 0 rfl rfl hi_7 dX1_hasFeudBeside_31 ?_
        obtain ⟨r8, hc9, hM⟩ := bnd1_at hM
        refine co_i (va_runV (As := [.int (tT 6 x3.toNatClampNeg), .int (tT 7 x3.toNatClampNeg)]) (rest := []) ⟨hx, hb, hml, hown, hts⟩ (ctX1_areBeside l D Y aS hT vS H.size gS tT (tT 6 x3.toNatClampNeg) (tT 7 x3.toNatClampNeg) r8 hc9) (cwV 2 hts gX1_hasFeudBeside_X1_areBeside rfl rfl rfl (by decide +kernel) ⟨Nat.le_of_ble_eq_true rfl, Nat.le_of_ble_eq_true rfl⟩) (pcW_V0 (ci := 1) (q0 := 0) hK hP (hD.same rfl) rfl rfl) rfl rfl hl.1 rfl (lv_room (Nat.le_of_ble_eq_true rfl)) dX1_hasFeudBeside_32 ⟨Nat.zero_le _, Nat.zero_le _⟩) (hD.same rfl) hS hA (fun H locs hP hS => ?_)
        refine lv_if_eq (tgt := 40) hx hb dX1_hasFeudBeside_35 (by decide) (fun c10 => ?_) (fun c10 => ?_)
        · replace hM := if_at_pos hM c10
          obtain ⟨x11, ex11⟩ : ∃ z : Int32, z = (x3 + 1) := ⟨_, rfl⟩
          replace hM := nm_at hM ex11
          refine lv_iinc (v := x11) (lv' := [(1, .int x11), (0, .ref (aS 0))]) hx hb dX1_hasFeudBeside_40 hl (k := 1) rfl (by rw [ex11]; rfl) (by decide) rfl (fun ls hl => ?_)
          refine lv_goto (tgt := 2) hx hb dX1_hasFeudBeside_43 (by decide) ?_
          exact ih4 x11 hM H locs ls hP hS (lv_sub hl [1, 0] rfl)
        · replace hM := if_at_neg hM c10
          exact hJ2 hM H locs ls hP hS (lv_sub hl [] rfl)
noncomputable def BX1_placesKey_4 (tT : GS) (k2 : Int64 → Option (Int64)) (gS : GS) (rec5 : Int64 → Int32 → Option (Int64)) (y3 : Int64) (x4 : Int32) : Option (Int64) := if (tT 0 1) ≤ x4 then (k2 y3) else (chkI x4 8 (nm ((y3 <<< ((4 : Int32).toInt64 &&& 63)) ||| ((gS 1 x4.toNatClampNeg).toInt64)) fun (y8 : Int64) => nm (x4 + 1) fun (x9 : Int32) => rec5 y8 x9))
noncomputable def MX1_placesKey (gS : GS) (tT : GS) : Option (Int64) := jn1 (fun (y1 : Int64) => some (y1)) (fun k2 => lq2 (BX1_placesKey_4 tT k2 gS) FU (0 : Int64) (0 : Int32))
abbrev rmX1_placesKey : Room := { frames := 1, cells := 0, slots := 0, locals := 40 }
set_option maxHeartbeats 4000000 in
set_option maxRecDepth 100000 in
theorem ctX1_placesKey (l : Launch) (D : va_G) (Y : Nat → ClassId) (aS : Nat → Nat) (hT : Nat → Nat) (vS : Nat) (sz : Nat) (gS : GS) (tT : GS) (rr : Int64) (hM : MX1_placesKey gS tT = some (rr)) : Met l yX1_placesKey wsX1_placesKey rmX1_placesKey (pcW [.ref (aS 0)] sz D Y (cStand Y aS (hT 0) vS gS ++ cTold Y hT tT)) (qlW rr D (cStand Y aS (hT 0) vS gS ++ cTold Y hT tT) (va_A (cStand Y aS (hT 0) vS gS ++ cTold Y hT tT) sz)) 0 0 (va_A (cStand Y aS (hT 0) vS gS ++ cTold Y hT tT) sz) := by
  refine Met.ofW (cc := cX1_placesKey) (maxL := 4) (ret := (some .long)) (by decide) rfl ?_
  intro p e s m args below meth c s₁ B hml hv
  obtain ⟨rfl, hsz, hP, hK, hD0⟩ := hv
  have hx := B.exec
  have hb := B.bytes
  have hr := B.returns
  have hts := atoms_spec (ws := wsX1_placesKey) B.pre
  have hown : s.vm.findClass RX1 = some m.cls := findClass_of_methodNamed B.named
  have hlocks := B.notSynchronized
  subst hsz
  have hD := hD0.self (sz := s.heap.size)
  generalize hAe : va_A (cStand Y aS (hT 0) vS gS ++ cTold Y hT tT) s.heap.size = A at hD ⊢
  have hA : ∀ q : Nat, s.heap.size ≤ q → A q := fun q h => by rw [← hAe]; exact Or.inr h
  have hS : va_S A s.heap s.heap [] := va_S.rf
  have hi1 : ∀ w ∈ wsX10, w ∈ wsX1_placesKey := fun w h => List.mem_cons_of_mem _ (List.mem_append_left _ (List.mem_append_right _ h))
  have hi3 : ∀ w ∈ wsX30, w ∈ wsX1_placesKey := fun w h => List.mem_cons_of_mem _ (List.mem_append_right _ h)
  have hl := lv_entry ([.ref (aS 0)]) (n := 4) (Nat.le_of_ble_eq_true rfl)
  rw [lg_entry_eq]
  generalize (lg_sl ([.ref (aS 0)]) ++ List.replicate (4 - (lg_sl ([.ref (aS 0)])).length) Slot.unset).toArray = ls at hl ⊢
  have hl : lv_has ls 4 [(0, .ref (aS 0))] := hl
  obtain ⟨QQ, hQQ⟩ : ∃ Q : State → Prop, Q = MQ below (qlW rr D (cStand Y aS (hT 0) vS gS ++ cTold Y hT tT) A) ([.ref (aS 0)] : List Value).toArray s 0 0 A := ⟨_, rfl⟩
  rw [← hQQ]
  unfold MX1_placesKey at hM
  suffices hI : ∀ (H : Heap) (locs : List Loc), va_P D vwCl (cStand Y aS (hT 0) vS gS ++ cTold Y hT tT) H → va_S A s.heap H locs → W p l e (headSpec wsX1_placesKey rmX1_placesKey).room s m ([.ref (aS 0)] : List Value).toArray below meth c H locs 0 0 QQ (F0 m 0 ls []) from hI _ _ hP hS
  clear hP hS
  intro H locs hP hS
  refine lv_lconst (v := (0 : Int64)) hx hb dX1_placesKey_0 (by decide) ?_
  refine lv_lstore_n (lv' := [(1, .long (0 : Int64)), (0, .ref (aS 0))]) hx hb dX1_placesKey_1 rfl hl (by decide) rfl (fun ls hl => ?_)
  refine lv_iconst (v := (0 : Int32)) hx hb dX1_placesKey_2 (by decide) ?_
  refine lv_istore_n (lv' := [(3, .int (0 : Int32)), (1, .long (0 : Int64)), (0, .ref (aS 0))]) hx hb dX1_placesKey_3 rfl hl (by decide) rfl (fun ls hl => ?_)
  refine jn1_at (fun (y1 : Int64) => ∀ (H : Heap) (locs : List Loc) (ls : Array Slot), va_P D vwCl (cStand Y aS (hT 0) vS gS ++ cTold Y hT tT) H → va_S A s.heap H locs → lv_has ls 4 [(1, .long y1)] → W p l e (headSpec wsX1_placesKey rmX1_placesKey).room s m ([.ref (aS 0)] : List Value).toArray below meth c H locs 0 0 QQ (F0 m 33 ls [])) hM (fun y1 hM H locs ls hP hS hl => ?_) (fun k2 hJ2 hM => ?_)
  · refine lv_lload_n hx hb dX1_placesKey_33 rfl (lv_at hl 0 rfl) ?_
    cases hM
    rw [hQQ]
    exact W.lret hx hb hr (fun t ht hW => ⟨⟨_, (), rfl, rfl, by show va_P D vwCl _ t.heap; rw [ht]; exact hP⟩, hS.F ht⟩) hS.2.2 dX1_placesKey_34
  · refine lq2_at (fun (y3 : Int64) (x4 : Int32) => ∀ (H : Heap) (locs : List Loc) (ls : Array Slot), va_P D vwCl (cStand Y aS (hT 0) vS gS ++ cTold Y hT tT) H → va_S A s.heap H locs → lv_has ls 4 [(0, .ref (aS 0)), (1, .long y3), (3, .int x4)] → W p l e (headSpec wsX1_placesKey rmX1_placesKey).room s m ([.ref (aS 0)] : List Value).toArray below meth c H locs 0 0 QQ (F0 m 4 ls [])) (fun rec5 y3 x4 ih5 hM H locs ls hP hS hl => ?_) FU (0 : Int64) (0 : Int32) hM H locs ls hP hS (lv_sub hl [2, 1, 0] rfl)
    unfold BX1_placesKey_4 at hM
    refine lv_iload_n hx hb dX1_placesKey_4 rfl (lv_at hl 2 rfl) ?_
    refine lv_aload_n hx hb dX1_placesKey_5 rfl (lv_at hl 0 rfl) ?_
    refine va_get hx hb hts hi1 hown hK hP 0 rfl rfl 0 (by decide) (hts (.fieldLink RX1 21 "NightPlots$Standing" "told" "LNightPlots$Told;") (List.mem_of_getElem? (i := 1) rfl)) (fun _ h9 => h9) rfl dX1_placesKey_6 ?_
    refine va_get hx hb hts hi3 hown hK hP 3 rfl rfl 1 (by decide) (hts (.fieldLink RX1 70 "NightPlots$Told" "houses" "I") (List.mem_of_getElem? (i := 2) rfl)) (fun _ h9 => h9) rfl dX1_placesKey_9 ?_
    refine lv_icmp_ge (tgt := 33) hx hb dX1_placesKey_12 (by decide) (fun c6 => ?_) (fun c6 => ?_)
    · replace hM := if_at_pos hM c6
      exact hJ2 y3 hM H locs ls hP hS (lv_sub hl [1] rfl)
    · replace hM := if_at_neg hM c6
      refine lv_lload_n hx hb dX1_placesKey_15 rfl (lv_at hl 1 rfl) ?_
      refine lv_iconst (v := (4 : Int32)) hx hb dX1_placesKey_16 (by decide) ?_
      refine lv_lshl (v := (y3 <<< ((4 : Int32).toInt64 &&& 63))) hx hb dX1_placesKey_17 rfl ?_
      refine lv_aload_n hx hb dX1_placesKey_18 rfl (lv_at hl 0 rfl) ?_
      refine va_get hx hb hts hi1 hown hK hP 0 rfl rfl 1 (by decide) (hts (.fieldLink RX1 9 "NightPlots$Standing" "place" "[I") (List.mem_of_getElem? (i := 3) rfl)) (fun _ h9 => h9) rfl dX1_placesKey_19 ?_
      refine lv_iload_n hx hb dX1_placesKey_22 rfl (lv_at hl 2 rfl) ?_
      obtain ⟨hi_7, hM⟩ := chkI_at hM
      refine va_iald hx hb hK hP 1 0 rfl rfl hi_7 dX1_placesKey_23 ?_
      refine lv_i2l (v := (gS 1 x4.toNatClampNeg).toInt64) hx hb dX1_placesKey_24 rfl ?_
      refine lv_lor hx hb dX1_placesKey_25 ?_
      refine lv_topl (fun y8 ey8 => ?_)
      replace hM := nm_at hM ey8
      refine lv_lstore_n (lv' := [(1, .long y8), (0, .ref (aS 0)), (3, .int x4)]) hx hb dX1_placesKey_26 rfl hl (by decide) rfl (fun ls hl => ?_)
      obtain ⟨x9, ex9⟩ : ∃ z : Int32, z = (x4 + 1) := ⟨_, rfl⟩
      replace hM := nm_at hM ex9
      refine lv_iinc (v := x9) (lv' := [(3, .int x9), (1, .long y8), (0, .ref (aS 0))]) hx hb dX1_placesKey_27 hl (k := 2) rfl (by rw [ex9]; rfl) (by decide) rfl (fun ls hl => ?_)
      refine lv_goto (tgt := 4) hx hb dX1_placesKey_30 (by decide) ?_
      exact ih5 y8 x9 hM H locs ls hP hS (lv_sub hl [2, 1, 0] rfl)
noncomputable def BX1_restRank_4 (tT : GS) (k2 : Int32 → Option (Int32)) (i1 : Int32) (gS : GS) (rec5 : Int32 → Int32 → Option (Int32)) (x3 : Int32) (x4 : Int32) : Option (Int32) := if (tT 0 1) ≤ x4 then (k2 x3) else (chkI x4 8 (chkI i1 8 (jn1 (fun (x9 : Int32) => nm (x4 + 1) fun (x11 : Int32) => rec5 x9 x11) (fun k10 => if (gS 2 i1.toNatClampNeg) ≤ (gS 2 x4.toNatClampNeg) then (k10 x3) else (nm (x3 + 1) fun (x13 : Int32) => k10 x13)))))
noncomputable def MX1_restRank (gS : GS) (tT : GS) (i1 : Int32) : Option (Int32) := jn1 (fun (x1 : Int32) => some (x1)) (fun k2 => lq2 (BX1_restRank_4 tT k2 i1 gS) FU (0 : Int32) (0 : Int32))
abbrev rmX1_restRank : Room := { frames := 1, cells := 0, slots := 0, locals := 40 }
set_option maxHeartbeats 4000000 in
set_option maxRecDepth 100000 in
theorem ctX1_restRank (l : Launch) (D : va_G) (Y : Nat → ClassId) (aS : Nat → Nat) (hT : Nat → Nat) (vS : Nat) (sz : Nat) (gS : GS) (tT : GS) (i1 : Int32) (rr : Int32) (hM : MX1_restRank gS tT i1 = some (rr)) : Met l yX1_restRank wsX1_restRank rmX1_restRank (pcW [.ref (aS 0), .int i1] sz D Y (cStand Y aS (hT 0) vS gS ++ cTold Y hT tT)) (qiW rr D (cStand Y aS (hT 0) vS gS ++ cTold Y hT tT) (va_A (cStand Y aS (hT 0) vS gS ++ cTold Y hT tT) sz)) 0 0 (va_A (cStand Y aS (hT 0) vS gS ++ cTold Y hT tT) sz) := by
  refine Met.ofW (cc := cX1_restRank) (maxL := 4) (ret := (some .int)) (by decide) rfl ?_
  intro p e s m args below meth c s₁ B hml hv
  obtain ⟨rfl, hsz, hP, hK, hD0⟩ := hv
  have hx := B.exec
  have hb := B.bytes
  have hr := B.returns
  have hts := atoms_spec (ws := wsX1_restRank) B.pre
  have hown : s.vm.findClass RX1 = some m.cls := findClass_of_methodNamed B.named
  have hlocks := B.notSynchronized
  subst hsz
  have hD := hD0.self (sz := s.heap.size)
  generalize hAe : va_A (cStand Y aS (hT 0) vS gS ++ cTold Y hT tT) s.heap.size = A at hD ⊢
  have hA : ∀ q : Nat, s.heap.size ≤ q → A q := fun q h => by rw [← hAe]; exact Or.inr h
  have hS : va_S A s.heap s.heap [] := va_S.rf
  have hi1 : ∀ w ∈ wsX10, w ∈ wsX1_restRank := fun w h => List.mem_cons_of_mem _ (List.mem_append_left _ (List.mem_append_right _ h))
  have hi3 : ∀ w ∈ wsX30, w ∈ wsX1_restRank := fun w h => List.mem_cons_of_mem _ (List.mem_append_right _ h)
  have hl := lv_entry ([.ref (aS 0), .int i1]) (n := 4) (Nat.le_of_ble_eq_true rfl)
  rw [lg_entry_eq]
  generalize (lg_sl ([.ref (aS 0), .int i1]) ++ List.replicate (4 - (lg_sl ([.ref (aS 0), .int i1])).length) Slot.unset).toArray = ls at hl ⊢
  have hl : lv_has ls 4 [(0, .ref (aS 0)), (1, .int i1)] := hl
  obtain ⟨QQ, hQQ⟩ : ∃ Q : State → Prop, Q = MQ below (qiW rr D (cStand Y aS (hT 0) vS gS ++ cTold Y hT tT) A) ([.ref (aS 0), .int i1] : List Value).toArray s 0 0 A := ⟨_, rfl⟩
  rw [← hQQ]
  unfold MX1_restRank at hM
  suffices hI : ∀ (H : Heap) (locs : List Loc), va_P D vwCl (cStand Y aS (hT 0) vS gS ++ cTold Y hT tT) H → va_S A s.heap H locs → W p l e (headSpec wsX1_restRank rmX1_restRank).room s m ([.ref (aS 0), .int i1] : List Value).toArray below meth c H locs 0 0 QQ (F0 m 0 ls []) from hI _ _ hP hS
  clear hP hS
  intro H locs hP hS
  refine lv_iconst (v := (0 : Int32)) hx hb dX1_restRank_0 (by decide) ?_
  refine lv_istore_n (lv' := [(2, .int (0 : Int32)), (0, .ref (aS 0)), (1, .int i1)]) hx hb dX1_restRank_1 rfl hl (by decide) rfl (fun ls hl => ?_)
  refine lv_iconst (v := (0 : Int32)) hx hb dX1_restRank_2 (by decide) ?_
  refine lv_istore_n (lv' := [(3, .int (0 : Int32)), (2, .int (0 : Int32)), (0, .ref (aS 0)), (1, .int i1)]) hx hb dX1_restRank_3 rfl hl (by decide) rfl (fun ls hl => ?_)
  refine jn1_at (fun (x1 : Int32) => ∀ (H : Heap) (locs : List Loc) (ls : Array Slot), va_P D vwCl (cStand Y aS (hT 0) vS gS ++ cTold Y hT tT) H → va_S A s.heap H locs → lv_has ls 4 [(2, .int x1)] → W p l e (headSpec wsX1_restRank rmX1_restRank).room s m ([.ref (aS 0), .int i1] : List Value).toArray below meth c H locs 0 0 QQ (F0 m 39 ls [])) hM (fun x1 hM H locs ls hP hS hl => ?_) (fun k2 hJ2 hM => ?_)
  · refine lv_iload_n hx hb dX1_restRank_39 rfl (lv_at hl 0 rfl) ?_
    cases hM
    rw [hQQ]
    exact W.iret hx hb hr (fun t ht hW => ⟨⟨_, (), rfl, rfl, by show va_P D vwCl _ t.heap; rw [ht]; exact hP⟩, hS.F ht⟩) hS.2.2 dX1_restRank_40
  · refine lq2_at (fun (x3 : Int32) (x4 : Int32) => ∀ (H : Heap) (locs : List Loc) (ls : Array Slot), va_P D vwCl (cStand Y aS (hT 0) vS gS ++ cTold Y hT tT) H → va_S A s.heap H locs → lv_has ls 4 [(0, .ref (aS 0)), (1, .int i1), (2, .int x3), (3, .int x4)] → W p l e (headSpec wsX1_restRank rmX1_restRank).room s m ([.ref (aS 0), .int i1] : List Value).toArray below meth c H locs 0 0 QQ (F0 m 4 ls [])) (fun rec5 x3 x4 ih5 hM H locs ls hP hS hl => ?_) FU (0 : Int32) (0 : Int32) hM H locs ls hP hS (lv_sub hl [2, 3, 1, 0] rfl)
    unfold BX1_restRank_4 at hM
    refine lv_iload_n hx hb dX1_restRank_4 rfl (lv_at hl 3 rfl) ?_
    refine lv_aload_n hx hb dX1_restRank_5 rfl (lv_at hl 0 rfl) ?_
    refine va_get hx hb hts hi1 hown hK hP 0 rfl rfl 0 (by decide) (hts (.fieldLink RX1 21 "NightPlots$Standing" "told" "LNightPlots$Told;") (List.mem_of_getElem? (i := 1) rfl)) (fun _ h9 => h9) rfl dX1_restRank_6 ?_
    refine va_get hx hb hts hi3 hown hK hP 3 rfl rfl 1 (by decide) (hts (.fieldLink RX1 70 "NightPlots$Told" "houses" "I") (List.mem_of_getElem? (i := 2) rfl)) (fun _ h9 => h9) rfl dX1_restRank_9 ?_
    refine lv_icmp_ge (tgt := 39) hx hb dX1_restRank_12 (by decide) (fun c6 => ?_) (fun c6 => ?_)
    · replace hM := if_at_pos hM c6
      exact hJ2 x3 hM H locs ls hP hS (lv_sub hl [2] rfl)
    · replace hM := if_at_neg hM c6
      refine lv_aload_n hx hb dX1_restRank_15 rfl (lv_at hl 0 rfl) ?_
      refine va_get hx hb hts hi1 hown hK hP 0 rfl rfl 2 (by decide) (hts (.fieldLink RX1 15 "NightPlots$Standing" "rolled" "[I") (List.mem_of_getElem? (i := 3) rfl)) (fun _ h9 => h9) rfl dX1_restRank_16 ?_
      refine lv_iload_n hx hb dX1_restRank_19 rfl (lv_at hl 3 rfl) ?_
      obtain ⟨hi_7, hM⟩ := chkI_at hM
      refine va_iald hx hb hK hP 2 0 rfl rfl hi_7 dX1_restRank_20 ?_
      refine lv_aload_n hx hb dX1_restRank_21 rfl (lv_at hl 0 rfl) ?_
      refine va_get hx hb hts hi1 hown hK hP 0 rfl rfl 2 (by decide) (hts (.fieldLink RX1 15 "NightPlots$Standing" "rolled" "[I") (List.mem_of_getElem? (i := 3) rfl)) (fun _ h9 => h9) rfl dX1_restRank_22 ?_
      refine lv_iload_n hx hb dX1_restRank_25 rfl (lv_at hl 1 rfl) ?_
      obtain ⟨hi_8, hM⟩ := chkI_at hM
      refine va_iald hx hb hK hP 2 0 rfl rfl hi_8 dX1_restRank_26 ?_
      refine jn1_at (fun (x9 : Int32) => ∀ (H : Heap) (locs : List Loc) (ls : Array Slot), va_P D vwCl (cStand Y aS (hT 0) vS gS ++ cTold Y hT tT) H → va_S A s.heap H locs → lv_has ls 4 [(0, .ref (aS 0)), (1, .int i1), (2, .int x9), (3, .int x4)] → W p l e (headSpec wsX1_restRank rmX1_restRank).room s m ([.ref (aS 0), .int i1] : List Value).toArray below meth c H locs 0 0 QQ (F0 m 33 ls [])) hM (fun x9 hM H locs ls hP hS hl => ?_) (fun k10 hJ10 hM => ?_)
      · obtain ⟨x11, ex11⟩ : ∃ z : Int32, z = (x4 + 1) := ⟨_, rfl⟩
        replace hM := nm_at hM ex11
        refine lv_iinc (v := x11) (lv' := [(3, .int x11), (0, .ref (aS 0)), (1, .int i1), (2, .int x9)]) hx hb dX1_restRank_33 hl (k := 3) rfl (by rw [ex11]; rfl) (by decide) rfl (fun ls hl => ?_)
        refine lv_goto (tgt := 4) hx hb dX1_restRank_36 (by decide) ?_
        exact ih5 x9 x11 hM H locs ls hP hS (lv_sub hl [1, 2, 3, 0] rfl)
      · refine lv_icmp_ge (tgt := 33) hx hb dX1_restRank_27 (by decide) (fun c12 => ?_) (fun c12 => ?_)
        · replace hM := if_at_pos hM c12
          exact hJ10 x3 hM H locs ls hP hS (lv_sub hl [0, 1, 2, 3] rfl)
        · replace hM := if_at_neg hM c12
          obtain ⟨x13, ex13⟩ : ∃ z : Int32, z = (x3 + 1) := ⟨_, rfl⟩
          replace hM := nm_at hM ex13
          refine lv_iinc (v := x13) (lv' := [(2, .int x13), (0, .ref (aS 0)), (1, .int i1), (3, .int x4)]) hx hb dX1_restRank_30 hl (k := 2) rfl (by rw [ex13]; rfl) (by decide) rfl (fun ls hl => ?_)
          exact hJ10 x13 hM H locs ls hP hS (lv_sub hl [1, 2, 0, 3] rfl)
noncomputable def BX1_restKey_5 (tT : GS) (k2 : Int64 → Option (Int64)) (gS : GS) (rec5 : Int64 → Int32 → Option (Int64)) (y3 : Int64) (x4 : Int32) : Option (Int64) := if (tT 0 1) ≤ x4 then (k2 y3) else (bnd1 (MX1_restRank gS tT x4) fun (r7 : Int32) => nm ((y3 <<< ((3 : Int32).toInt64 &&& 63)) ||| (r7.toInt64)) fun (y9 : Int64) => nm (x4 + 1) fun (x10 : Int32) => rec5 y9 x10)
noncomputable def MX1_restKey (gS : GS) (tT : GS) (i1 : Int64) : Option (Int64) := jn1 (fun (y1 : Int64) => some (y1)) (fun k2 => lq2 (BX1_restKey_5 tT k2 gS) FU i1 (0 : Int32))
abbrev rmX1_restKey : Room := { frames := 2, cells := 0, slots := 0, locals := 80 }
set_option maxHeartbeats 4000000 in
set_option maxRecDepth 100000 in
theorem ctX1_restKey (l : Launch) (D : va_G) (Y : Nat → ClassId) (aS : Nat → Nat) (hT : Nat → Nat) (vS : Nat) (sz : Nat) (gS : GS) (tT : GS) (i1 : Int64) (rr : Int64) (hM : MX1_restKey gS tT i1 = some (rr)) : Met l yX1_restKey wsX1_restKey rmX1_restKey (pcW [.ref (aS 0), .long i1] sz D Y (cStand Y aS (hT 0) vS gS ++ cTold Y hT tT)) (qlW rr D (cStand Y aS (hT 0) vS gS ++ cTold Y hT tT) (va_A (cStand Y aS (hT 0) vS gS ++ cTold Y hT tT) sz)) 0 0 (va_A (cStand Y aS (hT 0) vS gS ++ cTold Y hT tT) sz) := by
  refine Met.ofW (cc := cX1_restKey) (maxL := 6) (ret := (some .long)) (by decide) rfl ?_
  intro p e s m args below meth c s₁ B hml hv
  obtain ⟨rfl, hsz, hP, hK, hD0⟩ := hv
  have hx := B.exec
  have hb := B.bytes
  have hr := B.returns
  have hts := atoms_spec (ws := wsX1_restKey) B.pre
  have hown : s.vm.findClass RX1 = some m.cls := findClass_of_methodNamed B.named
  have hlocks := B.notSynchronized
  subst hsz
  have hD := hD0.self (sz := s.heap.size)
  generalize hAe : va_A (cStand Y aS (hT 0) vS gS ++ cTold Y hT tT) s.heap.size = A at hD ⊢
  have hA : ∀ q : Nat, s.heap.size ≤ q → A q := fun q h => by rw [← hAe]; exact Or.inr h
  have hS : va_S A s.heap s.heap [] := va_S.rf
  have hi1 : ∀ w ∈ wsX10, w ∈ wsX1_restKey := fun w h => List.mem_cons_of_mem _ (List.mem_append_left _ (List.mem_append_right _ h))
  have hi3 : ∀ w ∈ wsX30, w ∈ wsX1_restKey := fun w h => List.mem_cons_of_mem _ (List.mem_append_right _ h)
  have hl := lv_entry ([.ref (aS 0), .long i1]) (n := 6) (Nat.le_of_ble_eq_true rfl)
  rw [lg_entry_eq]
  generalize (lg_sl ([.ref (aS 0), .long i1]) ++ List.replicate (6 - (lg_sl ([.ref (aS 0), .long i1])).length) Slot.unset).toArray = ls at hl ⊢
  have hl : lv_has ls 6 [(0, .ref (aS 0)), (1, .long i1)] := hl
  obtain ⟨QQ, hQQ⟩ : ∃ Q : State → Prop, Q = MQ below (qlW rr D (cStand Y aS (hT 0) vS gS ++ cTold Y hT tT) A) ([.ref (aS 0), .long i1] : List Value).toArray s 0 0 A := ⟨_, rfl⟩
  rw [← hQQ]
  unfold MX1_restKey at hM
  suffices hI : ∀ (H : Heap) (locs : List Loc), va_P D vwCl (cStand Y aS (hT 0) vS gS ++ cTold Y hT tT) H → va_S A s.heap H locs → W p l e (headSpec wsX1_restKey rmX1_restKey).room s m ([.ref (aS 0), .long i1] : List Value).toArray below meth c H locs 0 0 QQ (F0 m 0 ls []) from hI _ _ hP hS
  clear hP hS
  intro H locs hP hS
  refine lv_lload_n hx hb dX1_restKey_0 rfl (lv_at hl 1 rfl) ?_
  refine lv_lstore_n (lv' := [(3, .long i1), (0, .ref (aS 0)), (1, .long i1)]) hx hb dX1_restKey_1 rfl hl (by decide) rfl (fun ls hl => ?_)
  refine lv_iconst (v := (0 : Int32)) hx hb dX1_restKey_2 (by decide) ?_
  refine lv_istore (lv' := [(5, .int (0 : Int32)), (3, .long i1), (0, .ref (aS 0)), (1, .long i1)]) hx hb dX1_restKey_3 hl (by decide) rfl (fun ls hl => ?_)
  refine jn1_at (fun (y1 : Int64) => ∀ (H : Heap) (locs : List Loc) (ls : Array Slot), va_P D vwCl (cStand Y aS (hT 0) vS gS ++ cTold Y hT tT) H → va_S A s.heap H locs → lv_has ls 6 [(3, .long y1)] → W p l e (headSpec wsX1_restKey rmX1_restKey).room s m ([.ref (aS 0), .long i1] : List Value).toArray below meth c H locs 0 0 QQ (F0 m 35 ls [])) hM (fun y1 hM H locs ls hP hS hl => ?_) (fun k2 hJ2 hM => ?_)
  · refine lv_lload_n hx hb dX1_restKey_35 rfl (lv_at hl 0 rfl) ?_
    cases hM
    rw [hQQ]
    exact W.lret hx hb hr (fun t ht hW => ⟨⟨_, (), rfl, rfl, by show va_P D vwCl _ t.heap; rw [ht]; exact hP⟩, hS.F ht⟩) hS.2.2 dX1_restKey_36
  · refine lq2_at (fun (y3 : Int64) (x4 : Int32) => ∀ (H : Heap) (locs : List Loc) (ls : Array Slot), va_P D vwCl (cStand Y aS (hT 0) vS gS ++ cTold Y hT tT) H → va_S A s.heap H locs → lv_has ls 6 [(0, .ref (aS 0)), (3, .long y3), (5, .int x4)] → W p l e (headSpec wsX1_restKey rmX1_restKey).room s m ([.ref (aS 0), .long i1] : List Value).toArray below meth c H locs 0 0 QQ (F0 m 5 ls [])) (fun rec5 y3 x4 ih5 hM H locs ls hP hS hl => ?_) FU i1 (0 : Int32) hM H locs ls hP hS (lv_sub hl [2, 1, 0] rfl)
    unfold BX1_restKey_5 at hM
    refine lv_iload hx hb dX1_restKey_5 (lv_at hl 2 rfl) ?_
    refine lv_aload_n hx hb dX1_restKey_7 rfl (lv_at hl 0 rfl) ?_
    refine va_get hx hb hts hi1 hown hK hP 0 rfl rfl 0 (by decide) (hts (.fieldLink RX1 21 "NightPlots$Standing" "told" "LNightPlots$Told;") (List.mem_of_getElem? (i := 1) rfl)) (fun _ h9 => h9) rfl dX1_restKey_8 ?_
    refine va_get hx hb hts hi3 hown hK hP 3 rfl rfl 1 (by decide) (hts (.fieldLink RX1 70 "NightPlots$Told" "houses" "I") (List.mem_of_getElem? (i := 2) rfl)) (fun _ h9 => h9) rfl dX1_restKey_11 ?_
    refine lv_icmp_ge (tgt := 35) hx hb dX1_restKey_14 (by decide) (fun c6 => ?_) (fun c6 => ?_)
    · replace hM := if_at_pos hM c6
      exact hJ2 y3 hM H locs ls hP hS (lv_sub hl [1] rfl)
    · replace hM := if_at_neg hM c6
      refine lv_lload_n hx hb dX1_restKey_17 rfl (lv_at hl 1 rfl) ?_
      refine lv_iconst (v := (3 : Int32)) hx hb dX1_restKey_18 (by decide) ?_
      refine lv_lshl (v := (y3 <<< ((3 : Int32).toInt64 &&& 63))) hx hb dX1_restKey_19 rfl ?_
      refine lv_aload_n hx hb dX1_restKey_20 rfl (lv_at hl 0 rfl) ?_
      refine lv_iload hx hb dX1_restKey_21 (lv_at hl 2 rfl) ?_
      obtain ⟨r7, hc8, hM⟩ := bnd1_at hM
      refine co_i (va_runV (As := [.int x4]) (rest := [.long (y3 <<< ((3 : Int32).toInt64 &&& 63))]) ⟨hx, hb, hml, hown, hts⟩ (ctX1_restRank l D Y aS hT vS H.size gS tT x4 r7 hc8) (cwV 1 hts gX1_restKey_X1_restRank rfl rfl rfl (by decide +kernel) ⟨Nat.le_of_ble_eq_true rfl, Nat.le_of_ble_eq_true rfl⟩) (pcW_V0 (ci := 1) (q0 := 0) hK hP (hD.same rfl) rfl rfl) rfl rfl hl.1 rfl (lv_room (Nat.le_of_ble_eq_true rfl)) dX1_restKey_23 ⟨Nat.zero_le _, Nat.zero_le _⟩) (hD.same rfl) hS hA (fun H locs hP hS => ?_)
      refine lv_i2l (v := r7.toInt64) hx hb dX1_restKey_26 rfl ?_
      refine lv_lor hx hb dX1_restKey_27 ?_
      refine lv_topl (fun y9 ey9 => ?_)
      replace hM := nm_at hM ey9
      refine lv_lstore_n (lv' := [(3, .long y9), (0, .ref (aS 0)), (5, .int x4)]) hx hb dX1_restKey_28 rfl hl (by decide) rfl (fun ls hl => ?_)
      obtain ⟨x10, ex10⟩ : ∃ z : Int32, z = (x4 + 1) := ⟨_, rfl⟩
      replace hM := nm_at hM ex10
      refine lv_iinc (v := x10) (lv' := [(5, .int x10), (3, .long y9), (0, .ref (aS 0))]) hx hb dX1_restKey_29 hl (k := 2) rfl (by rw [ex10]; rfl) (by decide) rfl (fun ls hl => ?_)
      refine lv_goto (tgt := 5) hx hb dX1_restKey_32 (by decide) ?_
      exact ih5 y9 x10 hM H locs ls hP hS (lv_sub hl [2, 1, 0] rfl)
noncomputable def MX1_stateKey (gS : GS) (tT : GS) (i1 : Int32) : Option (Int64) := bnd1 (MX1_placesKey gS tT) fun (r1 : Int64) => if i1 = (1 : Int32) then (some (((r1 <<< ((3 : Int32).toInt64 &&& 63)) ||| ((gS 0 6).toInt64)))) else (if i1 = (2 : Int32) then (bnd1 (MX1_restKey gS tT r1) fun (r4 : Int64) => some (r4)) else (if i1 = (3 : Int32) then (some (((r1 <<< ((16 : Int32).toInt64 &&& 63)) ||| ((gS 0 7).toInt64)))) else (some (r1))))
abbrev rmX1_stateKey : Room := { frames := 3, cells := 0, slots := 0, locals := 120 }
set_option maxHeartbeats 4000000 in
set_option maxRecDepth 100000 in
theorem ctX1_stateKey (l : Launch) (D : va_G) (Y : Nat → ClassId) (aS : Nat → Nat) (hT : Nat → Nat) (vS : Nat) (sz : Nat) (gS : GS) (tT : GS) (i1 : Int32) (rr : Int64) (hM : MX1_stateKey gS tT i1 = some (rr)) : Met l yX1_stateKey wsX1_stateKey rmX1_stateKey (pcW [.ref (aS 0), .int i1] sz D Y (cStand Y aS (hT 0) vS gS ++ cTold Y hT tT)) (qlW rr D (cStand Y aS (hT 0) vS gS ++ cTold Y hT tT) (va_A (cStand Y aS (hT 0) vS gS ++ cTold Y hT tT) sz)) 0 0 (va_A (cStand Y aS (hT 0) vS gS ++ cTold Y hT tT) sz) := by
  refine Met.ofW (cc := cX1_stateKey) (maxL := 4) (ret := (some .long)) (by decide) rfl ?_
  intro p e s m args below meth c s₁ B hml hv
  obtain ⟨rfl, hsz, hP, hK, hD0⟩ := hv
  have hx := B.exec
  have hb := B.bytes
  have hr := B.returns
  have hts := atoms_spec (ws := wsX1_stateKey) B.pre
  have hown : s.vm.findClass RX1 = some m.cls := findClass_of_methodNamed B.named
  have hlocks := B.notSynchronized
  subst hsz
  have hD := hD0.self (sz := s.heap.size)
  generalize hAe : va_A (cStand Y aS (hT 0) vS gS ++ cTold Y hT tT) s.heap.size = A at hD ⊢
  have hA : ∀ q : Nat, s.heap.size ≤ q → A q := fun q h => by rw [← hAe]; exact Or.inr h
  have hS : va_S A s.heap s.heap [] := va_S.rf
  have hi1 : ∀ w ∈ wsX10, w ∈ wsX1_stateKey := fun w h => List.mem_cons_of_mem _ (List.mem_append_left _ (List.mem_append_right _ h))
  have hl := lv_entry ([.ref (aS 0), .int i1]) (n := 4) (Nat.le_of_ble_eq_true rfl)
  rw [lg_entry_eq]
  generalize (lg_sl ([.ref (aS 0), .int i1]) ++ List.replicate (4 - (lg_sl ([.ref (aS 0), .int i1])).length) Slot.unset).toArray = ls at hl ⊢
  have hl : lv_has ls 4 [(0, .ref (aS 0)), (1, .int i1)] := hl
  obtain ⟨QQ, hQQ⟩ : ∃ Q : State → Prop, Q = MQ below (qlW rr D (cStand Y aS (hT 0) vS gS ++ cTold Y hT tT) A) ([.ref (aS 0), .int i1] : List Value).toArray s 0 0 A := ⟨_, rfl⟩
  rw [← hQQ]
  unfold MX1_stateKey at hM
  suffices hI : ∀ (H : Heap) (locs : List Loc), va_P D vwCl (cStand Y aS (hT 0) vS gS ++ cTold Y hT tT) H → va_S A s.heap H locs → W p l e (headSpec wsX1_stateKey rmX1_stateKey).room s m ([.ref (aS 0), .int i1] : List Value).toArray below meth c H locs 0 0 QQ (F0 m 0 ls []) from hI _ _ hP hS
  clear hP hS
  intro H locs hP hS
  refine lv_aload_n hx hb dX1_stateKey_0 rfl (lv_at hl 0 rfl) ?_
  obtain ⟨r1, hc2, hM⟩ := bnd1_at hM
  refine co_l (va_runV (As := []) (rest := []) ⟨hx, hb, hml, hown, hts⟩ (ctX1_placesKey l D Y aS hT vS H.size gS tT r1 hc2) (cwV 0 hts gX1_stateKey_X1_placesKey rfl rfl rfl (by decide +kernel) ⟨Nat.le_of_ble_eq_true rfl, Nat.le_of_ble_eq_true rfl⟩) (pcW_V0 (ci := 1) (q0 := 0) hK hP (hD.same rfl) rfl rfl) rfl rfl hl.1 rfl (lv_room (Nat.le_of_ble_eq_true rfl)) dX1_stateKey_1 ⟨Nat.zero_le _, Nat.zero_le _⟩) (hD.same rfl) hS hA (fun H locs hP hS => ?_)
  refine lv_lstore_n (lv' := [(2, .long r1), (0, .ref (aS 0)), (1, .int i1)]) hx hb dX1_stateKey_4 rfl hl (by decide) rfl (fun ls hl => ?_)
  refine lv_iload_n hx hb dX1_stateKey_5 rfl (lv_at hl 2 rfl) ?_
  by_cases c3_0 : i1 = (1 : Int32)
  · replace hM := if_at_pos hM c3_0
    refine lv_tableIn (off := 26) (tgt := 32) hx hb dX1_stateKey_6 (by rw [c3_0]; decide) (by rw [c3_0]; decide) (by rw [c3_0]; rfl) (by decide) ?_
    refine lv_lload_n hx hb dX1_stateKey_32 rfl (lv_at hl 0 rfl) ?_
    refine lv_iconst (v := (3 : Int32)) hx hb dX1_stateKey_33 (by decide) ?_
    refine lv_lshl (v := (r1 <<< ((3 : Int32).toInt64 &&& 63))) hx hb dX1_stateKey_34 rfl ?_
    refine lv_aload_n hx hb dX1_stateKey_35 rfl (lv_at hl 1 rfl) ?_
    refine va_get hx hb hts hi1 hown hK hP 0 rfl rfl 6 (by decide) (hts (.fieldLink RX1 51 "NightPlots$Standing" "turn" "I") (List.mem_of_getElem? (i := 1) rfl)) (fun _ h9 => h9) rfl dX1_stateKey_36 ?_
    refine lv_i2l (v := (gS 0 6).toInt64) hx hb dX1_stateKey_39 rfl ?_
    refine lv_lor hx hb dX1_stateKey_40 ?_
    cases hM
    rw [hQQ]
    exact W.lret hx hb hr (fun t ht hW => ⟨⟨_, (), rfl, rfl, by show va_P D vwCl _ t.heap; rw [ht]; exact hP⟩, hS.F ht⟩) hS.2.2 dX1_stateKey_41
  · replace hM := if_at_neg hM c3_0
    by_cases c3_1 : i1 = (2 : Int32)
    · replace hM := if_at_pos hM c3_1
      refine lv_tableIn (off := 36) (tgt := 42) hx hb dX1_stateKey_6 (by rw [c3_1]; decide) (by rw [c3_1]; decide) (by rw [c3_1]; rfl) (by decide) ?_
      refine lv_aload_n hx hb dX1_stateKey_42 rfl (lv_at hl 1 rfl) ?_
      refine lv_lload_n hx hb dX1_stateKey_43 rfl (lv_at hl 0 rfl) ?_
      obtain ⟨r4, hc5, hM⟩ := bnd1_at hM
      refine co_l (va_runV (As := [.long r1]) (rest := []) ⟨hx, hb, hml, hown, hts⟩ (ctX1_restKey l D Y aS hT vS H.size gS tT r1 r4 hc5) (cwV 1 hts gX1_stateKey_X1_restKey rfl rfl rfl (by decide +kernel) ⟨Nat.le_of_ble_eq_true rfl, Nat.le_of_ble_eq_true rfl⟩) (pcW_V0 (ci := 1) (q0 := 0) hK hP (hD.same rfl) rfl rfl) rfl rfl hl.1 rfl (lv_room (Nat.le_of_ble_eq_true rfl)) dX1_stateKey_44 ⟨Nat.zero_le _, Nat.zero_le _⟩) (hD.same rfl) hS hA (fun H locs hP hS => ?_)
      cases hM
      rw [hQQ]
      exact W.lret hx hb hr (fun t ht hW => ⟨⟨_, (), rfl, rfl, by show va_P D vwCl _ t.heap; rw [ht]; exact hP⟩, hS.F ht⟩) hS.2.2 dX1_stateKey_47
    · replace hM := if_at_neg hM c3_1
      by_cases c3_2 : i1 = (3 : Int32)
      · replace hM := if_at_pos hM c3_2
        refine lv_tableIn (off := 42) (tgt := 48) hx hb dX1_stateKey_6 (by rw [c3_2]; decide) (by rw [c3_2]; decide) (by rw [c3_2]; rfl) (by decide) ?_
        refine lv_lload_n hx hb dX1_stateKey_48 rfl (lv_at hl 0 rfl) ?_
        refine lv_bipush (v := (16 : Int32)) hx hb dX1_stateKey_49 (by decide) ?_
        refine lv_lshl (v := (r1 <<< ((16 : Int32).toInt64 &&& 63))) hx hb dX1_stateKey_51 rfl ?_
        refine lv_aload_n hx hb dX1_stateKey_52 rfl (lv_at hl 1 rfl) ?_
        refine va_get hx hb hts hi1 hown hK hP 0 rfl rfl 7 (by decide) (hts (.fieldLink RX1 57 "NightPlots$Standing" "x" "I") (List.mem_of_getElem? (i := 2) rfl)) (fun _ h9 => h9) rfl dX1_stateKey_53 ?_
        refine lv_i2l (v := (gS 0 7).toInt64) hx hb dX1_stateKey_56 rfl ?_
        refine lv_lor hx hb dX1_stateKey_57 ?_
        cases hM
        rw [hQQ]
        exact W.lret hx hb hr (fun t ht hW => ⟨⟨_, (), rfl, rfl, by show va_P D vwCl _ t.heap; rw [ht]; exact hP⟩, hS.F ht⟩) hS.2.2 dX1_stateKey_58
      · replace hM := if_at_neg hM c3_2
        refine lv_tableOut (tgt := 59) hx hb dX1_stateKey_6 (by have n3_0 := lv_neT (a := 1) c3_0 rfl; have n3_1 := lv_neT (a := 2) c3_1 rfl; have n3_2 := lv_neT (a := 3) c3_2 rfl; omega) (by decide) ?_
        refine lv_lload_n hx hb dX1_stateKey_59 rfl (lv_at hl 0 rfl) ?_
        cases hM
        rw [hQQ]
        exact W.lret hx hb hr (fun t ht hW => ⟨⟨_, (), rfl, rfl, by show va_P D vwCl _ t.heap; rw [ht]; exact hP⟩, hS.F ht⟩) hS.2.2 dX1_stateKey_60
