noncomputable def MX5_isLine (mM : GS) (tk : Int64) (i1 : Int32) : Option (Int32 × GS × Int64) := bnd2 (MX5_nextToken mM tk) fun (mM_1 : GS) (tk_2 : Int64) => jn1 (fun (x4 : Int32) => jn1 (fun (x6 : Int32) => jn1 (fun (x8 : Int32) => chkI i1 36 (nm (upA mM_1 7 (upd (mM_1 7) i1.toNatClampNeg x8)) fun (mM_11 : GS) => chkI i1 36 (if (mM_11 7 i1.toNatClampNeg) = (0 : Int32) then (bnd3 (MX5_isGreen mM_11 tk_2 i1) fun (r14 : Int32) (mM_15 : GS) (tk_16 : Int64) => chkB r14 (some (r14, mM_15, tk_16))) else (if (mM_11 7 i1.toNatClampNeg) = (1 : Int32) then (bnd3 (MX5_isNumber mM_11 tk_2 (i1 + (1 : Int32)) (0 : Int32) ((mM_11 0 20) - (1 : Int32))) fun (r19 : Int32) (mM_20 : GS) (tk_21 : Int64) => jn3 (fun (mM_23 : GS) (tk_24 : Int64) (x25 : Int32) => chkB x25 (some (x25, mM_23, tk_24))) (fun k26 => jn2 (fun (mM_28 : GS) (tk_29 : Int64) => k26 mM_28 tk_29 (0 : Int32)) (fun k30 => if r19 = 0 then (k30 mM_20 tk_21) else (bnd3 (MX5_isNumber mM_20 tk_21 (i1 + (2 : Int32)) (0 : Int32) (9 : Int32)) fun (r32 : Int32) (mM_33 : GS) (tk_34 : Int64) => if r32 = 0 then (k30 mM_33 tk_34) else (k26 mM_33 tk_34 (1 : Int32)))))) else (if (mM_11 7 i1.toNatClampNeg) = (2 : Int32) then (chkI i1 36 (jn1 (fun (x38 : Int32) => bnd3 (MX5_isHouseLine mM_11 tk_2 i1 x38) fun (r40 : Int32) (mM_41 : GS) (tk_42 : Int64) => chkB r40 (some (r40, mM_41, tk_42))) (fun k39 => if (mM_11 7 i1.toNatClampNeg) = (5 : Int32) then (k39 (1 : Int32)) else (k39 (0 : Int32))))) else (if (mM_11 7 i1.toNatClampNeg) = (3 : Int32) then (chkI i1 36 (jn1 (fun (x47 : Int32) => bnd3 (MX5_isHouseLine mM_11 tk_2 i1 x47) fun (r49 : Int32) (mM_50 : GS) (tk_51 : Int64) => chkB r49 (some (r49, mM_50, tk_51))) (fun k48 => if (mM_11 7 i1.toNatClampNeg) = (5 : Int32) then (k48 (1 : Int32)) else (k48 (0 : Int32))))) else (if (mM_11 7 i1.toNatClampNeg) = (4 : Int32) then (chkI i1 36 (jn1 (fun (x56 : Int32) => bnd3 (MX5_isHouseLine mM_11 tk_2 i1 x56) fun (r58 : Int32) (mM_59 : GS) (tk_60 : Int64) => chkB r58 (some (r58, mM_59, tk_60))) (fun k57 => if (mM_11 7 i1.toNatClampNeg) = (5 : Int32) then (k57 (1 : Int32)) else (k57 (0 : Int32))))) else (if (mM_11 7 i1.toNatClampNeg) = (5 : Int32) then (chkI i1 36 (jn1 (fun (x65 : Int32) => bnd3 (MX5_isHouseLine mM_11 tk_2 i1 x65) fun (r67 : Int32) (mM_68 : GS) (tk_69 : Int64) => chkB r67 (some (r67, mM_68, tk_69))) (fun k66 => if (mM_11 7 i1.toNatClampNeg) = (5 : Int32) then (k66 (1 : Int32)) else (k66 (0 : Int32))))) else (if (mM_11 7 i1.toNatClampNeg) = (6 : Int32) then (bnd3 (MX5_isPath mM_11 tk_2 i1) fun (r73 : Int32) (mM_74 : GS) (tk_75 : Int64) => chkB r73 (some (r73, mM_74, tk_75))) else (if (mM_11 7 i1.toNatClampNeg) = (7 : Int32) then (bnd3 (MX5_isFeud mM_11 tk_2 i1) fun (r78 : Int32) (mM_79 : GS) (tk_80 : Int64) => chkB r78 (some (r78, mM_79, tk_80))) else (if (mM_11 7 i1.toNatClampNeg) = (8 : Int32) then (some ((1 : Int32), mM_11, tk_2)) else (if (mM_11 7 i1.toNatClampNeg) = (9 : Int32) then (some ((1 : Int32), mM_11, tk_2)) else (if (mM_11 7 i1.toNatClampNeg) = (10 : Int32) then (some ((1 : Int32), mM_11, tk_2)) else (if (mM_11 7 i1.toNatClampNeg) = (11 : Int32) then (bnd3 (MX5_isNumber mM_11 tk_2 (i1 + (1 : Int32)) (1 : Int32) (9999 : Int32)) fun (r83 : Int32) (mM_84 : GS) (tk_85 : Int64) => chkB r83 (some (r83, mM_84, tk_85))) else (if (mM_11 7 i1.toNatClampNeg) = (12 : Int32) then (nm (up2 mM_11 0 21 (0 : Int32)) fun (mM_88 : GS) => nm (up2 mM_88 0 22 (0 : Int32)) fun (mM_89 : GS) => nm (up2 mM_89 0 24 (0 : Int32)) fun (mM_90 : GS) => some ((1 : Int32), mM_90, tk_2)) else (bnd2 (MX5_fails mM_11) fun (r91 : Int32) (mM_92 : GS) => chkB r91 (some (r91, mM_92, tk_2)))))))))))))))))) (fun k9 => if x4 = (-1 : Int32) then (k9 x6) else (k9 x4))) (fun k7 => if (lg_cmp tk_2 (122314 : Int64)) = 0 then (k7 (7 : Int32)) else (if (lg_cmp tk_2 (923 : Int64)) = 0 then (k7 (8 : Int32)) else (if (lg_cmp tk_2 (409469 : Int64)) = 0 then (k7 (9 : Int32)) else (if (lg_cmp tk_2 (358472 : Int64)) = 0 then (k7 (10 : Int32)) else (if (lg_cmp tk_2 (9173 : Int64)) = 0 then (k7 (11 : Int32)) else (if (lg_cmp tk_2 (1834209 : Int64)) = 0 then (k7 (12 : Int32)) else (k7 (-1 : Int32))))))))) (fun k5 => if (lg_cmp tk_2 (4078175 : Int64)) = 0 then (k5 (0 : Int32)) else (if (lg_cmp tk_2 (72592 : Int64)) = 0 then (k5 (1 : Int32)) else (if (lg_cmp tk_2 (201783983 : Int64)) = 0 then (k5 (2 : Int32)) else (if (lg_cmp tk_2 (60284 : Int64)) = 0 then (k5 (3 : Int32)) else (if (lg_cmp tk_2 (10506440 : Int64)) = 0 then (k5 (4 : Int32)) else (if (lg_cmp tk_2 (459383 : Int64)) = 0 then (k5 (5 : Int32)) else (if (lg_cmp tk_2 (316205 : Int64)) = 0 then (k5 (6 : Int32)) else (k5 (-1 : Int32)))))))))
abbrev rmX5_isLine : Room := { frames := 6, cells := 0, slots := 0, locals := 240 }
set_option maxHeartbeats 4000000 in
set_option maxRecDepth 100000 in
theorem ctX5_isLine (l : Launch) (D : va_G) (Y : Nat → ClassId) (oM : Nat → Nat) (sz : Nat) (mM : GS) (tk : Int64) (i1 : Int32) (rr : Int32) (mMz : GS) (tkz : Int64) (hM : MX5_isLine mM tk i1 = some (rr, mMz, tkz)) : Met l yX5_isLine wsX5_isLine rmX5_isLine (pcW [.ref (oM 0), .int i1] sz D Y (cMod Y oM mM tk)) (qiW rr D (cMod Y oM mMz tkz) (va_A (cMod Y oM mM tk) sz)) 0 0 (va_A (cMod Y oM mM tk) sz) := by
  refine Met.ofW (cc := cX5_isLine) (maxL := 4) (ret := (some .boolean)) (by decide) rfl ?_
  intro p e s m args below meth c s₁ B hml hv
  obtain ⟨rfl, hsz, hP, hK, hD0⟩ := hv
  have hx := B.exec
  have hb := B.bytes
  have hr := B.returns
  have hts := atoms_spec (ws := wsX5_isLine) B.pre
  have hown : s.vm.findClass RX5 = some m.cls := findClass_of_methodNamed B.named
  have hlocks := B.notSynchronized
  subst hsz
  have hD := hD0.self (sz := s.heap.size)
  generalize hAe : va_A (cMod Y oM mM tk) s.heap.size = A at hD ⊢
  have hA : ∀ q : Nat, s.heap.size ≤ q → A q := fun q h => by rw [← hAe]; exact Or.inr h
  have hS : va_S A s.heap s.heap [] := va_S.rf
  have hi5 : ∀ w ∈ wsX50, w ∈ wsX5_isLine := fun w h => List.mem_cons_of_mem _ (List.mem_append_right _ h)
  have hl := lv_entry ([.ref (oM 0), .int i1]) (n := 4) (Nat.le_of_ble_eq_true rfl)
  rw [lg_entry_eq]
  generalize (lg_sl ([.ref (oM 0), .int i1]) ++ List.replicate (4 - (lg_sl ([.ref (oM 0), .int i1])).length) Slot.unset).toArray = ls at hl ⊢
  have hl : lv_has ls 4 [(0, .ref (oM 0)), (1, .int i1)] := hl
  obtain ⟨QQ, hQQ⟩ : ∃ Q : State → Prop, Q = MQ below (qiW rr D (cMod Y oM mMz tkz) A) ([.ref (oM 0), .int i1] : List Value).toArray s 0 0 A := ⟨_, rfl⟩
  rw [← hQQ]
  unfold MX5_isLine at hM
  suffices hI : ∀ (H : Heap) (locs : List Loc), va_P D vwCl (cMod Y oM mM tk) H → va_S A s.heap H locs → W p l e (headSpec wsX5_isLine rmX5_isLine).room s m ([.ref (oM 0), .int i1] : List Value).toArray below meth c H locs 0 0 QQ (F0 m 0 ls []) from hI _ _ hP hS
  clear hP hS
  intro H locs hP hS
  refine lv_aload_n hx hb dX5_isLine_0 rfl (lv_at hl 0 rfl) ?_
  obtain ⟨mM_1, tk_2, hc3, hM⟩ := bnd2_at hM
  refine co_v (va_runV (As := []) (rest := []) ⟨hx, hb, hml, hown, hts⟩ (ctX5_nextToken l D Y oM H.size mM tk mM_1 tk_2 hc3) (cwV 0 hts gX5_isLine_X5_nextToken rfl rfl rfl (by decide +kernel) ⟨Nat.le_of_ble_eq_true rfl, Nat.le_of_ble_eq_true rfl⟩) (pcW_V0 (ci := 5) (q0 := 0) hK hP (hD.same rfl) rfl rfl) rfl rfl hl.1 rfl (lv_room (Nat.le_of_ble_eq_true rfl)) dX5_isLine_1 ⟨Nat.zero_le _, Nat.zero_le _⟩) (hD.same rfl) hS hA (fun H locs hP hS => ?_)
  refine lv_aload_n hx hb dX5_isLine_4 rfl (lv_at hl 0 rfl) ?_
  refine va_get hx hb hts hi5 hown hK hP 0 rfl rfl 15 (by decide) (hts (.fieldLink RX5 113 "NightPlotsModel" "token" "J") (List.mem_of_getElem? (i := 1) rfl)) (fun _ h9 => h9) rfl dX5_isLine_5 ?_
  refine lv_ldc2 (v := (4078175 : Int64)) hx hb hown (hts (.constantLong RX5 159 (4078175)) (List.mem_of_getElem? (i := 2) rfl)) dX5_isLine_8 ?_
  refine W.lcmp hx hb dX5_isLine_11 ?_
  refine jn1_at (fun (x4 : Int32) => ∀ (H : Heap) (locs : List Loc) (ls : Array Slot), va_P D vwCl (cMod Y oM mM_1 tk_2) H → va_S A s.heap H locs → lv_has ls 4 [(0, .ref (oM 0)), (1, .int i1)] → W p l e (headSpec wsX5_isLine rmX5_isLine).room s m ([.ref (oM 0), .int i1] : List Value).toArray below meth c H locs 0 0 QQ (F0 m 111 ls [.int x4])) hM (fun x4 hM H locs ls hP hS hl => ?_) (fun k5 hJ5 hM => ?_)
  · refine lv_istore_n (lv' := [(2, .int x4), (0, .ref (oM 0)), (1, .int i1)]) hx hb dX5_isLine_111 rfl hl (by decide) rfl (fun ls hl => ?_)
    refine lv_aload_n hx hb dX5_isLine_112 rfl (lv_at hl 1 rfl) ?_
    refine va_get hx hb hts hi5 hown hK hP 0 rfl rfl 15 (by decide) (hts (.fieldLink RX5 113 "NightPlotsModel" "token" "J") (List.mem_of_getElem? (i := 1) rfl)) (fun _ h9 => h9) rfl dX5_isLine_113 ?_
    refine lv_ldc2 (v := (122314 : Int64)) hx hb hown (hts (.constantLong RX5 173 (122314)) (List.mem_of_getElem? (i := 9) rfl)) dX5_isLine_116 ?_
    refine W.lcmp hx hb dX5_isLine_119 ?_
    refine jn1_at (fun (x6 : Int32) => ∀ (H : Heap) (locs : List Loc) (ls : Array Slot), va_P D vwCl (cMod Y oM mM_1 tk_2) H → va_S A s.heap H locs → lv_has ls 4 [(0, .ref (oM 0)), (1, .int i1), (2, .int x4)] → W p l e (headSpec wsX5_isLine rmX5_isLine).room s m ([.ref (oM 0), .int i1] : List Value).toArray below meth c H locs 0 0 QQ (F0 m 209 ls [.int x6])) hM (fun x6 hM H locs ls hP hS hl => ?_) (fun k7 hJ7 hM => ?_)
    · refine lv_istore_n (lv' := [(3, .int x6), (0, .ref (oM 0)), (1, .int i1), (2, .int x4)]) hx hb dX5_isLine_209 rfl hl (by decide) rfl (fun ls hl => ?_)
      refine lv_aload_n hx hb dX5_isLine_210 rfl (lv_at hl 1 rfl) ?_
      refine va_get hx hb hts hi5 hown hK hP 0 rfl rfl 25 (by decide) (hts (.fieldLink RX5 35 "NightPlotsModel" "read" "[I") (List.mem_of_getElem? (i := 15) rfl)) (fun _ h9 => h9) rfl dX5_isLine_211 ?_
      refine lv_iload_n hx hb dX5_isLine_214 rfl (lv_at hl 2 rfl) ?_
      refine lv_iload_n hx hb dX5_isLine_215 rfl (lv_at hl 3 rfl) ?_
      refine lv_iconst (v := (-1 : Int32)) hx hb dX5_isLine_216 (by decide) ?_
      refine jn1_at (fun (x8 : Int32) => ∀ (H : Heap) (locs : List Loc) (ls : Array Slot), va_P D vwCl (cMod Y oM mM_1 tk_2) H → va_S A s.heap H locs → lv_has ls 4 [(0, .ref (oM 0)), (1, .int i1)] → W p l e (headSpec wsX5_isLine rmX5_isLine).room s m ([.ref (oM 0), .int i1] : List Value).toArray below meth c H locs 0 0 QQ (F0 m 225 ls [.int x8, .int i1, .ref (oM 7)])) hM (fun x8 hM H locs ls hP hS hl => ?_) (fun k9 hJ9 hM => ?_)
      · obtain ⟨hi_10, hM⟩ := chkI_at hM
        refine va_iast hx hb hK hP (hD.same rfl) hS 7 0 rfl rfl hi_10 dX5_isLine_225 (fun H locs hP _ hS => ?_)
        obtain ⟨mM_11, emM_11⟩ : ∃ z : GS, z = (upA mM_1 7 (upd (mM_1 7) i1.toNatClampNeg x8)) := ⟨_, rfl⟩
        have hP : va_P D vwCl (cMod Y oM mM_11 tk_2) H := by rw [emM_11]; exact hP
        replace hM := nm_at hM emM_11
        refine lv_aload_n hx hb dX5_isLine_226 rfl (lv_at hl 0 rfl) ?_
        refine va_get hx hb hts hi5 hown hK hP 0 rfl rfl 25 (by decide) (hts (.fieldLink RX5 35 "NightPlotsModel" "read" "[I") (List.mem_of_getElem? (i := 15) rfl)) (fun _ h9 => h9) rfl dX5_isLine_227 ?_
        refine lv_iload_n hx hb dX5_isLine_230 rfl (lv_at hl 1 rfl) ?_
        obtain ⟨hi_12, hM⟩ := chkI_at hM
        refine va_iald hx hb hK hP 7 0 rfl rfl hi_12 dX5_isLine_231 ?_
        by_cases c13_0 : (mM_11 7 i1.toNatClampNeg) = (0 : Int32)
        · replace hM := if_at_pos hM c13_0
          refine lv_tableIn (off := 68) (tgt := 300) hx hb dX5_isLine_232 (by rw [c13_0]; decide) (by rw [c13_0]; decide) (by rw [c13_0]; rfl) (by decide) ?_
          refine lv_aload_n hx hb dX5_isLine_300 rfl (lv_at hl 0 rfl) ?_
          refine lv_iload_n hx hb dX5_isLine_301 rfl (lv_at hl 1 rfl) ?_
          obtain ⟨r14, mM_15, tk_16, hc17, hM⟩ := bnd3_at hM
          refine co_i (va_runV (As := [.int i1]) (rest := []) ⟨hx, hb, hml, hown, hts⟩ (ctX5_isGreen l D Y oM H.size mM_11 tk_2 i1 r14 mM_15 tk_16 hc17) (cwV 1 hts gX5_isLine_X5_isGreen rfl rfl rfl (by decide +kernel) ⟨Nat.le_of_ble_eq_true rfl, Nat.le_of_ble_eq_true rfl⟩) (pcW_V0 (ci := 5) (q0 := 0) hK hP (hD.same rfl) rfl rfl) rfl rfl hl.1 rfl (lv_room (Nat.le_of_ble_eq_true rfl)) dX5_isLine_302 ⟨Nat.zero_le _, Nat.zero_le _⟩) (hD.same rfl) hS hA (fun H locs hP hS => ?_)
          obtain ⟨hz18, hM⟩ := chkB_at hM
          cases hM
          rw [hQQ]
          exact W.zret (ty := .boolean) hx hb hr hz18 (fun t ht hW => ⟨⟨_, (), rfl, rfl, by show va_P D vwCl _ t.heap; rw [ht]; exact hP⟩, hS.F ht⟩) hS.2.2 dX5_isLine_305
        · replace hM := if_at_neg hM c13_0
          by_cases c13_1 : (mM_11 7 i1.toNatClampNeg) = (1 : Int32)
          · replace hM := if_at_pos hM c13_1
            refine lv_tableIn (off := 74) (tgt := 306) hx hb dX5_isLine_232 (by rw [c13_1]; decide) (by rw [c13_1]; decide) (by rw [c13_1]; rfl) (by decide) ?_
            refine lv_aload_n hx hb dX5_isLine_306 rfl (lv_at hl 0 rfl) ?_
            refine lv_iload_n hx hb dX5_isLine_307 rfl (lv_at hl 1 rfl) ?_
            refine lv_iconst (v := (1 : Int32)) hx hb dX5_isLine_308 (by decide) ?_
            refine lv_iadd hx hb dX5_isLine_309 ?_
            refine lv_iconst (v := (0 : Int32)) hx hb dX5_isLine_310 (by decide) ?_
            refine lv_aload_n hx hb dX5_isLine_311 rfl (lv_at hl 0 rfl) ?_
            refine va_get hx hb hts hi5 hown hK hP 0 rfl rfl 20 (by decide) (hts (.fieldLink RX5 140 "NightPlotsModel" "readPlots" "I") (List.mem_of_getElem? (i := 16) rfl)) (fun _ h9 => h9) rfl dX5_isLine_312 ?_
            refine lv_iconst (v := (1 : Int32)) hx hb dX5_isLine_315 (by decide) ?_
            refine lv_isub hx hb dX5_isLine_316 ?_
            obtain ⟨r19, mM_20, tk_21, hc22, hM⟩ := bnd3_at hM
            refine co_i (va_runV (As := [.int (i1 + (1 : Int32)), .int (0 : Int32), .int ((mM_11 0 20) - (1 : Int32))]) (rest := []) ⟨hx, hb, hml, hown, hts⟩ (ctX5_isNumber l D Y oM H.size mM_11 tk_2 (i1 + (1 : Int32)) (0 : Int32) ((mM_11 0 20) - (1 : Int32)) r19 mM_20 tk_21 hc22) (cwV 3 hts gX5_isLine_X5_isNumber rfl rfl rfl (by decide +kernel) ⟨Nat.le_of_ble_eq_true rfl, Nat.le_of_ble_eq_true rfl⟩) (pcW_V0 (ci := 5) (q0 := 0) hK hP (hD.same rfl) rfl rfl) rfl rfl hl.1 rfl (lv_room (Nat.le_of_ble_eq_true rfl)) dX5_isLine_317 ⟨Nat.zero_le _, Nat.zero_le _⟩) (hD.same rfl) hS hA (fun H locs hP hS => ?_)
            refine jn3_at (fun (mM_23 : GS) (tk_24 : Int64) (x25 : Int32) => ∀ (H : Heap) (locs : List Loc) (ls : Array Slot), va_P D vwCl (cMod Y oM mM_23 tk_24) H → va_S A s.heap H locs → lv_has ls 4 [] → W p l e (headSpec wsX5_isLine rmX5_isLine).room s m ([.ref (oM 0), .int i1] : List Value).toArray below meth c H locs 0 0 QQ (F0 m 341 ls [.int x25])) hM (fun mM_23 tk_24 x25 hM H locs ls hP hS hl => ?_) (fun k26 hJ26 hM => ?_)
            · obtain ⟨hz27, hM⟩ := chkB_at hM
              cases hM
              rw [hQQ]
              exact W.zret (ty := .boolean) hx hb hr hz27 (fun t ht hW => ⟨⟨_, (), rfl, rfl, by show va_P D vwCl _ t.heap; rw [ht]; exact hP⟩, hS.F ht⟩) hS.2.2 dX5_isLine_341
            · refine jn2_at (fun (mM_28 : GS) (tk_29 : Int64) => ∀ (H : Heap) (locs : List Loc) (ls : Array Slot), va_P D vwCl (cMod Y oM mM_28 tk_29) H → va_S A s.heap H locs → lv_has ls 4 [] → W p l e (headSpec wsX5_isLine rmX5_isLine).room s m ([.ref (oM 0), .int i1] : List Value).toArray below meth c H locs 0 0 QQ (F0 m 340 ls [])) hM (fun mM_28 tk_29 hM H locs ls hP hS hl => ?_) (fun k30 hJ30 hM => ?_)
              · refine lv_iconst (v := (0 : Int32)) hx hb dX5_isLine_340 (by decide) ?_
                exact hJ26 mM_28 tk_29 (0 : Int32) hM H locs ls hP hS (lv_sub hl [] rfl)
              · refine lv_if_eq (tgt := 340) hx hb dX5_isLine_320 (by decide) (fun c31 => ?_) (fun c31 => ?_)
                · replace hM := if_at_pos hM c31
                  exact hJ30 mM_20 tk_21 hM H locs ls hP hS (lv_sub hl [] rfl)
                · replace hM := if_at_neg hM c31
                  refine lv_aload_n hx hb dX5_isLine_323 rfl (lv_at hl 0 rfl) ?_
                  refine lv_iload_n hx hb dX5_isLine_324 rfl (lv_at hl 1 rfl) ?_
                  refine lv_iconst (v := (2 : Int32)) hx hb dX5_isLine_325 (by decide) ?_
                  refine lv_iadd hx hb dX5_isLine_326 ?_
                  refine lv_iconst (v := (0 : Int32)) hx hb dX5_isLine_327 (by decide) ?_
                  refine lv_bipush (v := (9 : Int32)) hx hb dX5_isLine_328 (by decide) ?_
                  obtain ⟨r32, mM_33, tk_34, hc35, hM⟩ := bnd3_at hM
                  refine co_i (va_runV (As := [.int (i1 + (2 : Int32)), .int (0 : Int32), .int (9 : Int32)]) (rest := []) ⟨hx, hb, hml, hown, hts⟩ (ctX5_isNumber l D Y oM H.size mM_20 tk_21 (i1 + (2 : Int32)) (0 : Int32) (9 : Int32) r32 mM_33 tk_34 hc35) (cwV 3 hts gX5_isLine_X5_isNumber rfl rfl rfl (by decide +kernel) ⟨Nat.le_of_ble_eq_true rfl, Nat.le_of_ble_eq_true rfl⟩) (pcW_V0 (ci := 5) (q0 := 0) hK hP (hD.same rfl) rfl rfl) rfl rfl hl.1 rfl (lv_room (Nat.le_of_ble_eq_true rfl)) dX5_isLine_330 ⟨Nat.zero_le _, Nat.zero_le _⟩) (hD.same rfl) hS hA (fun H locs hP hS => ?_)
                  refine lv_if_eq (tgt := 340) hx hb dX5_isLine_333 (by decide) (fun c36 => ?_) (fun c36 => ?_)
                  · replace hM := if_at_pos hM c36
                    exact hJ30 mM_33 tk_34 hM H locs ls hP hS (lv_sub hl [] rfl)
                  · replace hM := if_at_neg hM c36
                    refine lv_iconst (v := (1 : Int32)) hx hb dX5_isLine_336 (by decide) ?_
                    refine lv_goto (tgt := 341) hx hb dX5_isLine_337 (by decide) ?_
                    exact hJ26 mM_33 tk_34 (1 : Int32) hM H locs ls hP hS (lv_sub hl [] rfl)
          · replace hM := if_at_neg hM c13_1
            by_cases c13_2 : (mM_11 7 i1.toNatClampNeg) = (2 : Int32)
            · replace hM := if_at_pos hM c13_2
              refine lv_tableIn (off := 110) (tgt := 342) hx hb dX5_isLine_232 (by rw [c13_2]; decide) (by rw [c13_2]; decide) (by rw [c13_2]; rfl) (by decide) ?_
              refine lv_aload_n hx hb dX5_isLine_342 rfl (lv_at hl 0 rfl) ?_
              refine lv_iload_n hx hb dX5_isLine_343 rfl (lv_at hl 1 rfl) ?_
              refine lv_aload_n hx hb dX5_isLine_344 rfl (lv_at hl 0 rfl) ?_
              refine va_get hx hb hts hi5 hown hK hP 0 rfl rfl 25 (by decide) (hts (.fieldLink RX5 35 "NightPlotsModel" "read" "[I") (List.mem_of_getElem? (i := 15) rfl)) (fun _ h9 => h9) rfl dX5_isLine_345 ?_
              refine lv_iload_n hx hb dX5_isLine_348 rfl (lv_at hl 1 rfl) ?_
              obtain ⟨hi_37, hM⟩ := chkI_at hM
              refine va_iald hx hb hK hP 7 0 rfl rfl hi_37 dX5_isLine_349 ?_
              refine lv_iconst (v := (5 : Int32)) hx hb dX5_isLine_350 (by decide) ?_
              refine jn1_at (fun (x38 : Int32) => ∀ (H : Heap) (locs : List Loc) (ls : Array Slot), va_P D vwCl (cMod Y oM mM_11 tk_2) H → va_S A s.heap H locs → lv_has ls 4 [] → W p l e (headSpec wsX5_isLine rmX5_isLine).room s m ([.ref (oM 0), .int i1] : List Value).toArray below meth c H locs 0 0 QQ (F0 m 359 ls [.int x38, .int i1, .ref (oM 0)])) hM (fun x38 hM H locs ls hP hS hl => ?_) (fun k39 hJ39 hM => ?_)
              · obtain ⟨r40, mM_41, tk_42, hc43, hM⟩ := bnd3_at hM
                refine co_i (va_runV (As := [.int i1, .int x38]) (rest := []) ⟨hx, hb, hml, hown, hts⟩ (ctX5_isHouseLine l D Y oM H.size mM_11 tk_2 i1 x38 r40 mM_41 tk_42 hc43) (cwV 2 hts gX5_isLine_X5_isHouseLine rfl rfl rfl (by decide +kernel) ⟨Nat.le_of_ble_eq_true rfl, Nat.le_of_ble_eq_true rfl⟩) (pcW_V0 (ci := 5) (q0 := 0) hK hP (hD.same rfl) rfl rfl) rfl rfl hl.1 rfl (lv_room (Nat.le_of_ble_eq_true rfl)) dX5_isLine_359 ⟨Nat.zero_le _, Nat.zero_le _⟩) (hD.same rfl) hS hA (fun H locs hP hS => ?_)
                obtain ⟨hz44, hM⟩ := chkB_at hM
                cases hM
                rw [hQQ]
                exact W.zret (ty := .boolean) hx hb hr hz44 (fun t ht hW => ⟨⟨_, (), rfl, rfl, by show va_P D vwCl _ t.heap; rw [ht]; exact hP⟩, hS.F ht⟩) hS.2.2 dX5_isLine_362
              · refine lv_icmp_ne (tgt := 358) hx hb dX5_isLine_351 (by decide) (fun c45 => ?_) (fun c45 => ?_)
                · replace hM := if_at_neg hM c45
                  refine lv_iconst (v := (0 : Int32)) hx hb dX5_isLine_358 (by decide) ?_
                  exact hJ39 (0 : Int32) hM H locs ls hP hS (lv_sub hl [] rfl)
                · replace hM := if_at_pos hM c45
                  refine lv_iconst (v := (1 : Int32)) hx hb dX5_isLine_354 (by decide) ?_
                  refine lv_goto (tgt := 359) hx hb dX5_isLine_355 (by decide) ?_
                  exact hJ39 (1 : Int32) hM H locs ls hP hS (lv_sub hl [] rfl)
            · replace hM := if_at_neg hM c13_2
              by_cases c13_3 : (mM_11 7 i1.toNatClampNeg) = (3 : Int32)
              · replace hM := if_at_pos hM c13_3
                refine lv_tableIn (off := 110) (tgt := 342) hx hb dX5_isLine_232 (by rw [c13_3]; decide) (by rw [c13_3]; decide) (by rw [c13_3]; rfl) (by decide) ?_
                refine lv_aload_n hx hb dX5_isLine_342 rfl (lv_at hl 0 rfl) ?_
                refine lv_iload_n hx hb dX5_isLine_343 rfl (lv_at hl 1 rfl) ?_
                refine lv_aload_n hx hb dX5_isLine_344 rfl (lv_at hl 0 rfl) ?_
                refine va_get hx hb hts hi5 hown hK hP 0 rfl rfl 25 (by decide) (hts (.fieldLink RX5 35 "NightPlotsModel" "read" "[I") (List.mem_of_getElem? (i := 15) rfl)) (fun _ h9 => h9) rfl dX5_isLine_345 ?_
                refine lv_iload_n hx hb dX5_isLine_348 rfl (lv_at hl 1 rfl) ?_
                obtain ⟨hi_46, hM⟩ := chkI_at hM
                refine va_iald hx hb hK hP 7 0 rfl rfl hi_46 dX5_isLine_349 ?_
                refine lv_iconst (v := (5 : Int32)) hx hb dX5_isLine_350 (by decide) ?_
                refine jn1_at (fun (x47 : Int32) => ∀ (H : Heap) (locs : List Loc) (ls : Array Slot), va_P D vwCl (cMod Y oM mM_11 tk_2) H → va_S A s.heap H locs → lv_has ls 4 [] → W p l e (headSpec wsX5_isLine rmX5_isLine).room s m ([.ref (oM 0), .int i1] : List Value).toArray below meth c H locs 0 0 QQ (F0 m 359 ls [.int x47, .int i1, .ref (oM 0)])) hM (fun x47 hM H locs ls hP hS hl => ?_) (fun k48 hJ48 hM => ?_)
                · obtain ⟨r49, mM_50, tk_51, hc52, hM⟩ := bnd3_at hM
                  refine co_i (va_runV (As := [.int i1, .int x47]) (rest := []) ⟨hx, hb, hml, hown, hts⟩ (ctX5_isHouseLine l D Y oM H.size mM_11 tk_2 i1 x47 r49 mM_50 tk_51 hc52) (cwV 2 hts gX5_isLine_X5_isHouseLine rfl rfl rfl (by decide +kernel) ⟨Nat.le_of_ble_eq_true rfl, Nat.le_of_ble_eq_true rfl⟩) (pcW_V0 (ci := 5) (q0 := 0) hK hP (hD.same rfl) rfl rfl) rfl rfl hl.1 rfl (lv_room (Nat.le_of_ble_eq_true rfl)) dX5_isLine_359 ⟨Nat.zero_le _, Nat.zero_le _⟩) (hD.same rfl) hS hA (fun H locs hP hS => ?_)
                  obtain ⟨hz53, hM⟩ := chkB_at hM
                  cases hM
                  rw [hQQ]
                  exact W.zret (ty := .boolean) hx hb hr hz53 (fun t ht hW => ⟨⟨_, (), rfl, rfl, by show va_P D vwCl _ t.heap; rw [ht]; exact hP⟩, hS.F ht⟩) hS.2.2 dX5_isLine_362
                · refine lv_icmp_ne (tgt := 358) hx hb dX5_isLine_351 (by decide) (fun c54 => ?_) (fun c54 => ?_)
                  · replace hM := if_at_neg hM c54
                    refine lv_iconst (v := (0 : Int32)) hx hb dX5_isLine_358 (by decide) ?_
                    exact hJ48 (0 : Int32) hM H locs ls hP hS (lv_sub hl [] rfl)
                  · replace hM := if_at_pos hM c54
                    refine lv_iconst (v := (1 : Int32)) hx hb dX5_isLine_354 (by decide) ?_
                    refine lv_goto (tgt := 359) hx hb dX5_isLine_355 (by decide) ?_
                    exact hJ48 (1 : Int32) hM H locs ls hP hS (lv_sub hl [] rfl)
              · replace hM := if_at_neg hM c13_3
                by_cases c13_4 : (mM_11 7 i1.toNatClampNeg) = (4 : Int32)
                · replace hM := if_at_pos hM c13_4
                  refine lv_tableIn (off := 110) (tgt := 342) hx hb dX5_isLine_232 (by rw [c13_4]; decide) (by rw [c13_4]; decide) (by rw [c13_4]; rfl) (by decide) ?_
                  refine lv_aload_n hx hb dX5_isLine_342 rfl (lv_at hl 0 rfl) ?_
                  refine lv_iload_n hx hb dX5_isLine_343 rfl (lv_at hl 1 rfl) ?_
                  refine lv_aload_n hx hb dX5_isLine_344 rfl (lv_at hl 0 rfl) ?_
                  refine va_get hx hb hts hi5 hown hK hP 0 rfl rfl 25 (by decide) (hts (.fieldLink RX5 35 "NightPlotsModel" "read" "[I") (List.mem_of_getElem? (i := 15) rfl)) (fun _ h9 => h9) rfl dX5_isLine_345 ?_
                  refine lv_iload_n hx hb dX5_isLine_348 rfl (lv_at hl 1 rfl) ?_
                  obtain ⟨hi_55, hM⟩ := chkI_at hM
                  refine va_iald hx hb hK hP 7 0 rfl rfl hi_55 dX5_isLine_349 ?_
                  refine lv_iconst (v := (5 : Int32)) hx hb dX5_isLine_350 (by decide) ?_
                  refine jn1_at (fun (x56 : Int32) => ∀ (H : Heap) (locs : List Loc) (ls : Array Slot), va_P D vwCl (cMod Y oM mM_11 tk_2) H → va_S A s.heap H locs → lv_has ls 4 [] → W p l e (headSpec wsX5_isLine rmX5_isLine).room s m ([.ref (oM 0), .int i1] : List Value).toArray below meth c H locs 0 0 QQ (F0 m 359 ls [.int x56, .int i1, .ref (oM 0)])) hM (fun x56 hM H locs ls hP hS hl => ?_) (fun k57 hJ57 hM => ?_)
                  · obtain ⟨r58, mM_59, tk_60, hc61, hM⟩ := bnd3_at hM
                    refine co_i (va_runV (As := [.int i1, .int x56]) (rest := []) ⟨hx, hb, hml, hown, hts⟩ (ctX5_isHouseLine l D Y oM H.size mM_11 tk_2 i1 x56 r58 mM_59 tk_60 hc61) (cwV 2 hts gX5_isLine_X5_isHouseLine rfl rfl rfl (by decide +kernel) ⟨Nat.le_of_ble_eq_true rfl, Nat.le_of_ble_eq_true rfl⟩) (pcW_V0 (ci := 5) (q0 := 0) hK hP (hD.same rfl) rfl rfl) rfl rfl hl.1 rfl (lv_room (Nat.le_of_ble_eq_true rfl)) dX5_isLine_359 ⟨Nat.zero_le _, Nat.zero_le _⟩) (hD.same rfl) hS hA (fun H locs hP hS => ?_)
                    obtain ⟨hz62, hM⟩ := chkB_at hM
                    cases hM
                    rw [hQQ]
                    exact W.zret (ty := .boolean) hx hb hr hz62 (fun t ht hW => ⟨⟨_, (), rfl, rfl, by show va_P D vwCl _ t.heap; rw [ht]; exact hP⟩, hS.F ht⟩) hS.2.2 dX5_isLine_362
                  · refine lv_icmp_ne (tgt := 358) hx hb dX5_isLine_351 (by decide) (fun c63 => ?_) (fun c63 => ?_)
                    · replace hM := if_at_neg hM c63
                      refine lv_iconst (v := (0 : Int32)) hx hb dX5_isLine_358 (by decide) ?_
                      exact hJ57 (0 : Int32) hM H locs ls hP hS (lv_sub hl [] rfl)
                    · replace hM := if_at_pos hM c63
                      refine lv_iconst (v := (1 : Int32)) hx hb dX5_isLine_354 (by decide) ?_
                      refine lv_goto (tgt := 359) hx hb dX5_isLine_355 (by decide) ?_
                      exact hJ57 (1 : Int32) hM H locs ls hP hS (lv_sub hl [] rfl)
                · replace hM := if_at_neg hM c13_4
                  by_cases c13_5 : (mM_11 7 i1.toNatClampNeg) = (5 : Int32)
                  · replace hM := if_at_pos hM c13_5
                    refine lv_tableIn (off := 110) (tgt := 342) hx hb dX5_isLine_232 (by rw [c13_5]; decide) (by rw [c13_5]; decide) (by rw [c13_5]; rfl) (by decide) ?_
                    refine lv_aload_n hx hb dX5_isLine_342 rfl (lv_at hl 0 rfl) ?_
                    refine lv_iload_n hx hb dX5_isLine_343 rfl (lv_at hl 1 rfl) ?_
                    refine lv_aload_n hx hb dX5_isLine_344 rfl (lv_at hl 0 rfl) ?_
                    refine va_get hx hb hts hi5 hown hK hP 0 rfl rfl 25 (by decide) (hts (.fieldLink RX5 35 "NightPlotsModel" "read" "[I") (List.mem_of_getElem? (i := 15) rfl)) (fun _ h9 => h9) rfl dX5_isLine_345 ?_
                    refine lv_iload_n hx hb dX5_isLine_348 rfl (lv_at hl 1 rfl) ?_
                    obtain ⟨hi_64, hM⟩ := chkI_at hM
                    refine va_iald hx hb hK hP 7 0 rfl rfl hi_64 dX5_isLine_349 ?_
                    refine lv_iconst (v := (5 : Int32)) hx hb dX5_isLine_350 (by decide) ?_
                    refine jn1_at (fun (x65 : Int32) => ∀ (H : Heap) (locs : List Loc) (ls : Array Slot), va_P D vwCl (cMod Y oM mM_11 tk_2) H → va_S A s.heap H locs → lv_has ls 4 [] → W p l e (headSpec wsX5_isLine rmX5_isLine).room s m ([.ref (oM 0), .int i1] : List Value).toArray below meth c H locs 0 0 QQ (F0 m 359 ls [.int x65, .int i1, .ref (oM 0)])) hM (fun x65 hM H locs ls hP hS hl => ?_) (fun k66 hJ66 hM => ?_)
                    · obtain ⟨r67, mM_68, tk_69, hc70, hM⟩ := bnd3_at hM
                      refine co_i (va_runV (As := [.int i1, .int x65]) (rest := []) ⟨hx, hb, hml, hown, hts⟩ (ctX5_isHouseLine l D Y oM H.size mM_11 tk_2 i1 x65 r67 mM_68 tk_69 hc70) (cwV 2 hts gX5_isLine_X5_isHouseLine rfl rfl rfl (by decide +kernel) ⟨Nat.le_of_ble_eq_true rfl, Nat.le_of_ble_eq_true rfl⟩) (pcW_V0 (ci := 5) (q0 := 0) hK hP (hD.same rfl) rfl rfl) rfl rfl hl.1 rfl (lv_room (Nat.le_of_ble_eq_true rfl)) dX5_isLine_359 ⟨Nat.zero_le _, Nat.zero_le _⟩) (hD.same rfl) hS hA (fun H locs hP hS => ?_)
                      obtain ⟨hz71, hM⟩ := chkB_at hM
                      cases hM
                      rw [hQQ]
                      exact W.zret (ty := .boolean) hx hb hr hz71 (fun t ht hW => ⟨⟨_, (), rfl, rfl, by show va_P D vwCl _ t.heap; rw [ht]; exact hP⟩, hS.F ht⟩) hS.2.2 dX5_isLine_362
                    · refine lv_icmp_ne (tgt := 358) hx hb dX5_isLine_351 (by decide) (fun c72 => ?_) (fun c72 => ?_)
                      · replace hM := if_at_neg hM c72
                        refine lv_iconst (v := (0 : Int32)) hx hb dX5_isLine_358 (by decide) ?_
                        exact hJ66 (0 : Int32) hM H locs ls hP hS (lv_sub hl [] rfl)
                      · replace hM := if_at_pos hM c72
                        refine lv_iconst (v := (1 : Int32)) hx hb dX5_isLine_354 (by decide) ?_
                        refine lv_goto (tgt := 359) hx hb dX5_isLine_355 (by decide) ?_
                        exact hJ66 (1 : Int32) hM H locs ls hP hS (lv_sub hl [] rfl)
                  · replace hM := if_at_neg hM c13_5
                    by_cases c13_6 : (mM_11 7 i1.toNatClampNeg) = (6 : Int32)
                    · replace hM := if_at_pos hM c13_6
                      refine lv_tableIn (off := 131) (tgt := 363) hx hb dX5_isLine_232 (by rw [c13_6]; decide) (by rw [c13_6]; decide) (by rw [c13_6]; rfl) (by decide) ?_
                      refine lv_aload_n hx hb dX5_isLine_363 rfl (lv_at hl 0 rfl) ?_
                      refine lv_iload_n hx hb dX5_isLine_364 rfl (lv_at hl 1 rfl) ?_
                      obtain ⟨r73, mM_74, tk_75, hc76, hM⟩ := bnd3_at hM
                      refine co_i (va_runV (As := [.int i1]) (rest := []) ⟨hx, hb, hml, hown, hts⟩ (ctX5_isPath l D Y oM H.size mM_11 tk_2 i1 r73 mM_74 tk_75 hc76) (cwV 1 hts gX5_isLine_X5_isPath rfl rfl rfl (by decide +kernel) ⟨Nat.le_of_ble_eq_true rfl, Nat.le_of_ble_eq_true rfl⟩) (pcW_V0 (ci := 5) (q0 := 0) hK hP (hD.same rfl) rfl rfl) rfl rfl hl.1 rfl (lv_room (Nat.le_of_ble_eq_true rfl)) dX5_isLine_365 ⟨Nat.zero_le _, Nat.zero_le _⟩) (hD.same rfl) hS hA (fun H locs hP hS => ?_)
                      obtain ⟨hz77, hM⟩ := chkB_at hM
                      cases hM
                      rw [hQQ]
                      exact W.zret (ty := .boolean) hx hb hr hz77 (fun t ht hW => ⟨⟨_, (), rfl, rfl, by show va_P D vwCl _ t.heap; rw [ht]; exact hP⟩, hS.F ht⟩) hS.2.2 dX5_isLine_368
                    · replace hM := if_at_neg hM c13_6
                      by_cases c13_7 : (mM_11 7 i1.toNatClampNeg) = (7 : Int32)
                      · replace hM := if_at_pos hM c13_7
                        refine lv_tableIn (off := 137) (tgt := 369) hx hb dX5_isLine_232 (by rw [c13_7]; decide) (by rw [c13_7]; decide) (by rw [c13_7]; rfl) (by decide) ?_
                        refine lv_aload_n hx hb dX5_isLine_369 rfl (lv_at hl 0 rfl) ?_
                        refine lv_iload_n hx hb dX5_isLine_370 rfl (lv_at hl 1 rfl) ?_
                        obtain ⟨r78, mM_79, tk_80, hc81, hM⟩ := bnd3_at hM
                        refine co_i (va_runV (As := [.int i1]) (rest := []) ⟨hx, hb, hml, hown, hts⟩ (ctX5_isFeud l D Y oM H.size mM_11 tk_2 i1 r78 mM_79 tk_80 hc81) (cwV 1 hts gX5_isLine_X5_isFeud rfl rfl rfl (by decide +kernel) ⟨Nat.le_of_ble_eq_true rfl, Nat.le_of_ble_eq_true rfl⟩) (pcW_V0 (ci := 5) (q0 := 0) hK hP (hD.same rfl) rfl rfl) rfl rfl hl.1 rfl (lv_room (Nat.le_of_ble_eq_true rfl)) dX5_isLine_371 ⟨Nat.zero_le _, Nat.zero_le _⟩) (hD.same rfl) hS hA (fun H locs hP hS => ?_)
                        obtain ⟨hz82, hM⟩ := chkB_at hM
                        cases hM
                        rw [hQQ]
                        exact W.zret (ty := .boolean) hx hb hr hz82 (fun t ht hW => ⟨⟨_, (), rfl, rfl, by show va_P D vwCl _ t.heap; rw [ht]; exact hP⟩, hS.F ht⟩) hS.2.2 dX5_isLine_374
                      · replace hM := if_at_neg hM c13_7
                        by_cases c13_8 : (mM_11 7 i1.toNatClampNeg) = (8 : Int32)
                        · replace hM := if_at_pos hM c13_8
                          refine lv_tableIn (off := 143) (tgt := 375) hx hb dX5_isLine_232 (by rw [c13_8]; decide) (by rw [c13_8]; decide) (by rw [c13_8]; rfl) (by decide) ?_
                          refine lv_iconst (v := (1 : Int32)) hx hb dX5_isLine_375 (by decide) ?_
                          cases hM
                          rw [hQQ]
                          exact W.zret (ty := .boolean) hx hb hr rfl (fun t ht hW => ⟨⟨_, (), rfl, rfl, by show va_P D vwCl _ t.heap; rw [ht]; exact hP⟩, hS.F ht⟩) hS.2.2 dX5_isLine_376
                        · replace hM := if_at_neg hM c13_8
                          by_cases c13_9 : (mM_11 7 i1.toNatClampNeg) = (9 : Int32)
                          · replace hM := if_at_pos hM c13_9
                            refine lv_tableIn (off := 143) (tgt := 375) hx hb dX5_isLine_232 (by rw [c13_9]; decide) (by rw [c13_9]; decide) (by rw [c13_9]; rfl) (by decide) ?_
                            refine lv_iconst (v := (1 : Int32)) hx hb dX5_isLine_375 (by decide) ?_
                            cases hM
                            rw [hQQ]
                            exact W.zret (ty := .boolean) hx hb hr rfl (fun t ht hW => ⟨⟨_, (), rfl, rfl, by show va_P D vwCl _ t.heap; rw [ht]; exact hP⟩, hS.F ht⟩) hS.2.2 dX5_isLine_376
                          · replace hM := if_at_neg hM c13_9
                            by_cases c13_10 : (mM_11 7 i1.toNatClampNeg) = (10 : Int32)
                            · replace hM := if_at_pos hM c13_10
                              refine lv_tableIn (off := 143) (tgt := 375) hx hb dX5_isLine_232 (by rw [c13_10]; decide) (by rw [c13_10]; decide) (by rw [c13_10]; rfl) (by decide) ?_
                              refine lv_iconst (v := (1 : Int32)) hx hb dX5_isLine_375 (by decide) ?_
                              cases hM
                              rw [hQQ]
                              exact W.zret (ty := .boolean) hx hb hr rfl (fun t ht hW => ⟨⟨_, (), rfl, rfl, by show va_P D vwCl _ t.heap; rw [ht]; exact hP⟩, hS.F ht⟩) hS.2.2 dX5_isLine_376
                            · replace hM := if_at_neg hM c13_10
                              by_cases c13_11 : (mM_11 7 i1.toNatClampNeg) = (11 : Int32)
                              · replace hM := if_at_pos hM c13_11
                                refine lv_tableIn (off := 145) (tgt := 377) hx hb dX5_isLine_232 (by rw [c13_11]; decide) (by rw [c13_11]; decide) (by rw [c13_11]; rfl) (by decide) ?_
                                refine lv_aload_n hx hb dX5_isLine_377 rfl (lv_at hl 0 rfl) ?_
                                refine lv_iload_n hx hb dX5_isLine_378 rfl (lv_at hl 1 rfl) ?_
                                refine lv_iconst (v := (1 : Int32)) hx hb dX5_isLine_379 (by decide) ?_
                                refine lv_iadd hx hb dX5_isLine_380 ?_
                                refine lv_iconst (v := (1 : Int32)) hx hb dX5_isLine_381 (by decide) ?_
                                refine lv_sipush (v := (9999 : Int32)) hx hb dX5_isLine_382 (by decide) ?_
                                obtain ⟨r83, mM_84, tk_85, hc86, hM⟩ := bnd3_at hM
                                refine co_i (va_runV (As := [.int (i1 + (1 : Int32)), .int (1 : Int32), .int (9999 : Int32)]) (rest := []) ⟨hx, hb, hml, hown, hts⟩ (ctX5_isNumber l D Y oM H.size mM_11 tk_2 (i1 + (1 : Int32)) (1 : Int32) (9999 : Int32) r83 mM_84 tk_85 hc86) (cwV 3 hts gX5_isLine_X5_isNumber rfl rfl rfl (by decide +kernel) ⟨Nat.le_of_ble_eq_true rfl, Nat.le_of_ble_eq_true rfl⟩) (pcW_V0 (ci := 5) (q0 := 0) hK hP (hD.same rfl) rfl rfl) rfl rfl hl.1 rfl (lv_room (Nat.le_of_ble_eq_true rfl)) dX5_isLine_385 ⟨Nat.zero_le _, Nat.zero_le _⟩) (hD.same rfl) hS hA (fun H locs hP hS => ?_)
                                obtain ⟨hz87, hM⟩ := chkB_at hM
                                cases hM
                                rw [hQQ]
                                exact W.zret (ty := .boolean) hx hb hr hz87 (fun t ht hW => ⟨⟨_, (), rfl, rfl, by show va_P D vwCl _ t.heap; rw [ht]; exact hP⟩, hS.F ht⟩) hS.2.2 dX5_isLine_388
                              · replace hM := if_at_neg hM c13_11
                                by_cases c13_12 : (mM_11 7 i1.toNatClampNeg) = (12 : Int32)
                                · replace hM := if_at_pos hM c13_12
                                  refine lv_tableIn (off := 157) (tgt := 389) hx hb dX5_isLine_232 (by rw [c13_12]; decide) (by rw [c13_12]; decide) (by rw [c13_12]; rfl) (by decide) ?_
                                  refine lv_aload_n hx hb dX5_isLine_389 rfl (lv_at hl 0 rfl) ?_
                                  refine lv_iconst (v := (0 : Int32)) hx hb dX5_isLine_390 (by decide) ?_
                                  refine va_put (ty := .int) hx hb hts hi5 tyX5 tyX5_ok nmX5 hown hK hP (hD.same rfl) hS 0 rfl rfl 21 (by decide) (hts (.fieldLink RX5 143 "NightPlotsModel" "readHouses" "I") (List.mem_of_getElem? (i := 17) rfl)) (fun _ h9 => h9) rfl (by decide +kernel) rfl rfl (Nat.le_of_ble_eq_true rfl) dX5_isLine_391 (fun H locs hP _ hS => ?_)
                                  obtain ⟨mM_88, emM_88⟩ : ∃ z : GS, z = (up2 mM_11 0 21 (0 : Int32)) := ⟨_, rfl⟩
                                  have hP : va_P D vwCl (cMod Y oM mM_88 tk_2) H := by rw [emM_88]; exact hP
                                  replace hM := nm_at hM emM_88
                                  refine lv_aload_n hx hb dX5_isLine_394 rfl (lv_at hl 0 rfl) ?_
                                  refine lv_iconst (v := (0 : Int32)) hx hb dX5_isLine_395 (by decide) ?_
                                  refine va_put (ty := .int) hx hb hts hi5 tyX5 tyX5_ok nmX5 hown hK hP (hD.same rfl) hS 0 rfl rfl 22 (by decide) (hts (.fieldLink RX5 146 "NightPlotsModel" "readFull" "I") (List.mem_of_getElem? (i := 18) rfl)) (fun _ h9 => h9) rfl (by decide +kernel) rfl rfl (Nat.le_of_ble_eq_true rfl) dX5_isLine_396 (fun H locs hP _ hS => ?_)
                                  obtain ⟨mM_89, emM_89⟩ : ∃ z : GS, z = (up2 mM_88 0 22 (0 : Int32)) := ⟨_, rfl⟩
                                  have hP : va_P D vwCl (cMod Y oM mM_89 tk_2) H := by rw [emM_89]; exact hP
                                  replace hM := nm_at hM emM_89
                                  refine lv_aload_n hx hb dX5_isLine_399 rfl (lv_at hl 0 rfl) ?_
                                  refine lv_iconst (v := (0 : Int32)) hx hb dX5_isLine_400 (by decide) ?_
                                  refine va_put (ty := .int) hx hb hts hi5 tyX5 tyX5_ok nmX5 hown hK hP (hD.same rfl) hS 0 rfl rfl 24 (by decide) (hts (.fieldLink RX5 152 "NightPlotsModel" "readFeuds" "I") (List.mem_of_getElem? (i := 19) rfl)) (fun _ h9 => h9) rfl (by decide +kernel) rfl rfl (Nat.le_of_ble_eq_true rfl) dX5_isLine_401 (fun H locs hP _ hS => ?_)
                                  obtain ⟨mM_90, emM_90⟩ : ∃ z : GS, z = (up2 mM_89 0 24 (0 : Int32)) := ⟨_, rfl⟩
                                  have hP : va_P D vwCl (cMod Y oM mM_90 tk_2) H := by rw [emM_90]; exact hP
                                  replace hM := nm_at hM emM_90
                                  refine lv_iconst (v := (1 : Int32)) hx hb dX5_isLine_404 (by decide) ?_
                                  cases hM
                                  rw [hQQ]
                                  exact W.zret (ty := .boolean) hx hb hr rfl (fun t ht hW => ⟨⟨_, (), rfl, rfl, by show va_P D vwCl _ t.heap; rw [ht]; exact hP⟩, hS.F ht⟩) hS.2.2 dX5_isLine_405
                                · replace hM := if_at_neg hM c13_12
                                  refine lv_tableOut (tgt := 406) hx hb dX5_isLine_232 (by have n13_0 := lv_neT (a := 0) c13_0 rfl; have n13_1 := lv_neT (a := 1) c13_1 rfl; have n13_2 := lv_neT (a := 2) c13_2 rfl; have n13_3 := lv_neT (a := 3) c13_3 rfl; have n13_4 := lv_neT (a := 4) c13_4 rfl; have n13_5 := lv_neT (a := 5) c13_5 rfl; have n13_6 := lv_neT (a := 6) c13_6 rfl; have n13_7 := lv_neT (a := 7) c13_7 rfl; have n13_8 := lv_neT (a := 8) c13_8 rfl; have n13_9 := lv_neT (a := 9) c13_9 rfl; have n13_10 := lv_neT (a := 10) c13_10 rfl; have n13_11 := lv_neT (a := 11) c13_11 rfl; have n13_12 := lv_neT (a := 12) c13_12 rfl; omega) (by decide) ?_
                                  refine lv_aload_n hx hb dX5_isLine_406 rfl (lv_at hl 0 rfl) ?_
                                  obtain ⟨r91, mM_92, hc93, hM⟩ := bnd2_at hM
                                  refine co_i (va_runV (As := []) (rest := []) ⟨hx, hb, hml, hown, hts⟩ (ctX5_fails l D Y oM H.size mM_11 tk_2 r91 mM_92 hc93) (cwV 0 hts gX5_isLine_X5_fails rfl rfl rfl (by decide +kernel) ⟨Nat.le_of_ble_eq_true rfl, Nat.le_of_ble_eq_true rfl⟩) (pcW_V0 (ci := 5) (q0 := 0) hK hP (hD.same rfl) rfl rfl) rfl rfl hl.1 rfl (lv_room (Nat.le_of_ble_eq_true rfl)) dX5_isLine_407 ⟨Nat.zero_le _, Nat.zero_le _⟩) (hD.same rfl) hS hA (fun H locs hP hS => ?_)
                                  obtain ⟨hz94, hM⟩ := chkB_at hM
                                  cases hM
                                  rw [hQQ]
                                  exact W.zret (ty := .boolean) hx hb hr hz94 (fun t ht hW => ⟨⟨_, (), rfl, rfl, by show va_P D vwCl _ t.heap; rw [ht]; exact hP⟩, hS.F ht⟩) hS.2.2 dX5_isLine_410
      · refine lv_icmp_ne (tgt := 224) hx hb dX5_isLine_217 (by decide) (fun c95 => ?_) (fun c95 => ?_)
        · replace hM := if_at_neg hM c95
          refine lv_iload_n hx hb dX5_isLine_224 rfl (lv_at hl 3 rfl) ?_
          exact hJ9 x4 hM H locs ls hP hS (lv_sub hl [1, 2] rfl)
        · replace hM := if_at_pos hM c95
          refine lv_iload_n hx hb dX5_isLine_220 rfl (lv_at hl 0 rfl) ?_
          refine lv_goto (tgt := 225) hx hb dX5_isLine_221 (by decide) ?_
          exact hJ9 x6 hM H locs ls hP hS (lv_sub hl [1, 2] rfl)
    · refine lv_if_ne (tgt := 128) hx hb dX5_isLine_120 (by decide) (fun c96 => ?_) (fun c96 => ?_)
      · replace hM := if_at_neg hM c96
        refine lv_aload_n hx hb dX5_isLine_128 rfl (lv_at hl 1 rfl) ?_
        refine va_get hx hb hts hi5 hown hK hP 0 rfl rfl 15 (by decide) (hts (.fieldLink RX5 113 "NightPlotsModel" "token" "J") (List.mem_of_getElem? (i := 1) rfl)) (fun _ h9 => h9) rfl dX5_isLine_129 ?_
        refine lv_ldc2 (v := (923 : Int64)) hx hb hown (hts (.constantLong RX5 175 (923)) (List.mem_of_getElem? (i := 10) rfl)) dX5_isLine_132 ?_
        refine W.lcmp hx hb dX5_isLine_135 ?_
        refine lv_if_ne (tgt := 144) hx hb dX5_isLine_136 (by decide) (fun c97 => ?_) (fun c97 => ?_)
        · replace hM := if_at_neg hM c97
          refine lv_aload_n hx hb dX5_isLine_144 rfl (lv_at hl 1 rfl) ?_
          refine va_get hx hb hts hi5 hown hK hP 0 rfl rfl 15 (by decide) (hts (.fieldLink RX5 113 "NightPlotsModel" "token" "J") (List.mem_of_getElem? (i := 1) rfl)) (fun _ h9 => h9) rfl dX5_isLine_145 ?_
          refine lv_ldc2 (v := (409469 : Int64)) hx hb hown (hts (.constantLong RX5 177 (409469)) (List.mem_of_getElem? (i := 11) rfl)) dX5_isLine_148 ?_
          refine W.lcmp hx hb dX5_isLine_151 ?_
          refine lv_if_ne (tgt := 160) hx hb dX5_isLine_152 (by decide) (fun c98 => ?_) (fun c98 => ?_)
          · replace hM := if_at_neg hM c98
            refine lv_aload_n hx hb dX5_isLine_160 rfl (lv_at hl 1 rfl) ?_
            refine va_get hx hb hts hi5 hown hK hP 0 rfl rfl 15 (by decide) (hts (.fieldLink RX5 113 "NightPlotsModel" "token" "J") (List.mem_of_getElem? (i := 1) rfl)) (fun _ h9 => h9) rfl dX5_isLine_161 ?_
            refine lv_ldc2 (v := (358472 : Int64)) hx hb hown (hts (.constantLong RX5 179 (358472)) (List.mem_of_getElem? (i := 12) rfl)) dX5_isLine_164 ?_
            refine W.lcmp hx hb dX5_isLine_167 ?_
            refine lv_if_ne (tgt := 176) hx hb dX5_isLine_168 (by decide) (fun c99 => ?_) (fun c99 => ?_)
            · replace hM := if_at_neg hM c99
              refine lv_aload_n hx hb dX5_isLine_176 rfl (lv_at hl 1 rfl) ?_
              refine va_get hx hb hts hi5 hown hK hP 0 rfl rfl 15 (by decide) (hts (.fieldLink RX5 113 "NightPlotsModel" "token" "J") (List.mem_of_getElem? (i := 1) rfl)) (fun _ h9 => h9) rfl dX5_isLine_177 ?_
              refine lv_ldc2 (v := (9173 : Int64)) hx hb hown (hts (.constantLong RX5 181 (9173)) (List.mem_of_getElem? (i := 13) rfl)) dX5_isLine_180 ?_
              refine W.lcmp hx hb dX5_isLine_183 ?_
              refine lv_if_ne (tgt := 192) hx hb dX5_isLine_184 (by decide) (fun c100 => ?_) (fun c100 => ?_)
              · replace hM := if_at_neg hM c100
                refine lv_aload_n hx hb dX5_isLine_192 rfl (lv_at hl 1 rfl) ?_
                refine va_get hx hb hts hi5 hown hK hP 0 rfl rfl 15 (by decide) (hts (.fieldLink RX5 113 "NightPlotsModel" "token" "J") (List.mem_of_getElem? (i := 1) rfl)) (fun _ h9 => h9) rfl dX5_isLine_193 ?_
                refine lv_ldc2 (v := (1834209 : Int64)) hx hb hown (hts (.constantLong RX5 183 (1834209)) (List.mem_of_getElem? (i := 14) rfl)) dX5_isLine_196 ?_
                refine W.lcmp hx hb dX5_isLine_199 ?_
                refine lv_if_ne (tgt := 208) hx hb dX5_isLine_200 (by decide) (fun c101 => ?_) (fun c101 => ?_)
                · replace hM := if_at_neg hM c101
                  refine lv_iconst (v := (-1 : Int32)) hx hb dX5_isLine_208 (by decide) ?_
                  exact hJ7 (-1 : Int32) hM H locs ls hP hS (lv_sub hl [1, 2, 0] rfl)
                · replace hM := if_at_pos hM c101
                  refine lv_bipush (v := (12 : Int32)) hx hb dX5_isLine_203 (by decide) ?_
                  refine lv_goto (tgt := 209) hx hb dX5_isLine_205 (by decide) ?_
                  exact hJ7 (12 : Int32) hM H locs ls hP hS (lv_sub hl [1, 2, 0] rfl)
              · replace hM := if_at_pos hM c100
                refine lv_bipush (v := (11 : Int32)) hx hb dX5_isLine_187 (by decide) ?_
                refine lv_goto (tgt := 209) hx hb dX5_isLine_189 (by decide) ?_
                exact hJ7 (11 : Int32) hM H locs ls hP hS (lv_sub hl [1, 2, 0] rfl)
            · replace hM := if_at_pos hM c99
              refine lv_bipush (v := (10 : Int32)) hx hb dX5_isLine_171 (by decide) ?_
              refine lv_goto (tgt := 209) hx hb dX5_isLine_173 (by decide) ?_
              exact hJ7 (10 : Int32) hM H locs ls hP hS (lv_sub hl [1, 2, 0] rfl)
          · replace hM := if_at_pos hM c98
            refine lv_bipush (v := (9 : Int32)) hx hb dX5_isLine_155 (by decide) ?_
            refine lv_goto (tgt := 209) hx hb dX5_isLine_157 (by decide) ?_
            exact hJ7 (9 : Int32) hM H locs ls hP hS (lv_sub hl [1, 2, 0] rfl)
        · replace hM := if_at_pos hM c97
          refine lv_bipush (v := (8 : Int32)) hx hb dX5_isLine_139 (by decide) ?_
          refine lv_goto (tgt := 209) hx hb dX5_isLine_141 (by decide) ?_
          exact hJ7 (8 : Int32) hM H locs ls hP hS (lv_sub hl [1, 2, 0] rfl)
      · replace hM := if_at_pos hM c96
        refine lv_bipush (v := (7 : Int32)) hx hb dX5_isLine_123 (by decide) ?_
        refine lv_goto (tgt := 209) hx hb dX5_isLine_125 (by decide) ?_
        exact hJ7 (7 : Int32) hM H locs ls hP hS (lv_sub hl [1, 2, 0] rfl)
  · refine lv_if_ne (tgt := 19) hx hb dX5_isLine_12 (by decide) (fun c102 => ?_) (fun c102 => ?_)
    · replace hM := if_at_neg hM c102
      refine lv_aload_n hx hb dX5_isLine_19 rfl (lv_at hl 0 rfl) ?_
      refine va_get hx hb hts hi5 hown hK hP 0 rfl rfl 15 (by decide) (hts (.fieldLink RX5 113 "NightPlotsModel" "token" "J") (List.mem_of_getElem? (i := 1) rfl)) (fun _ h9 => h9) rfl dX5_isLine_20 ?_
      refine lv_ldc2 (v := (72592 : Int64)) hx hb hown (hts (.constantLong RX5 161 (72592)) (List.mem_of_getElem? (i := 3) rfl)) dX5_isLine_23 ?_
      refine W.lcmp hx hb dX5_isLine_26 ?_
      refine lv_if_ne (tgt := 34) hx hb dX5_isLine_27 (by decide) (fun c103 => ?_) (fun c103 => ?_)
      · replace hM := if_at_neg hM c103
        refine lv_aload_n hx hb dX5_isLine_34 rfl (lv_at hl 0 rfl) ?_
        refine va_get hx hb hts hi5 hown hK hP 0 rfl rfl 15 (by decide) (hts (.fieldLink RX5 113 "NightPlotsModel" "token" "J") (List.mem_of_getElem? (i := 1) rfl)) (fun _ h9 => h9) rfl dX5_isLine_35 ?_
        refine lv_ldc2 (v := (201783983 : Int64)) hx hb hown (hts (.constantLong RX5 163 (201783983)) (List.mem_of_getElem? (i := 4) rfl)) dX5_isLine_38 ?_
        refine W.lcmp hx hb dX5_isLine_41 ?_
        refine lv_if_ne (tgt := 49) hx hb dX5_isLine_42 (by decide) (fun c104 => ?_) (fun c104 => ?_)
        · replace hM := if_at_neg hM c104
          refine lv_aload_n hx hb dX5_isLine_49 rfl (lv_at hl 0 rfl) ?_
          refine va_get hx hb hts hi5 hown hK hP 0 rfl rfl 15 (by decide) (hts (.fieldLink RX5 113 "NightPlotsModel" "token" "J") (List.mem_of_getElem? (i := 1) rfl)) (fun _ h9 => h9) rfl dX5_isLine_50 ?_
          refine lv_ldc2 (v := (60284 : Int64)) hx hb hown (hts (.constantLong RX5 165 (60284)) (List.mem_of_getElem? (i := 5) rfl)) dX5_isLine_53 ?_
          refine W.lcmp hx hb dX5_isLine_56 ?_
          refine lv_if_ne (tgt := 64) hx hb dX5_isLine_57 (by decide) (fun c105 => ?_) (fun c105 => ?_)
          · replace hM := if_at_neg hM c105
            refine lv_aload_n hx hb dX5_isLine_64 rfl (lv_at hl 0 rfl) ?_
            refine va_get hx hb hts hi5 hown hK hP 0 rfl rfl 15 (by decide) (hts (.fieldLink RX5 113 "NightPlotsModel" "token" "J") (List.mem_of_getElem? (i := 1) rfl)) (fun _ h9 => h9) rfl dX5_isLine_65 ?_
            refine lv_ldc2 (v := (10506440 : Int64)) hx hb hown (hts (.constantLong RX5 167 (10506440)) (List.mem_of_getElem? (i := 6) rfl)) dX5_isLine_68 ?_
            refine W.lcmp hx hb dX5_isLine_71 ?_
            refine lv_if_ne (tgt := 79) hx hb dX5_isLine_72 (by decide) (fun c106 => ?_) (fun c106 => ?_)
            · replace hM := if_at_neg hM c106
              refine lv_aload_n hx hb dX5_isLine_79 rfl (lv_at hl 0 rfl) ?_
              refine va_get hx hb hts hi5 hown hK hP 0 rfl rfl 15 (by decide) (hts (.fieldLink RX5 113 "NightPlotsModel" "token" "J") (List.mem_of_getElem? (i := 1) rfl)) (fun _ h9 => h9) rfl dX5_isLine_80 ?_
              refine lv_ldc2 (v := (459383 : Int64)) hx hb hown (hts (.constantLong RX5 169 (459383)) (List.mem_of_getElem? (i := 7) rfl)) dX5_isLine_83 ?_
              refine W.lcmp hx hb dX5_isLine_86 ?_
              refine lv_if_ne (tgt := 94) hx hb dX5_isLine_87 (by decide) (fun c107 => ?_) (fun c107 => ?_)
              · replace hM := if_at_neg hM c107
                refine lv_aload_n hx hb dX5_isLine_94 rfl (lv_at hl 0 rfl) ?_
                refine va_get hx hb hts hi5 hown hK hP 0 rfl rfl 15 (by decide) (hts (.fieldLink RX5 113 "NightPlotsModel" "token" "J") (List.mem_of_getElem? (i := 1) rfl)) (fun _ h9 => h9) rfl dX5_isLine_95 ?_
                refine lv_ldc2 (v := (316205 : Int64)) hx hb hown (hts (.constantLong RX5 171 (316205)) (List.mem_of_getElem? (i := 8) rfl)) dX5_isLine_98 ?_
                refine W.lcmp hx hb dX5_isLine_101 ?_
                refine lv_if_ne (tgt := 110) hx hb dX5_isLine_102 (by decide) (fun c108 => ?_) (fun c108 => ?_)
                · replace hM := if_at_neg hM c108
                  refine lv_iconst (v := (-1 : Int32)) hx hb dX5_isLine_110 (by decide) ?_
                  exact hJ5 (-1 : Int32) hM H locs ls hP hS (lv_sub hl [0, 1] rfl)
                · replace hM := if_at_pos hM c108
                  refine lv_bipush (v := (6 : Int32)) hx hb dX5_isLine_105 (by decide) ?_
                  refine lv_goto (tgt := 111) hx hb dX5_isLine_107 (by decide) ?_
                  exact hJ5 (6 : Int32) hM H locs ls hP hS (lv_sub hl [0, 1] rfl)
              · replace hM := if_at_pos hM c107
                refine lv_iconst (v := (5 : Int32)) hx hb dX5_isLine_90 (by decide) ?_
                refine lv_goto (tgt := 111) hx hb dX5_isLine_91 (by decide) ?_
                exact hJ5 (5 : Int32) hM H locs ls hP hS (lv_sub hl [0, 1] rfl)
            · replace hM := if_at_pos hM c106
              refine lv_iconst (v := (4 : Int32)) hx hb dX5_isLine_75 (by decide) ?_
              refine lv_goto (tgt := 111) hx hb dX5_isLine_76 (by decide) ?_
              exact hJ5 (4 : Int32) hM H locs ls hP hS (lv_sub hl [0, 1] rfl)
          · replace hM := if_at_pos hM c105
            refine lv_iconst (v := (3 : Int32)) hx hb dX5_isLine_60 (by decide) ?_
            refine lv_goto (tgt := 111) hx hb dX5_isLine_61 (by decide) ?_
            exact hJ5 (3 : Int32) hM H locs ls hP hS (lv_sub hl [0, 1] rfl)
        · replace hM := if_at_pos hM c104
          refine lv_iconst (v := (2 : Int32)) hx hb dX5_isLine_45 (by decide) ?_
          refine lv_goto (tgt := 111) hx hb dX5_isLine_46 (by decide) ?_
          exact hJ5 (2 : Int32) hM H locs ls hP hS (lv_sub hl [0, 1] rfl)
      · replace hM := if_at_pos hM c103
        refine lv_iconst (v := (1 : Int32)) hx hb dX5_isLine_30 (by decide) ?_
        refine lv_goto (tgt := 111) hx hb dX5_isLine_31 (by decide) ?_
        exact hJ5 (1 : Int32) hM H locs ls hP hS (lv_sub hl [0, 1] rfl)
    · replace hM := if_at_pos hM c102
      refine lv_iconst (v := (0 : Int32)) hx hb dX5_isLine_15 (by decide) ?_
      refine lv_goto (tgt := 111) hx hb dX5_isLine_16 (by decide) ?_
      exact hJ5 (0 : Int32) hM H locs ls hP hS (lv_sub hl [0, 1] rfl)
noncomputable def BX5_isRead_112 (k16 : GS → Int64 → Option (Int32 × GS × Int64)) (k30 : GS → Int64 → Option (Int32 × GS × Int64)) (rec34 : Int32 → GS → Int64 → Option (Int32 × GS × Int64)) (x31 : Int32) (mM_32 : GS) (tk_33 : Int64) : Option (Int32 × GS × Int64) := if x31 = 0 then (k16 mM_32 tk_33) else (bnd3 (MX5_isLine mM_32 tk_33 ((3 : Int32) * (mM_32 0 19))) fun (r36 : Int32) (mM_37 : GS) (tk_38 : Int64) => if r36 = 0 then (k30 mM_37 tk_38) else (nm ((mM_37 0 19) + (1 : Int32)) fun (x41 : Int32) => nm (up2 mM_37 0 19 x41) fun (mM_42 : GS) => bnd2 (MX5_nextToken mM_42 tk_38) fun (mM_43 : GS) (tk_44 : Int64) => jn1 (fun (x46 : Int32) => rec34 x46 mM_43 tk_44) (fun k47 => jn0 (k47 (0 : Int32)) (fun k48 => if (lg_cmp tk_44 (-3 : Int64)) = 0 then (if (12 : Int32) ≤ (mM_43 0 19) then (k48) else (k47 (1 : Int32))) else (k48)))))
noncomputable def BX5_isRead_49 (k13 : GS → Option (Int32 × GS × Int64)) (rec53 : Int32 → GS → Option (Int32 × GS × Int64)) (x51 : Int32) (mM_52 : GS) : Option (Int32 × GS × Int64) := if (mM_52 0 2) ≤ x51 then (k13 mM_52) else (chkI x51 8 (chkI x51 8 (jn1 (fun (x57 : Int32) => nm (((mM_52 0 22) ||| ((1 : Int32) <<< ((mM_52 3 x51.toNatClampNeg) &&& 31))) ||| x57) fun (x59 : Int32) => nm (up2 mM_52 0 22 x59) fun (mM_60 : GS) => nm (x51 + 1) fun (x61 : Int32) => rec53 x61 mM_60) (fun k58 => if (mM_52 2 x51.toNatClampNeg) = (3 : Int32) then (chkI x51 8 (chkZ (mM_52 0 0) (k58 ((1 : Int32) <<< ((((mM_52 3 x51.toNatClampNeg) + (1 : Int32)) - ((mM_52 3 x51.toNatClampNeg) + (1 : Int32)) / (mM_52 0 0) * (mM_52 0 0)) &&& 31))))) else (k58 (0 : Int32))))))
noncomputable def MX5_isRead (mM : GS) (tk : Int64) : Option (Int32 × GS × Int64) := nm (up2 mM 0 13 (0 : Int32)) fun (mM_1 : GS) => nm (up2 mM_1 0 19 (0 : Int32)) fun (mM_2 : GS) => nm (mM_2 0 0) fun (x3 : Int32) => nm (up2 mM_2 0 20 x3) fun (mM_4 : GS) => nm (mM_4 0 2) fun (x5 : Int32) => nm (up2 mM_4 0 21 x5) fun (mM_6 : GS) => nm (mM_6 0 5) fun (x7 : Int32) => nm (up2 mM_6 0 23 x7) fun (mM_8 : GS) => nm (mM_8 0 7) fun (x9 : Int32) => nm (up2 mM_8 0 24 x9) fun (mM_10 : GS) => nm (up2 mM_10 0 22 (0 : Int32)) fun (mM_11 : GS) => jn1 (fun (mM_12 : GS) => jn2 (fun (mM_14 : GS) (tk_15 : Int64) => jn2 (fun (mM_17 : GS) (x18 : Int32) => chkB x18 (some (x18, mM_17, tk_15))) (fun k19 => jn1 (fun (mM_21 : GS) => k19 mM_21 (1 : Int32)) (fun k22 => if (lg_cmp tk_15 (-2 : Int64)) = 0 then (k22 mM_14) else (bnd2 (MX5_fails mM_14) fun (r24 : Int32) (mM_25 : GS) => if r24 = 0 then (k19 mM_25 (0 : Int32)) else (k22 mM_25))))) (fun k16 => jn2 (fun (mM_28 : GS) (tk_29 : Int64) => some ((0 : Int32), mM_28, tk_29)) (fun k30 => lq3 (BX5_isRead_112 k16 k30) FU (1 : Int32) mM_12 tk))) (fun k13 => lq2 (BX5_isRead_49 k13) FU (0 : Int32) mM_11)
abbrev rmX5_isRead : Room := { frames := 7, cells := 0, slots := 0, locals := 280 }
set_option maxHeartbeats 4000000 in
set_option maxRecDepth 100000 in
theorem ctX5_isRead (l : Launch) (D : va_G) (Y : Nat → ClassId) (oM : Nat → Nat) (sz : Nat) (mM : GS) (tk : Int64) (rr : Int32) (mMz : GS) (tkz : Int64) (hM : MX5_isRead mM tk = some (rr, mMz, tkz)) : Met l yX5_isRead wsX5_isRead rmX5_isRead (pcW [.ref (oM 0)] sz D Y (cMod Y oM mM tk)) (qiW rr D (cMod Y oM mMz tkz) (va_A (cMod Y oM mM tk) sz)) 0 0 (va_A (cMod Y oM mM tk) sz) := by
  refine Met.ofW (cc := cX5_isRead) (maxL := 2) (ret := (some .boolean)) (by decide) rfl ?_
  intro p e s m args below meth c s₁ B hml hv
  obtain ⟨rfl, hsz, hP, hK, hD0⟩ := hv
  have hx := B.exec
  have hb := B.bytes
  have hr := B.returns
  have hts := atoms_spec (ws := wsX5_isRead) B.pre
  have hown : s.vm.findClass RX5 = some m.cls := findClass_of_methodNamed B.named
  have hlocks := B.notSynchronized
  subst hsz
  have hD := hD0.self (sz := s.heap.size)
  generalize hAe : va_A (cMod Y oM mM tk) s.heap.size = A at hD ⊢
  have hA : ∀ q : Nat, s.heap.size ≤ q → A q := fun q h => by rw [← hAe]; exact Or.inr h
  have hS : va_S A s.heap s.heap [] := va_S.rf
  have hi5 : ∀ w ∈ wsX50, w ∈ wsX5_isRead := fun w h => List.mem_cons_of_mem _ (List.mem_append_right _ h)
  have hl := lv_entry ([.ref (oM 0)]) (n := 2) (Nat.le_of_ble_eq_true rfl)
  rw [lg_entry_eq]
  generalize (lg_sl ([.ref (oM 0)]) ++ List.replicate (2 - (lg_sl ([.ref (oM 0)])).length) Slot.unset).toArray = ls at hl ⊢
  have hl : lv_has ls 2 [(0, .ref (oM 0))] := hl
  obtain ⟨QQ, hQQ⟩ : ∃ Q : State → Prop, Q = MQ below (qiW rr D (cMod Y oM mMz tkz) A) ([.ref (oM 0)] : List Value).toArray s 0 0 A := ⟨_, rfl⟩
  rw [← hQQ]
  unfold MX5_isRead at hM
  suffices hI : ∀ (H : Heap) (locs : List Loc), va_P D vwCl (cMod Y oM mM tk) H → va_S A s.heap H locs → W p l e (headSpec wsX5_isRead rmX5_isRead).room s m ([.ref (oM 0)] : List Value).toArray below meth c H locs 0 0 QQ (F0 m 0 ls []) from hI _ _ hP hS
  clear hP hS
  intro H locs hP hS
  refine lv_aload_n hx hb dX5_isRead_0 rfl (lv_at hl 0 rfl) ?_
  refine lv_iconst (v := (0 : Int32)) hx hb dX5_isRead_1 (by decide) ?_
  refine va_put (ty := .int) hx hb hts hi5 tyX5 tyX5_ok nmX5 hown hK hP (hD.same rfl) hS 0 rfl rfl 13 (by decide) (hts (.fieldLink RX5 99 "NightPlotsModel" "position" "I") (List.mem_of_getElem? (i := 1) rfl)) (fun _ h9 => h9) rfl (by decide +kernel) rfl rfl (Nat.le_of_ble_eq_true rfl) dX5_isRead_2 (fun H locs hP _ hS => ?_)
  obtain ⟨mM_1, emM_1⟩ : ∃ z : GS, z = (up2 mM 0 13 (0 : Int32)) := ⟨_, rfl⟩
  have hP : va_P D vwCl (cMod Y oM mM_1 tk) H := by rw [emM_1]; exact hP
  replace hM := nm_at hM emM_1
  refine lv_aload_n hx hb dX5_isRead_5 rfl (lv_at hl 0 rfl) ?_
  refine lv_iconst (v := (0 : Int32)) hx hb dX5_isRead_6 (by decide) ?_
  refine va_put (ty := .int) hx hb hts hi5 tyX5 tyX5_ok nmX5 hown hK hP (hD.same rfl) hS 0 rfl rfl 19 (by decide) (hts (.fieldLink RX5 199 "NightPlotsModel" "readMany" "I") (List.mem_of_getElem? (i := 2) rfl)) (fun _ h9 => h9) rfl (by decide +kernel) rfl rfl (Nat.le_of_ble_eq_true rfl) dX5_isRead_7 (fun H locs hP _ hS => ?_)
  obtain ⟨mM_2, emM_2⟩ : ∃ z : GS, z = (up2 mM_1 0 19 (0 : Int32)) := ⟨_, rfl⟩
  have hP : va_P D vwCl (cMod Y oM mM_2 tk) H := by rw [emM_2]; exact hP
  replace hM := nm_at hM emM_2
  refine lv_aload_n hx hb dX5_isRead_10 rfl (lv_at hl 0 rfl) ?_
  refine lv_aload_n hx hb dX5_isRead_11 rfl (lv_at hl 0 rfl) ?_
  refine va_get hx hb hts hi5 hown hK hP 0 rfl rfl 0 (by decide) (hts (.fieldLink RX5 7 "NightPlotsModel" "plots" "I") (List.mem_of_getElem? (i := 3) rfl)) (fun _ h9 => h9) rfl dX5_isRead_12 ?_
  refine lv_topi (fun x3 ex3 => ?_)
  replace hM := nm_at hM ex3
  refine va_put (ty := .int) hx hb hts hi5 tyX5 tyX5_ok nmX5 hown hK hP (hD.same rfl) hS 0 rfl rfl 20 (by decide) (hts (.fieldLink RX5 140 "NightPlotsModel" "readPlots" "I") (List.mem_of_getElem? (i := 4) rfl)) (fun _ h9 => h9) rfl (by decide +kernel) rfl rfl (Nat.le_of_ble_eq_true rfl) dX5_isRead_15 (fun H locs hP _ hS => ?_)
  obtain ⟨mM_4, emM_4⟩ : ∃ z : GS, z = (up2 mM_2 0 20 x3) := ⟨_, rfl⟩
  have hP : va_P D vwCl (cMod Y oM mM_4 tk) H := by rw [emM_4]; exact hP
  replace hM := nm_at hM emM_4
  refine lv_aload_n hx hb dX5_isRead_18 rfl (lv_at hl 0 rfl) ?_
  refine lv_aload_n hx hb dX5_isRead_19 rfl (lv_at hl 0 rfl) ?_
  refine va_get hx hb hts hi5 hown hK hP 0 rfl rfl 2 (by decide) (hts (.fieldLink RX5 78 "NightPlotsModel" "houses" "I") (List.mem_of_getElem? (i := 5) rfl)) (fun _ h9 => h9) rfl dX5_isRead_20 ?_
  refine lv_topi (fun x5 ex5 => ?_)
  replace hM := nm_at hM ex5
  refine va_put (ty := .int) hx hb hts hi5 tyX5 tyX5_ok nmX5 hown hK hP (hD.same rfl) hS 0 rfl rfl 21 (by decide) (hts (.fieldLink RX5 143 "NightPlotsModel" "readHouses" "I") (List.mem_of_getElem? (i := 6) rfl)) (fun _ h9 => h9) rfl (by decide +kernel) rfl rfl (Nat.le_of_ble_eq_true rfl) dX5_isRead_23 (fun H locs hP _ hS => ?_)
  obtain ⟨mM_6, emM_6⟩ : ∃ z : GS, z = (up2 mM_4 0 21 x5) := ⟨_, rfl⟩
  have hP : va_P D vwCl (cMod Y oM mM_6 tk) H := by rw [emM_6]; exact hP
  replace hM := nm_at hM emM_6
  refine lv_aload_n hx hb dX5_isRead_26 rfl (lv_at hl 0 rfl) ?_
  refine lv_aload_n hx hb dX5_isRead_27 rfl (lv_at hl 0 rfl) ?_
  refine va_get hx hb hts hi5 hown hK hP 0 rfl rfl 5 (by decide) (hts (.fieldLink RX5 85 "NightPlotsModel" "paths" "I") (List.mem_of_getElem? (i := 7) rfl)) (fun _ h9 => h9) rfl dX5_isRead_28 ?_
  refine lv_topi (fun x7 ex7 => ?_)
  replace hM := nm_at hM ex7
  refine va_put (ty := .int) hx hb hts hi5 tyX5 tyX5_ok nmX5 hown hK hP (hD.same rfl) hS 0 rfl rfl 23 (by decide) (hts (.fieldLink RX5 149 "NightPlotsModel" "readPaths" "I") (List.mem_of_getElem? (i := 8) rfl)) (fun _ h9 => h9) rfl (by decide +kernel) rfl rfl (Nat.le_of_ble_eq_true rfl) dX5_isRead_31 (fun H locs hP _ hS => ?_)
  obtain ⟨mM_8, emM_8⟩ : ∃ z : GS, z = (up2 mM_6 0 23 x7) := ⟨_, rfl⟩
  have hP : va_P D vwCl (cMod Y oM mM_8 tk) H := by rw [emM_8]; exact hP
  replace hM := nm_at hM emM_8
  refine lv_aload_n hx hb dX5_isRead_34 rfl (lv_at hl 0 rfl) ?_
  refine lv_aload_n hx hb dX5_isRead_35 rfl (lv_at hl 0 rfl) ?_
  refine va_get hx hb hts hi5 hown hK hP 0 rfl rfl 7 (by decide) (hts (.fieldLink RX5 88 "NightPlotsModel" "feuds" "I") (List.mem_of_getElem? (i := 9) rfl)) (fun _ h9 => h9) rfl dX5_isRead_36 ?_
  refine lv_topi (fun x9 ex9 => ?_)
  replace hM := nm_at hM ex9
  refine va_put (ty := .int) hx hb hts hi5 tyX5 tyX5_ok nmX5 hown hK hP (hD.same rfl) hS 0 rfl rfl 24 (by decide) (hts (.fieldLink RX5 152 "NightPlotsModel" "readFeuds" "I") (List.mem_of_getElem? (i := 10) rfl)) (fun _ h9 => h9) rfl (by decide +kernel) rfl rfl (Nat.le_of_ble_eq_true rfl) dX5_isRead_39 (fun H locs hP _ hS => ?_)
  obtain ⟨mM_10, emM_10⟩ : ∃ z : GS, z = (up2 mM_8 0 24 x9) := ⟨_, rfl⟩
  have hP : va_P D vwCl (cMod Y oM mM_10 tk) H := by rw [emM_10]; exact hP
  replace hM := nm_at hM emM_10
  refine lv_aload_n hx hb dX5_isRead_42 rfl (lv_at hl 0 rfl) ?_
  refine lv_iconst (v := (0 : Int32)) hx hb dX5_isRead_43 (by decide) ?_
  refine va_put (ty := .int) hx hb hts hi5 tyX5 tyX5_ok nmX5 hown hK hP (hD.same rfl) hS 0 rfl rfl 22 (by decide) (hts (.fieldLink RX5 146 "NightPlotsModel" "readFull" "I") (List.mem_of_getElem? (i := 11) rfl)) (fun _ h9 => h9) rfl (by decide +kernel) rfl rfl (Nat.le_of_ble_eq_true rfl) dX5_isRead_44 (fun H locs hP _ hS => ?_)
  obtain ⟨mM_11, emM_11⟩ : ∃ z : GS, z = (up2 mM_10 0 22 (0 : Int32)) := ⟨_, rfl⟩
  have hP : va_P D vwCl (cMod Y oM mM_11 tk) H := by rw [emM_11]; exact hP
  replace hM := nm_at hM emM_11
  refine lv_iconst (v := (0 : Int32)) hx hb dX5_isRead_47 (by decide) ?_
  refine lv_istore_n (lv' := [(1, .int (0 : Int32)), (0, .ref (oM 0))]) hx hb dX5_isRead_48 rfl hl (by decide) rfl (fun ls hl => ?_)
  refine jn1_at (fun (mM_12 : GS) => ∀ (H : Heap) (locs : List Loc) (ls : Array Slot), va_P D vwCl (cMod Y oM mM_12 tk) H → va_S A s.heap H locs → lv_has ls 2 [(0, .ref (oM 0))] → W p l e (headSpec wsX5_isRead rmX5_isRead).room s m ([.ref (oM 0)] : List Value).toArray below meth c H locs 0 0 QQ (F0 m 110 ls [])) hM (fun mM_12 hM H locs ls hP hS hl => ?_) (fun k13 hJ13 hM => ?_)
  · refine lv_iconst (v := (1 : Int32)) hx hb dX5_isRead_110 (by decide) ?_
    refine lv_istore_n (lv' := [(1, .int (1 : Int32)), (0, .ref (oM 0))]) hx hb dX5_isRead_111 rfl hl (by decide) rfl (fun ls hl => ?_)
    refine jn2_at (fun (mM_14 : GS) (tk_15 : Int64) => ∀ (H : Heap) (locs : List Loc) (ls : Array Slot), va_P D vwCl (cMod Y oM mM_14 tk_15) H → va_S A s.heap H locs → lv_has ls 2 [(0, .ref (oM 0))] → W p l e (headSpec wsX5_isRead rmX5_isRead).room s m ([.ref (oM 0)] : List Value).toArray below meth c H locs 0 0 QQ (F0 m 174 ls [])) hM (fun mM_14 tk_15 hM H locs ls hP hS hl => ?_) (fun k16 hJ16 hM => ?_)
    · refine lv_aload_n hx hb dX5_isRead_174 rfl (lv_at hl 0 rfl) ?_
      refine va_get hx hb hts hi5 hown hK hP 0 rfl rfl 15 (by decide) (hts (.fieldLink RX5 113 "NightPlotsModel" "token" "J") (List.mem_of_getElem? (i := 14) rfl)) (fun _ h9 => h9) rfl dX5_isRead_175 ?_
      refine lv_ldc2 (v := (-2 : Int64)) hx hb hown (hts (.constantLong RX5 111 (-2)) (List.mem_of_getElem? (i := 16) rfl)) dX5_isRead_178 ?_
      refine W.lcmp hx hb dX5_isRead_181 ?_
      refine jn2_at (fun (mM_17 : GS) (x18 : Int32) => ∀ (H : Heap) (locs : List Loc) (ls : Array Slot), va_P D vwCl (cMod Y oM mM_17 tk_15) H → va_S A s.heap H locs → lv_has ls 2 [] → W p l e (headSpec wsX5_isRead rmX5_isRead).room s m ([.ref (oM 0)] : List Value).toArray below meth c H locs 0 0 QQ (F0 m 197 ls [.int x18])) hM (fun mM_17 x18 hM H locs ls hP hS hl => ?_) (fun k19 hJ19 hM => ?_)
      · obtain ⟨hz20, hM⟩ := chkB_at hM
        cases hM
        rw [hQQ]
        exact W.zret (ty := .boolean) hx hb hr hz20 (fun t ht hW => ⟨⟨_, (), rfl, rfl, by show va_P D vwCl _ t.heap; rw [ht]; exact hP⟩, hS.F ht⟩) hS.2.2 dX5_isRead_197
      · refine jn1_at (fun (mM_21 : GS) => ∀ (H : Heap) (locs : List Loc) (ls : Array Slot), va_P D vwCl (cMod Y oM mM_21 tk_15) H → va_S A s.heap H locs → lv_has ls 2 [] → W p l e (headSpec wsX5_isRead rmX5_isRead).room s m ([.ref (oM 0)] : List Value).toArray below meth c H locs 0 0 QQ (F0 m 192 ls [])) hM (fun mM_21 hM H locs ls hP hS hl => ?_) (fun k22 hJ22 hM => ?_)
        · refine lv_iconst (v := (1 : Int32)) hx hb dX5_isRead_192 (by decide) ?_
          refine lv_goto (tgt := 197) hx hb dX5_isRead_193 (by decide) ?_
          exact hJ19 mM_21 (1 : Int32) hM H locs ls hP hS (lv_sub hl [] rfl)
        · refine lv_if_eq (tgt := 192) hx hb dX5_isRead_182 (by decide) (fun c23 => ?_) (fun c23 => ?_)
          · replace hM := if_at_pos hM c23
            exact hJ22 mM_14 hM H locs ls hP hS (lv_sub hl [] rfl)
          · replace hM := if_at_neg hM c23
            refine lv_aload_n hx hb dX5_isRead_185 rfl (lv_at hl 0 rfl) ?_
            obtain ⟨r24, mM_25, hc26, hM⟩ := bnd2_at hM
            refine co_i (va_runV (As := []) (rest := []) ⟨hx, hb, hml, hown, hts⟩ (ctX5_fails l D Y oM H.size mM_14 tk_15 r24 mM_25 hc26) (cwV 0 hts gX5_isRead_X5_fails rfl rfl rfl (by decide +kernel) ⟨Nat.le_of_ble_eq_true rfl, Nat.le_of_ble_eq_true rfl⟩) (pcW_V0 (ci := 5) (q0 := 0) hK hP (hD.same rfl) rfl rfl) rfl rfl hl.1 rfl (lv_room (Nat.le_of_ble_eq_true rfl)) dX5_isRead_186 ⟨Nat.zero_le _, Nat.zero_le _⟩) (hD.same rfl) hS hA (fun H locs hP hS => ?_)
            refine lv_if_eq (tgt := 196) hx hb dX5_isRead_189 (by decide) (fun c27 => ?_) (fun c27 => ?_)
            · replace hM := if_at_pos hM c27
              refine lv_iconst (v := (0 : Int32)) hx hb dX5_isRead_196 (by decide) ?_
              exact hJ19 mM_25 (0 : Int32) hM H locs ls hP hS (lv_sub hl [] rfl)
            · replace hM := if_at_neg hM c27
              exact hJ22 mM_25 hM H locs ls hP hS (lv_sub hl [] rfl)
    · refine jn2_at (fun (mM_28 : GS) (tk_29 : Int64) => ∀ (H : Heap) (locs : List Loc) (ls : Array Slot), va_P D vwCl (cMod Y oM mM_28 tk_29) H → va_S A s.heap H locs → lv_has ls 2 [] → W p l e (headSpec wsX5_isRead rmX5_isRead).room s m ([.ref (oM 0)] : List Value).toArray below meth c H locs 0 0 QQ (F0 m 129 ls [])) hM (fun mM_28 tk_29 hM H locs ls hP hS hl => ?_) (fun k30 hJ30 hM => ?_)
      · refine lv_iconst (v := (0 : Int32)) hx hb dX5_isRead_129 (by decide) ?_
        cases hM
        rw [hQQ]
        exact W.zret (ty := .boolean) hx hb hr rfl (fun t ht hW => ⟨⟨_, (), rfl, rfl, by show va_P D vwCl _ t.heap; rw [ht]; exact hP⟩, hS.F ht⟩) hS.2.2 dX5_isRead_130
      · refine lq3_at (fun (x31 : Int32) (mM_32 : GS) (tk_33 : Int64) => ∀ (H : Heap) (locs : List Loc) (ls : Array Slot), va_P D vwCl (cMod Y oM mM_32 tk_33) H → va_S A s.heap H locs → lv_has ls 2 [(0, .ref (oM 0)), (1, .int x31)] → W p l e (headSpec wsX5_isRead rmX5_isRead).room s m ([.ref (oM 0)] : List Value).toArray below meth c H locs 0 0 QQ (F0 m 112 ls [])) (fun rec34 x31 mM_32 tk_33 ih34 hM H locs ls hP hS hl => ?_) FU (1 : Int32) mM_12 tk hM H locs ls hP hS (lv_sub hl [1, 0] rfl)
        unfold BX5_isRead_112 at hM
        refine lv_iload_n hx hb dX5_isRead_112 rfl (lv_at hl 1 rfl) ?_
        refine lv_if_eq (tgt := 174) hx hb dX5_isRead_113 (by decide) (fun c35 => ?_) (fun c35 => ?_)
        · replace hM := if_at_pos hM c35
          exact hJ16 mM_32 tk_33 hM H locs ls hP hS (lv_sub hl [0] rfl)
        · replace hM := if_at_neg hM c35
          refine lv_aload_n hx hb dX5_isRead_116 rfl (lv_at hl 0 rfl) ?_
          refine lv_iconst (v := (3 : Int32)) hx hb dX5_isRead_117 (by decide) ?_
          refine lv_aload_n hx hb dX5_isRead_118 rfl (lv_at hl 0 rfl) ?_
          refine va_get hx hb hts hi5 hown hK hP 0 rfl rfl 19 (by decide) (hts (.fieldLink RX5 199 "NightPlotsModel" "readMany" "I") (List.mem_of_getElem? (i := 2) rfl)) (fun _ h9 => h9) rfl dX5_isRead_119 ?_
          refine lv_imul hx hb dX5_isRead_122 ?_
          obtain ⟨r36, mM_37, tk_38, hc39, hM⟩ := bnd3_at hM
          refine co_i (va_runV (As := [.int ((3 : Int32) * (mM_32 0 19))]) (rest := []) ⟨hx, hb, hml, hown, hts⟩ (ctX5_isLine l D Y oM H.size mM_32 tk_33 ((3 : Int32) * (mM_32 0 19)) r36 mM_37 tk_38 hc39) (cwV 1 hts gX5_isRead_X5_isLine rfl rfl rfl (by decide +kernel) ⟨Nat.le_of_ble_eq_true rfl, Nat.le_of_ble_eq_true rfl⟩) (pcW_V0 (ci := 5) (q0 := 0) hK hP (hD.same rfl) rfl rfl) rfl rfl hl.1 rfl (lv_room (Nat.le_of_ble_eq_true rfl)) dX5_isRead_123 ⟨Nat.zero_le _, Nat.zero_le _⟩) (hD.same rfl) hS hA (fun H locs hP hS => ?_)
          refine lv_if_ne (tgt := 131) hx hb dX5_isRead_126 (by decide) (fun c40 => ?_) (fun c40 => ?_)
          · replace hM := if_at_neg hM c40
            refine lv_aload_n hx hb dX5_isRead_131 rfl (lv_at hl 0 rfl) ?_
            refine lv_dup hx hb dX5_isRead_132 rfl ?_
            refine va_get hx hb hts hi5 hown hK hP 0 rfl rfl 19 (by decide) (hts (.fieldLink RX5 199 "NightPlotsModel" "readMany" "I") (List.mem_of_getElem? (i := 2) rfl)) (fun _ h9 => h9) rfl dX5_isRead_133 ?_
            refine lv_iconst (v := (1 : Int32)) hx hb dX5_isRead_136 (by decide) ?_
            refine lv_iadd hx hb dX5_isRead_137 ?_
            refine lv_topi (fun x41 ex41 => ?_)
            replace hM := nm_at hM ex41
            refine va_put (ty := .int) hx hb hts hi5 tyX5 tyX5_ok nmX5 hown hK hP (hD.same rfl) hS 0 rfl rfl 19 (by decide) (hts (.fieldLink RX5 199 "NightPlotsModel" "readMany" "I") (List.mem_of_getElem? (i := 2) rfl)) (fun _ h9 => h9) rfl (by decide +kernel) rfl rfl (Nat.le_of_ble_eq_true rfl) dX5_isRead_138 (fun H locs hP _ hS => ?_)
            obtain ⟨mM_42, emM_42⟩ : ∃ z : GS, z = (up2 mM_37 0 19 x41) := ⟨_, rfl⟩
            have hP : va_P D vwCl (cMod Y oM mM_42 tk_38) H := by rw [emM_42]; exact hP
            replace hM := nm_at hM emM_42
            refine lv_aload_n hx hb dX5_isRead_141 rfl (lv_at hl 0 rfl) ?_
            obtain ⟨mM_43, tk_44, hc45, hM⟩ := bnd2_at hM
            refine co_v (va_runV (As := []) (rest := []) ⟨hx, hb, hml, hown, hts⟩ (ctX5_nextToken l D Y oM H.size mM_42 tk_38 mM_43 tk_44 hc45) (cwV 0 hts gX5_isRead_X5_nextToken rfl rfl rfl (by decide +kernel) ⟨Nat.le_of_ble_eq_true rfl, Nat.le_of_ble_eq_true rfl⟩) (pcW_V0 (ci := 5) (q0 := 0) hK hP (hD.same rfl) rfl rfl) rfl rfl hl.1 rfl (lv_room (Nat.le_of_ble_eq_true rfl)) dX5_isRead_142 ⟨Nat.zero_le _, Nat.zero_le _⟩) (hD.same rfl) hS hA (fun H locs hP hS => ?_)
            refine lv_aload_n hx hb dX5_isRead_145 rfl (lv_at hl 0 rfl) ?_
            refine va_get hx hb hts hi5 hown hK hP 0 rfl rfl 15 (by decide) (hts (.fieldLink RX5 113 "NightPlotsModel" "token" "J") (List.mem_of_getElem? (i := 14) rfl)) (fun _ h9 => h9) rfl dX5_isRead_146 ?_
            refine lv_ldc2 (v := (-3 : Int64)) hx hb hown (hts (.constantLong RX5 125 (-3)) (List.mem_of_getElem? (i := 15) rfl)) dX5_isRead_149 ?_
            refine W.lcmp hx hb dX5_isRead_152 ?_
            refine jn1_at (fun (x46 : Int32) => ∀ (H : Heap) (locs : List Loc) (ls : Array Slot), va_P D vwCl (cMod Y oM mM_43 tk_44) H → va_S A s.heap H locs → lv_has ls 2 [(0, .ref (oM 0))] → W p l e (headSpec wsX5_isRead rmX5_isRead).room s m ([.ref (oM 0)] : List Value).toArray below meth c H locs 0 0 QQ (F0 m 170 ls [.int x46])) hM (fun x46 hM H locs ls hP hS hl => ?_) (fun k47 hJ47 hM => ?_)
            · refine lv_istore_n (lv' := [(1, .int x46), (0, .ref (oM 0))]) hx hb dX5_isRead_170 rfl hl (by decide) rfl (fun ls hl => ?_)
              refine lv_goto (tgt := 112) hx hb dX5_isRead_171 (by decide) ?_
              exact ih34 x46 mM_43 tk_44 hM H locs ls hP hS (lv_sub hl [1, 0] rfl)
            · refine jn0_at (∀ (H : Heap) (locs : List Loc) (ls : Array Slot), va_P D vwCl (cMod Y oM mM_43 tk_44) H → va_S A s.heap H locs → lv_has ls 2 [(0, .ref (oM 0))] → W p l e (headSpec wsX5_isRead rmX5_isRead).room s m ([.ref (oM 0)] : List Value).toArray below meth c H locs 0 0 QQ (F0 m 169 ls [])) hM (fun  hM H locs ls hP hS hl => ?_) (fun k48 hJ48 hM => ?_)
              · refine lv_iconst (v := (0 : Int32)) hx hb dX5_isRead_169 (by decide) ?_
                exact hJ47 (0 : Int32) hM H locs ls hP hS (lv_sub hl [0] rfl)
              · refine lv_if_ne (tgt := 169) hx hb dX5_isRead_153 (by decide) (fun c49 => ?_) (fun c49 => ?_)
                · replace hM := if_at_neg hM c49
                  exact hJ48 hM H locs ls hP hS (lv_sub hl [0] rfl)
                · replace hM := if_at_pos hM c49
                  refine lv_aload_n hx hb dX5_isRead_156 rfl (lv_at hl 0 rfl) ?_
                  refine va_get hx hb hts hi5 hown hK hP 0 rfl rfl 19 (by decide) (hts (.fieldLink RX5 199 "NightPlotsModel" "readMany" "I") (List.mem_of_getElem? (i := 2) rfl)) (fun _ h9 => h9) rfl dX5_isRead_157 ?_
                  refine lv_bipush (v := (12 : Int32)) hx hb dX5_isRead_160 (by decide) ?_
                  refine lv_icmp_ge (tgt := 169) hx hb dX5_isRead_162 (by decide) (fun c50 => ?_) (fun c50 => ?_)
                  · replace hM := if_at_pos hM c50
                    exact hJ48 hM H locs ls hP hS (lv_sub hl [0] rfl)
                  · replace hM := if_at_neg hM c50
                    refine lv_iconst (v := (1 : Int32)) hx hb dX5_isRead_165 (by decide) ?_
                    refine lv_goto (tgt := 170) hx hb dX5_isRead_166 (by decide) ?_
                    exact hJ47 (1 : Int32) hM H locs ls hP hS (lv_sub hl [0] rfl)
          · replace hM := if_at_pos hM c40
            exact hJ30 mM_37 tk_38 hM H locs ls hP hS (lv_sub hl [] rfl)
  · refine lq2_at (fun (x51 : Int32) (mM_52 : GS) => ∀ (H : Heap) (locs : List Loc) (ls : Array Slot), va_P D vwCl (cMod Y oM mM_52 tk) H → va_S A s.heap H locs → lv_has ls 2 [(0, .ref (oM 0)), (1, .int x51)] → W p l e (headSpec wsX5_isRead rmX5_isRead).room s m ([.ref (oM 0)] : List Value).toArray below meth c H locs 0 0 QQ (F0 m 49 ls [])) (fun rec53 x51 mM_52 ih53 hM H locs ls hP hS hl => ?_) FU (0 : Int32) mM_11 hM H locs ls hP hS (lv_sub hl [1, 0] rfl)
    unfold BX5_isRead_49 at hM
    refine lv_iload_n hx hb dX5_isRead_49 rfl (lv_at hl 1 rfl) ?_
    refine lv_aload_n hx hb dX5_isRead_50 rfl (lv_at hl 0 rfl) ?_
    refine va_get hx hb hts hi5 hown hK hP 0 rfl rfl 2 (by decide) (hts (.fieldLink RX5 78 "NightPlotsModel" "houses" "I") (List.mem_of_getElem? (i := 5) rfl)) (fun _ h9 => h9) rfl dX5_isRead_51 ?_
    refine lv_icmp_ge (tgt := 110) hx hb dX5_isRead_54 (by decide) (fun c54 => ?_) (fun c54 => ?_)
    · replace hM := if_at_pos hM c54
      exact hJ13 mM_52 hM H locs ls hP hS (lv_sub hl [0] rfl)
    · replace hM := if_at_neg hM c54
      refine lv_aload_n hx hb dX5_isRead_57 rfl (lv_at hl 0 rfl) ?_
      refine lv_aload_n hx hb dX5_isRead_58 rfl (lv_at hl 0 rfl) ?_
      refine va_get hx hb hts hi5 hown hK hP 0 rfl rfl 22 (by decide) (hts (.fieldLink RX5 146 "NightPlotsModel" "readFull" "I") (List.mem_of_getElem? (i := 11) rfl)) (fun _ h9 => h9) rfl dX5_isRead_59 ?_
      refine lv_iconst (v := (1 : Int32)) hx hb dX5_isRead_62 (by decide) ?_
      refine lv_aload_n hx hb dX5_isRead_63 rfl (lv_at hl 0 rfl) ?_
      refine va_get hx hb hts hi5 hown hK hP 0 rfl rfl 4 (by decide) (hts (.fieldLink RX5 20 "NightPlotsModel" "begins" "[I") (List.mem_of_getElem? (i := 12) rfl)) (fun _ h9 => h9) rfl dX5_isRead_64 ?_
      refine lv_iload_n hx hb dX5_isRead_67 rfl (lv_at hl 1 rfl) ?_
      obtain ⟨hi_55, hM⟩ := chkI_at hM
      refine va_iald hx hb hK hP 3 0 rfl rfl hi_55 dX5_isRead_68 ?_
      refine lv_ishl hx hb dX5_isRead_69 ?_
      refine lv_ior hx hb dX5_isRead_70 ?_
      refine lv_aload_n hx hb dX5_isRead_71 rfl (lv_at hl 0 rfl) ?_
      refine va_get hx hb hts hi5 hown hK hP 0 rfl rfl 3 (by decide) (hts (.fieldLink RX5 17 "NightPlotsModel" "kind" "[I") (List.mem_of_getElem? (i := 13) rfl)) (fun _ h9 => h9) rfl dX5_isRead_72 ?_
      refine lv_iload_n hx hb dX5_isRead_75 rfl (lv_at hl 1 rfl) ?_
      obtain ⟨hi_56, hM⟩ := chkI_at hM
      refine va_iald hx hb hK hP 2 0 rfl rfl hi_56 dX5_isRead_76 ?_
      refine lv_iconst (v := (3 : Int32)) hx hb dX5_isRead_77 (by decide) ?_
      refine jn1_at (fun (x57 : Int32) => ∀ (H : Heap) (locs : List Loc) (ls : Array Slot), va_P D vwCl (cMod Y oM mM_52 tk) H → va_S A s.heap H locs → lv_has ls 2 [(0, .ref (oM 0)), (1, .int x51)] → W p l e (headSpec wsX5_isRead rmX5_isRead).room s m ([.ref (oM 0)] : List Value).toArray below meth c H locs 0 0 QQ (F0 m 100 ls [.int x57, .int ((mM_52 0 22) ||| ((1 : Int32) <<< ((mM_52 3 x51.toNatClampNeg) &&& 31))), .ref (oM 0)])) hM (fun x57 hM H locs ls hP hS hl => ?_) (fun k58 hJ58 hM => ?_)
      · refine lv_ior hx hb dX5_isRead_100 ?_
        refine lv_topi (fun x59 ex59 => ?_)
        replace hM := nm_at hM ex59
        refine va_put (ty := .int) hx hb hts hi5 tyX5 tyX5_ok nmX5 hown hK hP (hD.same rfl) hS 0 rfl rfl 22 (by decide) (hts (.fieldLink RX5 146 "NightPlotsModel" "readFull" "I") (List.mem_of_getElem? (i := 11) rfl)) (fun _ h9 => h9) rfl (by decide +kernel) rfl rfl (Nat.le_of_ble_eq_true rfl) dX5_isRead_101 (fun H locs hP _ hS => ?_)
        obtain ⟨mM_60, emM_60⟩ : ∃ z : GS, z = (up2 mM_52 0 22 x59) := ⟨_, rfl⟩
        have hP : va_P D vwCl (cMod Y oM mM_60 tk) H := by rw [emM_60]; exact hP
        replace hM := nm_at hM emM_60
        obtain ⟨x61, ex61⟩ : ∃ z : Int32, z = (x51 + 1) := ⟨_, rfl⟩
        replace hM := nm_at hM ex61
        refine lv_iinc (v := x61) (lv' := [(1, .int x61), (0, .ref (oM 0))]) hx hb dX5_isRead_104 hl (k := 1) rfl (by rw [ex61]; rfl) (by decide) rfl (fun ls hl => ?_)
        refine lv_goto (tgt := 49) hx hb dX5_isRead_107 (by decide) ?_
        exact ih53 x61 mM_60 hM H locs ls hP hS (lv_sub hl [1, 0] rfl)
      · refine lv_icmp_ne (tgt := 99) hx hb dX5_isRead_78 (by decide) (fun c62 => ?_) (fun c62 => ?_)
        · replace hM := if_at_neg hM c62
          refine lv_iconst (v := (0 : Int32)) hx hb dX5_isRead_99 (by decide) ?_
          exact hJ58 (0 : Int32) hM H locs ls hP hS (lv_sub hl [0, 1] rfl)
        · replace hM := if_at_pos hM c62
          refine lv_iconst (v := (1 : Int32)) hx hb dX5_isRead_81 (by decide) ?_
          refine lv_aload_n hx hb dX5_isRead_82 rfl (lv_at hl 0 rfl) ?_
          refine va_get hx hb hts hi5 hown hK hP 0 rfl rfl 4 (by decide) (hts (.fieldLink RX5 20 "NightPlotsModel" "begins" "[I") (List.mem_of_getElem? (i := 12) rfl)) (fun _ h9 => h9) rfl dX5_isRead_83 ?_
          refine lv_iload_n hx hb dX5_isRead_86 rfl (lv_at hl 1 rfl) ?_
          obtain ⟨hi_63, hM⟩ := chkI_at hM
          refine va_iald hx hb hK hP 3 0 rfl rfl hi_63 dX5_isRead_87 ?_
          refine lv_iconst (v := (1 : Int32)) hx hb dX5_isRead_88 (by decide) ?_
          refine lv_iadd hx hb dX5_isRead_89 ?_
          refine lv_aload_n hx hb dX5_isRead_90 rfl (lv_at hl 0 rfl) ?_
          refine va_get hx hb hts hi5 hown hK hP 0 rfl rfl 0 (by decide) (hts (.fieldLink RX5 7 "NightPlotsModel" "plots" "I") (List.mem_of_getElem? (i := 3) rfl)) (fun _ h9 => h9) rfl dX5_isRead_91 ?_
          obtain ⟨hz64, hM⟩ := chkZ_at hM
          refine lv_irem hx hb dX5_isRead_94 hz64 ?_
          refine lv_ishl hx hb dX5_isRead_95 ?_
          refine lv_goto (tgt := 100) hx hb dX5_isRead_96 (by decide) ?_
          exact hJ58 ((1 : Int32) <<< ((((mM_52 3 x51.toNatClampNeg) + (1 : Int32)) - ((mM_52 3 x51.toNatClampNeg) + (1 : Int32)) / (mM_52 0 0) * (mM_52 0 0)) &&& 31)) hM H locs ls hP hS (lv_sub hl [0, 1] rfl)
noncomputable def MX5_fault (mM : GS) (tk : Int64) : Option (Int32 × GS × Int64) := bnd3 (MX5_isRead mM tk) fun (r1 : Int32) (mM_2 : GS) (tk_3 : Int64) => jn1 (fun (x5 : Int32) => some (x5, mM_2, tk_3)) (fun k6 => if r1 = 0 then (k6 (mM_2 0 18)) else (k6 (-1 : Int32)))
abbrev rmX5_fault : Room := { frames := 8, cells := 0, slots := 0, locals := 320 }
set_option maxHeartbeats 4000000 in
set_option maxRecDepth 100000 in
theorem ctX5_fault (l : Launch) (D : va_G) (Y : Nat → ClassId) (oM : Nat → Nat) (sz : Nat) (mM : GS) (tk : Int64) (rr : Int32) (mMz : GS) (tkz : Int64) (hM : MX5_fault mM tk = some (rr, mMz, tkz)) : Met l yX5_fault wsX5_fault rmX5_fault (pcW [.ref (oM 0)] sz D Y (cMod Y oM mM tk)) (qiW rr D (cMod Y oM mMz tkz) (va_A (cMod Y oM mM tk) sz)) 0 0 (va_A (cMod Y oM mM tk) sz) := by
  refine Met.ofW (cc := cX5_fault) (maxL := 1) (ret := (some .int)) (by decide) rfl ?_
  intro p e s m args below meth c s₁ B hml hv
  obtain ⟨rfl, hsz, hP, hK, hD0⟩ := hv
  have hx := B.exec
  have hb := B.bytes
  have hr := B.returns
  have hts := atoms_spec (ws := wsX5_fault) B.pre
  have hown : s.vm.findClass RX5 = some m.cls := findClass_of_methodNamed B.named
  have hlocks := B.notSynchronized
  subst hsz
  have hD := hD0.self (sz := s.heap.size)
  generalize hAe : va_A (cMod Y oM mM tk) s.heap.size = A at hD ⊢
  have hA : ∀ q : Nat, s.heap.size ≤ q → A q := fun q h => by rw [← hAe]; exact Or.inr h
  have hS : va_S A s.heap s.heap [] := va_S.rf
  have hi5 : ∀ w ∈ wsX50, w ∈ wsX5_fault := fun w h => List.mem_cons_of_mem _ (List.mem_append_right _ h)
  have hl := lv_entry ([.ref (oM 0)]) (n := 1) (Nat.le_of_ble_eq_true rfl)
  rw [lg_entry_eq]
  generalize (lg_sl ([.ref (oM 0)]) ++ List.replicate (1 - (lg_sl ([.ref (oM 0)])).length) Slot.unset).toArray = ls at hl ⊢
  have hl : lv_has ls 1 [(0, .ref (oM 0))] := hl
  obtain ⟨QQ, hQQ⟩ : ∃ Q : State → Prop, Q = MQ below (qiW rr D (cMod Y oM mMz tkz) A) ([.ref (oM 0)] : List Value).toArray s 0 0 A := ⟨_, rfl⟩
  rw [← hQQ]
  unfold MX5_fault at hM
  suffices hI : ∀ (H : Heap) (locs : List Loc), va_P D vwCl (cMod Y oM mM tk) H → va_S A s.heap H locs → W p l e (headSpec wsX5_fault rmX5_fault).room s m ([.ref (oM 0)] : List Value).toArray below meth c H locs 0 0 QQ (F0 m 0 ls []) from hI _ _ hP hS
  clear hP hS
  intro H locs hP hS
  refine lv_aload_n hx hb dX5_fault_0 rfl (lv_at hl 0 rfl) ?_
  obtain ⟨r1, mM_2, tk_3, hc4, hM⟩ := bnd3_at hM
  refine co_i (va_runV (As := []) (rest := []) ⟨hx, hb, hml, hown, hts⟩ (ctX5_isRead l D Y oM H.size mM tk r1 mM_2 tk_3 hc4) (cwV 0 hts gX5_fault_X5_isRead rfl rfl rfl (by decide +kernel) ⟨Nat.le_of_ble_eq_true rfl, Nat.le_of_ble_eq_true rfl⟩) (pcW_V0 (ci := 5) (q0 := 0) hK hP (hD.same rfl) rfl rfl) rfl rfl hl.1 rfl (lv_room (Nat.le_of_ble_eq_true rfl)) dX5_fault_1 ⟨Nat.zero_le _, Nat.zero_le _⟩) (hD.same rfl) hS hA (fun H locs hP hS => ?_)
  refine jn1_at (fun (x5 : Int32) => ∀ (H : Heap) (locs : List Loc) (ls : Array Slot), va_P D vwCl (cMod Y oM mM_2 tk_3) H → va_S A s.heap H locs → lv_has ls 1 [] → W p l e (headSpec wsX5_fault rmX5_fault).room s m ([.ref (oM 0)] : List Value).toArray below meth c H locs 0 0 QQ (F0 m 15 ls [.int x5])) hM (fun x5 hM H locs ls hP hS hl => ?_) (fun k6 hJ6 hM => ?_)
  · cases hM
    rw [hQQ]
    exact W.iret hx hb hr (fun t ht hW => ⟨⟨_, (), rfl, rfl, by show va_P D vwCl _ t.heap; rw [ht]; exact hP⟩, hS.F ht⟩) hS.2.2 dX5_fault_15
  · refine lv_if_eq (tgt := 11) hx hb dX5_fault_4 (by decide) (fun c7 => ?_) (fun c7 => ?_)
    · replace hM := if_at_pos hM c7
      refine lv_aload_n hx hb dX5_fault_11 rfl (lv_at hl 0 rfl) ?_
      refine va_get hx hb hts hi5 hown hK hP 0 rfl rfl 18 (by decide) (hts (.fieldLink RX5 127 "NightPlotsModel" "faultAt" "I") (List.mem_of_getElem? (i := 1) rfl)) (fun _ h9 => h9) rfl dX5_fault_12 ?_
      exact hJ6 (mM_2 0 18) hM H locs ls hP hS (lv_sub hl [] rfl)
    · replace hM := if_at_neg hM c7
      refine lv_iconst (v := (-1 : Int32)) hx hb dX5_fault_7 (by decide) ?_
      refine lv_goto (tgt := 15) hx hb dX5_fault_8 (by decide) ?_
      exact hJ6 (-1 : Int32) hM H locs ls hP hS (lv_sub hl [] rfl)
noncomputable def MX5_doLine (mM : GS) (i1 : Int32) : Option (GS) := chkI (i1 + (1 : Int32)) 36 (nm (mM 7 (i1 + (1 : Int32)).toNatClampNeg) fun (x2 : Int32) => chkI (i1 + (2 : Int32)) 36 (nm (mM 7 (i1 + (2 : Int32)).toNatClampNeg) fun (x4 : Int32) => chkI i1 36 (jn1 (fun (mM_6 : GS) => some (mM_6)) (fun k7 => if (mM 7 i1.toNatClampNeg) = (0 : Int32) then (bnd1 (MX5_plain mM) fun (mM_9 : GS) => nm (up2 mM_9 0 0 x2) fun (mM_11 : GS) => k7 mM_11) else (if (mM 7 i1.toNatClampNeg) = (1 : Int32) then (chkI x2 12 (nm (upA mM 1 (upd (mM 1) x2.toNatClampNeg x4)) fun (mM_13 : GS) => k7 mM_13)) else (if (mM 7 i1.toNatClampNeg) = (2 : Int32) then (chkI i1 36 (nm ((mM 7 i1.toNatClampNeg) - (2 : Int32)) fun (x15 : Int32) => chkI (mM 0 2) 8 (nm (upA mM 2 (upd (mM 2) (mM 0 2).toNatClampNeg x15)) fun (mM_17 : GS) => chkI (mM_17 0 2) 8 (nm (upA mM_17 3 (upd (mM_17 3) (mM_17 0 2).toNatClampNeg x2)) fun (mM_19 : GS) => nm ((mM_19 0 2) + (1 : Int32)) fun (x20 : Int32) => nm (up2 mM_19 0 2 x20) fun (mM_21 : GS) => k7 mM_21)))) else (if (mM 7 i1.toNatClampNeg) = (3 : Int32) then (chkI i1 36 (nm ((mM 7 i1.toNatClampNeg) - (2 : Int32)) fun (x23 : Int32) => chkI (mM 0 2) 8 (nm (upA mM 2 (upd (mM 2) (mM 0 2).toNatClampNeg x23)) fun (mM_25 : GS) => chkI (mM_25 0 2) 8 (nm (upA mM_25 3 (upd (mM_25 3) (mM_25 0 2).toNatClampNeg x2)) fun (mM_27 : GS) => nm ((mM_27 0 2) + (1 : Int32)) fun (x28 : Int32) => nm (up2 mM_27 0 2 x28) fun (mM_29 : GS) => k7 mM_29)))) else (if (mM 7 i1.toNatClampNeg) = (4 : Int32) then (chkI i1 36 (nm ((mM 7 i1.toNatClampNeg) - (2 : Int32)) fun (x31 : Int32) => chkI (mM 0 2) 8 (nm (upA mM 2 (upd (mM 2) (mM 0 2).toNatClampNeg x31)) fun (mM_33 : GS) => chkI (mM_33 0 2) 8 (nm (upA mM_33 3 (upd (mM_33 3) (mM_33 0 2).toNatClampNeg x2)) fun (mM_35 : GS) => nm ((mM_35 0 2) + (1 : Int32)) fun (x36 : Int32) => nm (up2 mM_35 0 2 x36) fun (mM_37 : GS) => k7 mM_37)))) else (if (mM 7 i1.toNatClampNeg) = (5 : Int32) then (chkI i1 36 (nm ((mM 7 i1.toNatClampNeg) - (2 : Int32)) fun (x39 : Int32) => chkI (mM 0 2) 8 (nm (upA mM 2 (upd (mM 2) (mM 0 2).toNatClampNeg x39)) fun (mM_41 : GS) => chkI (mM_41 0 2) 8 (nm (upA mM_41 3 (upd (mM_41 3) (mM_41 0 2).toNatClampNeg x2)) fun (mM_43 : GS) => nm ((mM_43 0 2) + (1 : Int32)) fun (x44 : Int32) => nm (up2 mM_43 0 2 x44) fun (mM_45 : GS) => k7 mM_45)))) else (if (mM 7 i1.toNatClampNeg) = (6 : Int32) then (chkI ((2 : Int32) * (mM 0 5)) 12 (nm (upA mM 4 (upd (mM 4) ((2 : Int32) * (mM 0 5)).toNatClampNeg x2)) fun (mM_47 : GS) => chkI (((2 : Int32) * (mM_47 0 5)) + (1 : Int32)) 12 (nm (upA mM_47 4 (upd (mM_47 4) (((2 : Int32) * (mM_47 0 5)) + (1 : Int32)).toNatClampNeg x4)) fun (mM_49 : GS) => nm ((mM_49 0 5) + (1 : Int32)) fun (x50 : Int32) => nm (up2 mM_49 0 5 x50) fun (mM_51 : GS) => k7 mM_51))) else (if (mM 7 i1.toNatClampNeg) = (7 : Int32) then (chkI ((2 : Int32) * (mM 0 7)) 12 (nm (upA mM 5 (upd (mM 5) ((2 : Int32) * (mM 0 7)).toNatClampNeg x2)) fun (mM_53 : GS) => chkI (((2 : Int32) * (mM_53 0 7)) + (1 : Int32)) 12 (nm (upA mM_53 5 (upd (mM_53 5) (((2 : Int32) * (mM_53 0 7)) + (1 : Int32)).toNatClampNeg x4)) fun (mM_55 : GS) => nm ((mM_55 0 7) + (1 : Int32)) fun (x56 : Int32) => nm (up2 mM_55 0 7 x56) fun (mM_57 : GS) => k7 mM_57))) else (if (mM 7 i1.toNatClampNeg) = (8 : Int32) then (chkI i1 36 (nm ((mM 7 i1.toNatClampNeg) - (8 : Int32)) fun (x59 : Int32) => nm (up2 mM 0 9 x59) fun (mM_60 : GS) => chkI i1 36 (jn1 (fun (x62 : Int32) => nm (up2 mM_60 0 10 x62) fun (mM_64 : GS) => k7 mM_64) (fun k63 => if (mM_60 7 i1.toNatClampNeg) = (11 : Int32) then (k63 x2) else (k63 (mM_60 0 10)))))) else (if (mM 7 i1.toNatClampNeg) = (9 : Int32) then (chkI i1 36 (nm ((mM 7 i1.toNatClampNeg) - (8 : Int32)) fun (x67 : Int32) => nm (up2 mM 0 9 x67) fun (mM_68 : GS) => chkI i1 36 (jn1 (fun (x70 : Int32) => nm (up2 mM_68 0 10 x70) fun (mM_72 : GS) => k7 mM_72) (fun k71 => if (mM_68 7 i1.toNatClampNeg) = (11 : Int32) then (k71 x2) else (k71 (mM_68 0 10)))))) else (if (mM 7 i1.toNatClampNeg) = (10 : Int32) then (chkI i1 36 (nm ((mM 7 i1.toNatClampNeg) - (8 : Int32)) fun (x75 : Int32) => nm (up2 mM 0 9 x75) fun (mM_76 : GS) => chkI i1 36 (jn1 (fun (x78 : Int32) => nm (up2 mM_76 0 10 x78) fun (mM_80 : GS) => k7 mM_80) (fun k79 => if (mM_76 7 i1.toNatClampNeg) = (11 : Int32) then (k79 x2) else (k79 (mM_76 0 10)))))) else (if (mM 7 i1.toNatClampNeg) = (11 : Int32) then (chkI i1 36 (nm ((mM 7 i1.toNatClampNeg) - (8 : Int32)) fun (x83 : Int32) => nm (up2 mM 0 9 x83) fun (mM_84 : GS) => chkI i1 36 (jn1 (fun (x86 : Int32) => nm (up2 mM_84 0 10 x86) fun (mM_88 : GS) => k7 mM_88) (fun k87 => if (mM_84 7 i1.toNatClampNeg) = (11 : Int32) then (k87 x2) else (k87 (mM_84 0 10)))))) else (if (mM 7 i1.toNatClampNeg) = (12 : Int32) then (nm (up2 mM 0 2 (0 : Int32)) fun (mM_90 : GS) => nm (up2 mM_90 0 7 (0 : Int32)) fun (mM_91 : GS) => k7 mM_91) else (chkI i1 36 (nm ((mM 7 i1.toNatClampNeg) - (8 : Int32)) fun (x93 : Int32) => nm (up2 mM 0 9 x93) fun (mM_94 : GS) => chkI i1 36 (jn1 (fun (x96 : Int32) => nm (up2 mM_94 0 10 x96) fun (mM_98 : GS) => k7 mM_98) (fun k97 => if (mM_94 7 i1.toNatClampNeg) = (11 : Int32) then (k97 x2) else (k97 (mM_94 0 10))))))))))))))))))))))
abbrev rmX5_doLine : Room := { frames := 2, cells := 0, slots := 0, locals := 80 }
set_option maxHeartbeats 4000000 in
set_option maxRecDepth 100000 in
theorem ctX5_doLine (l : Launch) (D : va_G) (Y : Nat → ClassId) (oM : Nat → Nat) (sz : Nat) (mM : GS) (tk : Int64) (i1 : Int32) (mMz : GS) (hM : MX5_doLine mM i1 = some (mMz)) : Met l yX5_doLine wsX5_doLine rmX5_doLine (pcW [.ref (oM 0), .int i1] sz D Y (cMod Y oM mM tk)) (qvW D (cMod Y oM mMz tk) (va_A (cMod Y oM mM tk) sz)) 0 0 (va_A (cMod Y oM mM tk) sz) := by
  refine Met.ofW (cc := cX5_doLine) (maxL := 4) (ret := (none)) (by decide) rfl ?_
  intro p e s m args below meth c s₁ B hml hv
  obtain ⟨rfl, hsz, hP, hK, hD0⟩ := hv
  have hx := B.exec
  have hb := B.bytes
  have hr := B.returns
  have hts := atoms_spec (ws := wsX5_doLine) B.pre
  have hown : s.vm.findClass RX5 = some m.cls := findClass_of_methodNamed B.named
  have hlocks := B.notSynchronized
  subst hsz
  have hD := hD0.self (sz := s.heap.size)
  generalize hAe : va_A (cMod Y oM mM tk) s.heap.size = A at hD ⊢
  have hA : ∀ q : Nat, s.heap.size ≤ q → A q := fun q h => by rw [← hAe]; exact Or.inr h
  have hS : va_S A s.heap s.heap [] := va_S.rf
  have hi5 : ∀ w ∈ wsX50, w ∈ wsX5_doLine := fun w h => List.mem_cons_of_mem _ (List.mem_append_right _ h)
  have hl := lv_entry ([.ref (oM 0), .int i1]) (n := 4) (Nat.le_of_ble_eq_true rfl)
  rw [lg_entry_eq]
  generalize (lg_sl ([.ref (oM 0), .int i1]) ++ List.replicate (4 - (lg_sl ([.ref (oM 0), .int i1])).length) Slot.unset).toArray = ls at hl ⊢
  have hl : lv_has ls 4 [(0, .ref (oM 0)), (1, .int i1)] := hl
  obtain ⟨QQ, hQQ⟩ : ∃ Q : State → Prop, Q = MQ below (qvW D (cMod Y oM mMz tk) A) ([.ref (oM 0), .int i1] : List Value).toArray s 0 0 A := ⟨_, rfl⟩
  rw [← hQQ]
  unfold MX5_doLine at hM
  suffices hI : ∀ (H : Heap) (locs : List Loc), va_P D vwCl (cMod Y oM mM tk) H → va_S A s.heap H locs → W p l e (headSpec wsX5_doLine rmX5_doLine).room s m ([.ref (oM 0), .int i1] : List Value).toArray below meth c H locs 0 0 QQ (F0 m 0 ls []) from hI _ _ hP hS
  clear hP hS
  intro H locs hP hS
  refine lv_aload_n hx hb dX5_doLine_0 rfl (lv_at hl 0 rfl) ?_
  refine va_get hx hb hts hi5 hown hK hP 0 rfl rfl 25 (by decide) (hts (.fieldLink RX5 35 "NightPlotsModel" "read" "[I") (List.mem_of_getElem? (i := 1) rfl)) (fun _ h9 => h9) rfl dX5_doLine_1 ?_
  refine lv_iload_n hx hb dX5_doLine_4 rfl (lv_at hl 1 rfl) ?_
  refine lv_iconst (v := (1 : Int32)) hx hb dX5_doLine_5 (by decide) ?_
  refine lv_iadd hx hb dX5_doLine_6 ?_
  obtain ⟨hi_1, hM⟩ := chkI_at hM
  refine va_iald hx hb hK hP 7 0 rfl rfl hi_1 dX5_doLine_7 ?_
  refine lv_topi (fun x2 ex2 => ?_)
  replace hM := nm_at hM ex2
  refine lv_istore_n (lv' := [(2, .int x2), (0, .ref (oM 0)), (1, .int i1)]) hx hb dX5_doLine_8 rfl hl (by decide) rfl (fun ls hl => ?_)
  refine lv_aload_n hx hb dX5_doLine_9 rfl (lv_at hl 1 rfl) ?_
  refine va_get hx hb hts hi5 hown hK hP 0 rfl rfl 25 (by decide) (hts (.fieldLink RX5 35 "NightPlotsModel" "read" "[I") (List.mem_of_getElem? (i := 1) rfl)) (fun _ h9 => h9) rfl dX5_doLine_10 ?_
  refine lv_iload_n hx hb dX5_doLine_13 rfl (lv_at hl 2 rfl) ?_
  refine lv_iconst (v := (2 : Int32)) hx hb dX5_doLine_14 (by decide) ?_
  refine lv_iadd hx hb dX5_doLine_15 ?_
  obtain ⟨hi_3, hM⟩ := chkI_at hM
  refine va_iald hx hb hK hP 7 0 rfl rfl hi_3 dX5_doLine_16 ?_
  refine lv_topi (fun x4 ex4 => ?_)
  replace hM := nm_at hM ex4
  refine lv_istore_n (lv' := [(3, .int x4), (2, .int x2), (0, .ref (oM 0)), (1, .int i1)]) hx hb dX5_doLine_17 rfl hl (by decide) rfl (fun ls hl => ?_)
  refine lv_aload_n hx hb dX5_doLine_18 rfl (lv_at hl 2 rfl) ?_
  refine va_get hx hb hts hi5 hown hK hP 0 rfl rfl 25 (by decide) (hts (.fieldLink RX5 35 "NightPlotsModel" "read" "[I") (List.mem_of_getElem? (i := 1) rfl)) (fun _ h9 => h9) rfl dX5_doLine_19 ?_
  refine lv_iload_n hx hb dX5_doLine_22 rfl (lv_at hl 3 rfl) ?_
  obtain ⟨hi_5, hM⟩ := chkI_at hM
  refine va_iald hx hb hK hP 7 0 rfl rfl hi_5 dX5_doLine_23 ?_
  refine jn1_at (fun (mM_6 : GS) => ∀ (H : Heap) (locs : List Loc) (ls : Array Slot), va_P D vwCl (cMod Y oM mM_6 tk) H → va_S A s.heap H locs → lv_has ls 4 [] → W p l e (headSpec wsX5_doLine rmX5_doLine).room s m ([.ref (oM 0), .int i1] : List Value).toArray below meth c H locs 0 0 QQ (F0 m 281 ls [])) hM (fun mM_6 hM H locs ls hP hS hl => ?_) (fun k7 hJ7 hM => ?_)
  · cases hM
    rw [hQQ]
    exact W.vret hx hb hr (fun t ht hW => ⟨⟨(), rfl, trivial, by show va_P D vwCl _ t.heap; rw [ht]; exact hP⟩, hS.F ht⟩) hS.2.2 dX5_doLine_281
  · by_cases c8_0 : (mM 7 i1.toNatClampNeg) = (0 : Int32)
    · replace hM := if_at_pos hM c8_0
      refine lv_tableIn (off := 68) (tgt := 92) hx hb dX5_doLine_24 (by rw [c8_0]; decide) (by rw [c8_0]; decide) (by rw [c8_0]; rfl) (by decide) ?_
      refine lv_aload_n hx hb dX5_doLine_92 rfl (lv_at hl 2 rfl) ?_
      obtain ⟨mM_9, hc10, hM⟩ := bnd1_at hM
      refine co_v (va_runV (As := []) (rest := []) ⟨hx, hb, hml, hown, hts⟩ (ctX5_plain l D Y oM H.size mM tk mM_9 hc10) (cwV 0 hts gX5_doLine_X5_plain rfl rfl rfl (by decide +kernel) ⟨Nat.le_of_ble_eq_true rfl, Nat.le_of_ble_eq_true rfl⟩) (pcW_V0 (ci := 5) (q0 := 0) hK hP (hD.same rfl) rfl rfl) rfl rfl hl.1 rfl (lv_room (Nat.le_of_ble_eq_true rfl)) dX5_doLine_93 ⟨Nat.zero_le _, Nat.zero_le _⟩) (hD.same rfl) hS hA (fun H locs hP hS => ?_)
      refine lv_aload_n hx hb dX5_doLine_96 rfl (lv_at hl 2 rfl) ?_
      refine lv_iload_n hx hb dX5_doLine_97 rfl (lv_at hl 1 rfl) ?_
      refine va_put (ty := .int) hx hb hts hi5 tyX5 tyX5_ok nmX5 hown hK hP (hD.same rfl) hS 0 rfl rfl 0 (by decide) (hts (.fieldLink RX5 7 "NightPlotsModel" "plots" "I") (List.mem_of_getElem? (i := 2) rfl)) (fun _ h9 => h9) rfl (by decide +kernel) rfl rfl (Nat.le_of_ble_eq_true rfl) dX5_doLine_98 (fun H locs hP _ hS => ?_)
      obtain ⟨mM_11, emM_11⟩ : ∃ z : GS, z = (up2 mM_9 0 0 x2) := ⟨_, rfl⟩
      have hP : va_P D vwCl (cMod Y oM mM_11 tk) H := by rw [emM_11]; exact hP
      replace hM := nm_at hM emM_11
      refine lv_goto (tgt := 281) hx hb dX5_doLine_101 (by decide) ?_
      exact hJ7 mM_11 hM H locs ls hP hS (lv_sub hl [] rfl)
    · replace hM := if_at_neg hM c8_0
      by_cases c8_1 : (mM 7 i1.toNatClampNeg) = (1 : Int32)
      · replace hM := if_at_pos hM c8_1
        refine lv_tableIn (off := 80) (tgt := 104) hx hb dX5_doLine_24 (by rw [c8_1]; decide) (by rw [c8_1]; decide) (by rw [c8_1]; rfl) (by decide) ?_
        refine lv_aload_n hx hb dX5_doLine_104 rfl (lv_at hl 2 rfl) ?_
        refine va_get hx hb hts hi5 hown hK hP 0 rfl rfl 1 (by decide) (hts (.fieldLink RX5 13 "NightPlotsModel" "crop" "[I") (List.mem_of_getElem? (i := 3) rfl)) (fun _ h9 => h9) rfl dX5_doLine_105 ?_
        refine lv_iload_n hx hb dX5_doLine_108 rfl (lv_at hl 1 rfl) ?_
        refine lv_iload_n hx hb dX5_doLine_109 rfl (lv_at hl 0 rfl) ?_
        obtain ⟨hi_12, hM⟩ := chkI_at hM
        refine va_iast hx hb hK hP (hD.same rfl) hS 1 0 rfl rfl hi_12 dX5_doLine_110 (fun H locs hP _ hS => ?_)
        obtain ⟨mM_13, emM_13⟩ : ∃ z : GS, z = (upA mM 1 (upd (mM 1) x2.toNatClampNeg x4)) := ⟨_, rfl⟩
        have hP : va_P D vwCl (cMod Y oM mM_13 tk) H := by rw [emM_13]; exact hP
        replace hM := nm_at hM emM_13
        refine lv_goto (tgt := 281) hx hb dX5_doLine_111 (by decide) ?_
        exact hJ7 mM_13 hM H locs ls hP hS (lv_sub hl [] rfl)
      · replace hM := if_at_neg hM c8_1
        by_cases c8_2 : (mM 7 i1.toNatClampNeg) = (2 : Int32)
        · replace hM := if_at_pos hM c8_2
          refine lv_tableIn (off := 90) (tgt := 114) hx hb dX5_doLine_24 (by rw [c8_2]; decide) (by rw [c8_2]; decide) (by rw [c8_2]; rfl) (by decide) ?_
          refine lv_aload_n hx hb dX5_doLine_114 rfl (lv_at hl 2 rfl) ?_
          refine va_get hx hb hts hi5 hown hK hP 0 rfl rfl 3 (by decide) (hts (.fieldLink RX5 17 "NightPlotsModel" "kind" "[I") (List.mem_of_getElem? (i := 4) rfl)) (fun _ h9 => h9) rfl dX5_doLine_115 ?_
          refine lv_aload_n hx hb dX5_doLine_118 rfl (lv_at hl 2 rfl) ?_
          refine va_get hx hb hts hi5 hown hK hP 0 rfl rfl 2 (by decide) (hts (.fieldLink RX5 78 "NightPlotsModel" "houses" "I") (List.mem_of_getElem? (i := 5) rfl)) (fun _ h9 => h9) rfl dX5_doLine_119 ?_
          refine lv_aload_n hx hb dX5_doLine_122 rfl (lv_at hl 2 rfl) ?_
          refine va_get hx hb hts hi5 hown hK hP 0 rfl rfl 25 (by decide) (hts (.fieldLink RX5 35 "NightPlotsModel" "read" "[I") (List.mem_of_getElem? (i := 1) rfl)) (fun _ h9 => h9) rfl dX5_doLine_123 ?_
          refine lv_iload_n hx hb dX5_doLine_126 rfl (lv_at hl 3 rfl) ?_
          obtain ⟨hi_14, hM⟩ := chkI_at hM
          refine va_iald hx hb hK hP 7 0 rfl rfl hi_14 dX5_doLine_127 ?_
          refine lv_iconst (v := (2 : Int32)) hx hb dX5_doLine_128 (by decide) ?_
          refine lv_isub hx hb dX5_doLine_129 ?_
          refine lv_topi (fun x15 ex15 => ?_)
          replace hM := nm_at hM ex15
          obtain ⟨hi_16, hM⟩ := chkI_at hM
          refine va_iast hx hb hK hP (hD.same rfl) hS 2 0 rfl rfl hi_16 dX5_doLine_130 (fun H locs hP _ hS => ?_)
          obtain ⟨mM_17, emM_17⟩ : ∃ z : GS, z = (upA mM 2 (upd (mM 2) (mM 0 2).toNatClampNeg x15)) := ⟨_, rfl⟩
          have hP : va_P D vwCl (cMod Y oM mM_17 tk) H := by rw [emM_17]; exact hP
          replace hM := nm_at hM emM_17
          refine lv_aload_n hx hb dX5_doLine_131 rfl (lv_at hl 2 rfl) ?_
          refine va_get hx hb hts hi5 hown hK hP 0 rfl rfl 4 (by decide) (hts (.fieldLink RX5 20 "NightPlotsModel" "begins" "[I") (List.mem_of_getElem? (i := 6) rfl)) (fun _ h9 => h9) rfl dX5_doLine_132 ?_
          refine lv_aload_n hx hb dX5_doLine_135 rfl (lv_at hl 2 rfl) ?_
          refine va_get hx hb hts hi5 hown hK hP 0 rfl rfl 2 (by decide) (hts (.fieldLink RX5 78 "NightPlotsModel" "houses" "I") (List.mem_of_getElem? (i := 5) rfl)) (fun _ h9 => h9) rfl dX5_doLine_136 ?_
          refine lv_iload_n hx hb dX5_doLine_139 rfl (lv_at hl 1 rfl) ?_
          obtain ⟨hi_18, hM⟩ := chkI_at hM
          refine va_iast hx hb hK hP (hD.same rfl) hS 3 0 rfl rfl hi_18 dX5_doLine_140 (fun H locs hP _ hS => ?_)
          obtain ⟨mM_19, emM_19⟩ : ∃ z : GS, z = (upA mM_17 3 (upd (mM_17 3) (mM_17 0 2).toNatClampNeg x2)) := ⟨_, rfl⟩
          have hP : va_P D vwCl (cMod Y oM mM_19 tk) H := by rw [emM_19]; exact hP
          replace hM := nm_at hM emM_19
          refine lv_aload_n hx hb dX5_doLine_141 rfl (lv_at hl 2 rfl) ?_
          refine lv_dup hx hb dX5_doLine_142 rfl ?_
          refine va_get hx hb hts hi5 hown hK hP 0 rfl rfl 2 (by decide) (hts (.fieldLink RX5 78 "NightPlotsModel" "houses" "I") (List.mem_of_getElem? (i := 5) rfl)) (fun _ h9 => h9) rfl dX5_doLine_143 ?_
          refine lv_iconst (v := (1 : Int32)) hx hb dX5_doLine_146 (by decide) ?_
          refine lv_iadd hx hb dX5_doLine_147 ?_
          refine lv_topi (fun x20 ex20 => ?_)
          replace hM := nm_at hM ex20
          refine va_put (ty := .int) hx hb hts hi5 tyX5 tyX5_ok nmX5 hown hK hP (hD.same rfl) hS 0 rfl rfl 2 (by decide) (hts (.fieldLink RX5 78 "NightPlotsModel" "houses" "I") (List.mem_of_getElem? (i := 5) rfl)) (fun _ h9 => h9) rfl (by decide +kernel) rfl rfl (Nat.le_of_ble_eq_true rfl) dX5_doLine_148 (fun H locs hP _ hS => ?_)
          obtain ⟨mM_21, emM_21⟩ : ∃ z : GS, z = (up2 mM_19 0 2 x20) := ⟨_, rfl⟩
          have hP : va_P D vwCl (cMod Y oM mM_21 tk) H := by rw [emM_21]; exact hP
          replace hM := nm_at hM emM_21
          refine lv_goto (tgt := 281) hx hb dX5_doLine_151 (by decide) ?_
          exact hJ7 mM_21 hM H locs ls hP hS (lv_sub hl [] rfl)
        · replace hM := if_at_neg hM c8_2
          by_cases c8_3 : (mM 7 i1.toNatClampNeg) = (3 : Int32)
          · replace hM := if_at_pos hM c8_3
            refine lv_tableIn (off := 90) (tgt := 114) hx hb dX5_doLine_24 (by rw [c8_3]; decide) (by rw [c8_3]; decide) (by rw [c8_3]; rfl) (by decide) ?_
            refine lv_aload_n hx hb dX5_doLine_114 rfl (lv_at hl 2 rfl) ?_
            refine va_get hx hb hts hi5 hown hK hP 0 rfl rfl 3 (by decide) (hts (.fieldLink RX5 17 "NightPlotsModel" "kind" "[I") (List.mem_of_getElem? (i := 4) rfl)) (fun _ h9 => h9) rfl dX5_doLine_115 ?_
            refine lv_aload_n hx hb dX5_doLine_118 rfl (lv_at hl 2 rfl) ?_
            refine va_get hx hb hts hi5 hown hK hP 0 rfl rfl 2 (by decide) (hts (.fieldLink RX5 78 "NightPlotsModel" "houses" "I") (List.mem_of_getElem? (i := 5) rfl)) (fun _ h9 => h9) rfl dX5_doLine_119 ?_
            refine lv_aload_n hx hb dX5_doLine_122 rfl (lv_at hl 2 rfl) ?_
            refine va_get hx hb hts hi5 hown hK hP 0 rfl rfl 25 (by decide) (hts (.fieldLink RX5 35 "NightPlotsModel" "read" "[I") (List.mem_of_getElem? (i := 1) rfl)) (fun _ h9 => h9) rfl dX5_doLine_123 ?_
            refine lv_iload_n hx hb dX5_doLine_126 rfl (lv_at hl 3 rfl) ?_
            obtain ⟨hi_22, hM⟩ := chkI_at hM
            refine va_iald hx hb hK hP 7 0 rfl rfl hi_22 dX5_doLine_127 ?_
            refine lv_iconst (v := (2 : Int32)) hx hb dX5_doLine_128 (by decide) ?_
            refine lv_isub hx hb dX5_doLine_129 ?_
            refine lv_topi (fun x23 ex23 => ?_)
            replace hM := nm_at hM ex23
            obtain ⟨hi_24, hM⟩ := chkI_at hM
            refine va_iast hx hb hK hP (hD.same rfl) hS 2 0 rfl rfl hi_24 dX5_doLine_130 (fun H locs hP _ hS => ?_)
            obtain ⟨mM_25, emM_25⟩ : ∃ z : GS, z = (upA mM 2 (upd (mM 2) (mM 0 2).toNatClampNeg x23)) := ⟨_, rfl⟩
            have hP : va_P D vwCl (cMod Y oM mM_25 tk) H := by rw [emM_25]; exact hP
            replace hM := nm_at hM emM_25
            refine lv_aload_n hx hb dX5_doLine_131 rfl (lv_at hl 2 rfl) ?_
            refine va_get hx hb hts hi5 hown hK hP 0 rfl rfl 4 (by decide) (hts (.fieldLink RX5 20 "NightPlotsModel" "begins" "[I") (List.mem_of_getElem? (i := 6) rfl)) (fun _ h9 => h9) rfl dX5_doLine_132 ?_
            refine lv_aload_n hx hb dX5_doLine_135 rfl (lv_at hl 2 rfl) ?_
            refine va_get hx hb hts hi5 hown hK hP 0 rfl rfl 2 (by decide) (hts (.fieldLink RX5 78 "NightPlotsModel" "houses" "I") (List.mem_of_getElem? (i := 5) rfl)) (fun _ h9 => h9) rfl dX5_doLine_136 ?_
            refine lv_iload_n hx hb dX5_doLine_139 rfl (lv_at hl 1 rfl) ?_
            obtain ⟨hi_26, hM⟩ := chkI_at hM
            refine va_iast hx hb hK hP (hD.same rfl) hS 3 0 rfl rfl hi_26 dX5_doLine_140 (fun H locs hP _ hS => ?_)
            obtain ⟨mM_27, emM_27⟩ : ∃ z : GS, z = (upA mM_25 3 (upd (mM_25 3) (mM_25 0 2).toNatClampNeg x2)) := ⟨_, rfl⟩
            have hP : va_P D vwCl (cMod Y oM mM_27 tk) H := by rw [emM_27]; exact hP
            replace hM := nm_at hM emM_27
            refine lv_aload_n hx hb dX5_doLine_141 rfl (lv_at hl 2 rfl) ?_
            refine lv_dup hx hb dX5_doLine_142 rfl ?_
            refine va_get hx hb hts hi5 hown hK hP 0 rfl rfl 2 (by decide) (hts (.fieldLink RX5 78 "NightPlotsModel" "houses" "I") (List.mem_of_getElem? (i := 5) rfl)) (fun _ h9 => h9) rfl dX5_doLine_143 ?_
            refine lv_iconst (v := (1 : Int32)) hx hb dX5_doLine_146 (by decide) ?_
            refine lv_iadd hx hb dX5_doLine_147 ?_
            refine lv_topi (fun x28 ex28 => ?_)
            replace hM := nm_at hM ex28
            refine va_put (ty := .int) hx hb hts hi5 tyX5 tyX5_ok nmX5 hown hK hP (hD.same rfl) hS 0 rfl rfl 2 (by decide) (hts (.fieldLink RX5 78 "NightPlotsModel" "houses" "I") (List.mem_of_getElem? (i := 5) rfl)) (fun _ h9 => h9) rfl (by decide +kernel) rfl rfl (Nat.le_of_ble_eq_true rfl) dX5_doLine_148 (fun H locs hP _ hS => ?_)
            obtain ⟨mM_29, emM_29⟩ : ∃ z : GS, z = (up2 mM_27 0 2 x28) := ⟨_, rfl⟩
            have hP : va_P D vwCl (cMod Y oM mM_29 tk) H := by rw [emM_29]; exact hP
            replace hM := nm_at hM emM_29
            refine lv_goto (tgt := 281) hx hb dX5_doLine_151 (by decide) ?_
            exact hJ7 mM_29 hM H locs ls hP hS (lv_sub hl [] rfl)
          · replace hM := if_at_neg hM c8_3
            by_cases c8_4 : (mM 7 i1.toNatClampNeg) = (4 : Int32)
            · replace hM := if_at_pos hM c8_4
              refine lv_tableIn (off := 90) (tgt := 114) hx hb dX5_doLine_24 (by rw [c8_4]; decide) (by rw [c8_4]; decide) (by rw [c8_4]; rfl) (by decide) ?_
              refine lv_aload_n hx hb dX5_doLine_114 rfl (lv_at hl 2 rfl) ?_
              refine va_get hx hb hts hi5 hown hK hP 0 rfl rfl 3 (by decide) (hts (.fieldLink RX5 17 "NightPlotsModel" "kind" "[I") (List.mem_of_getElem? (i := 4) rfl)) (fun _ h9 => h9) rfl dX5_doLine_115 ?_
              refine lv_aload_n hx hb dX5_doLine_118 rfl (lv_at hl 2 rfl) ?_
              refine va_get hx hb hts hi5 hown hK hP 0 rfl rfl 2 (by decide) (hts (.fieldLink RX5 78 "NightPlotsModel" "houses" "I") (List.mem_of_getElem? (i := 5) rfl)) (fun _ h9 => h9) rfl dX5_doLine_119 ?_
              refine lv_aload_n hx hb dX5_doLine_122 rfl (lv_at hl 2 rfl) ?_
              refine va_get hx hb hts hi5 hown hK hP 0 rfl rfl 25 (by decide) (hts (.fieldLink RX5 35 "NightPlotsModel" "read" "[I") (List.mem_of_getElem? (i := 1) rfl)) (fun _ h9 => h9) rfl dX5_doLine_123 ?_
              refine lv_iload_n hx hb dX5_doLine_126 rfl (lv_at hl 3 rfl) ?_
              obtain ⟨hi_30, hM⟩ := chkI_at hM
              refine va_iald hx hb hK hP 7 0 rfl rfl hi_30 dX5_doLine_127 ?_
              refine lv_iconst (v := (2 : Int32)) hx hb dX5_doLine_128 (by decide) ?_
              refine lv_isub hx hb dX5_doLine_129 ?_
              refine lv_topi (fun x31 ex31 => ?_)
              replace hM := nm_at hM ex31
              obtain ⟨hi_32, hM⟩ := chkI_at hM
              refine va_iast hx hb hK hP (hD.same rfl) hS 2 0 rfl rfl hi_32 dX5_doLine_130 (fun H locs hP _ hS => ?_)
              obtain ⟨mM_33, emM_33⟩ : ∃ z : GS, z = (upA mM 2 (upd (mM 2) (mM 0 2).toNatClampNeg x31)) := ⟨_, rfl⟩
              have hP : va_P D vwCl (cMod Y oM mM_33 tk) H := by rw [emM_33]; exact hP
              replace hM := nm_at hM emM_33
              refine lv_aload_n hx hb dX5_doLine_131 rfl (lv_at hl 2 rfl) ?_
              refine va_get hx hb hts hi5 hown hK hP 0 rfl rfl 4 (by decide) (hts (.fieldLink RX5 20 "NightPlotsModel" "begins" "[I") (List.mem_of_getElem? (i := 6) rfl)) (fun _ h9 => h9) rfl dX5_doLine_132 ?_
              refine lv_aload_n hx hb dX5_doLine_135 rfl (lv_at hl 2 rfl) ?_
              refine va_get hx hb hts hi5 hown hK hP 0 rfl rfl 2 (by decide) (hts (.fieldLink RX5 78 "NightPlotsModel" "houses" "I") (List.mem_of_getElem? (i := 5) rfl)) (fun _ h9 => h9) rfl dX5_doLine_136 ?_
              refine lv_iload_n hx hb dX5_doLine_139 rfl (lv_at hl 1 rfl) ?_
              obtain ⟨hi_34, hM⟩ := chkI_at hM
              refine va_iast hx hb hK hP (hD.same rfl) hS 3 0 rfl rfl hi_34 dX5_doLine_140 (fun H locs hP _ hS => ?_)
              obtain ⟨mM_35, emM_35⟩ : ∃ z : GS, z = (upA mM_33 3 (upd (mM_33 3) (mM_33 0 2).toNatClampNeg x2)) := ⟨_, rfl⟩
              have hP : va_P D vwCl (cMod Y oM mM_35 tk) H := by rw [emM_35]; exact hP
              replace hM := nm_at hM emM_35
              refine lv_aload_n hx hb dX5_doLine_141 rfl (lv_at hl 2 rfl) ?_
              refine lv_dup hx hb dX5_doLine_142 rfl ?_
              refine va_get hx hb hts hi5 hown hK hP 0 rfl rfl 2 (by decide) (hts (.fieldLink RX5 78 "NightPlotsModel" "houses" "I") (List.mem_of_getElem? (i := 5) rfl)) (fun _ h9 => h9) rfl dX5_doLine_143 ?_
              refine lv_iconst (v := (1 : Int32)) hx hb dX5_doLine_146 (by decide) ?_
              refine lv_iadd hx hb dX5_doLine_147 ?_
              refine lv_topi (fun x36 ex36 => ?_)
              replace hM := nm_at hM ex36
              refine va_put (ty := .int) hx hb hts hi5 tyX5 tyX5_ok nmX5 hown hK hP (hD.same rfl) hS 0 rfl rfl 2 (by decide) (hts (.fieldLink RX5 78 "NightPlotsModel" "houses" "I") (List.mem_of_getElem? (i := 5) rfl)) (fun _ h9 => h9) rfl (by decide +kernel) rfl rfl (Nat.le_of_ble_eq_true rfl) dX5_doLine_148 (fun H locs hP _ hS => ?_)
              obtain ⟨mM_37, emM_37⟩ : ∃ z : GS, z = (up2 mM_35 0 2 x36) := ⟨_, rfl⟩
              have hP : va_P D vwCl (cMod Y oM mM_37 tk) H := by rw [emM_37]; exact hP
              replace hM := nm_at hM emM_37
              refine lv_goto (tgt := 281) hx hb dX5_doLine_151 (by decide) ?_
              exact hJ7 mM_37 hM H locs ls hP hS (lv_sub hl [] rfl)
            · replace hM := if_at_neg hM c8_4
              by_cases c8_5 : (mM 7 i1.toNatClampNeg) = (5 : Int32)
              · replace hM := if_at_pos hM c8_5
                refine lv_tableIn (off := 90) (tgt := 114) hx hb dX5_doLine_24 (by rw [c8_5]; decide) (by rw [c8_5]; decide) (by rw [c8_5]; rfl) (by decide) ?_
                refine lv_aload_n hx hb dX5_doLine_114 rfl (lv_at hl 2 rfl) ?_
                refine va_get hx hb hts hi5 hown hK hP 0 rfl rfl 3 (by decide) (hts (.fieldLink RX5 17 "NightPlotsModel" "kind" "[I") (List.mem_of_getElem? (i := 4) rfl)) (fun _ h9 => h9) rfl dX5_doLine_115 ?_
                refine lv_aload_n hx hb dX5_doLine_118 rfl (lv_at hl 2 rfl) ?_
                refine va_get hx hb hts hi5 hown hK hP 0 rfl rfl 2 (by decide) (hts (.fieldLink RX5 78 "NightPlotsModel" "houses" "I") (List.mem_of_getElem? (i := 5) rfl)) (fun _ h9 => h9) rfl dX5_doLine_119 ?_
                refine lv_aload_n hx hb dX5_doLine_122 rfl (lv_at hl 2 rfl) ?_
                refine va_get hx hb hts hi5 hown hK hP 0 rfl rfl 25 (by decide) (hts (.fieldLink RX5 35 "NightPlotsModel" "read" "[I") (List.mem_of_getElem? (i := 1) rfl)) (fun _ h9 => h9) rfl dX5_doLine_123 ?_
                refine lv_iload_n hx hb dX5_doLine_126 rfl (lv_at hl 3 rfl) ?_
                obtain ⟨hi_38, hM⟩ := chkI_at hM
                refine va_iald hx hb hK hP 7 0 rfl rfl hi_38 dX5_doLine_127 ?_
                refine lv_iconst (v := (2 : Int32)) hx hb dX5_doLine_128 (by decide) ?_
                refine lv_isub hx hb dX5_doLine_129 ?_
                refine lv_topi (fun x39 ex39 => ?_)
                replace hM := nm_at hM ex39
                obtain ⟨hi_40, hM⟩ := chkI_at hM
                refine va_iast hx hb hK hP (hD.same rfl) hS 2 0 rfl rfl hi_40 dX5_doLine_130 (fun H locs hP _ hS => ?_)
                obtain ⟨mM_41, emM_41⟩ : ∃ z : GS, z = (upA mM 2 (upd (mM 2) (mM 0 2).toNatClampNeg x39)) := ⟨_, rfl⟩
                have hP : va_P D vwCl (cMod Y oM mM_41 tk) H := by rw [emM_41]; exact hP
                replace hM := nm_at hM emM_41
                refine lv_aload_n hx hb dX5_doLine_131 rfl (lv_at hl 2 rfl) ?_
                refine va_get hx hb hts hi5 hown hK hP 0 rfl rfl 4 (by decide) (hts (.fieldLink RX5 20 "NightPlotsModel" "begins" "[I") (List.mem_of_getElem? (i := 6) rfl)) (fun _ h9 => h9) rfl dX5_doLine_132 ?_
                refine lv_aload_n hx hb dX5_doLine_135 rfl (lv_at hl 2 rfl) ?_
                refine va_get hx hb hts hi5 hown hK hP 0 rfl rfl 2 (by decide) (hts (.fieldLink RX5 78 "NightPlotsModel" "houses" "I") (List.mem_of_getElem? (i := 5) rfl)) (fun _ h9 => h9) rfl dX5_doLine_136 ?_
                refine lv_iload_n hx hb dX5_doLine_139 rfl (lv_at hl 1 rfl) ?_
                obtain ⟨hi_42, hM⟩ := chkI_at hM
                refine va_iast hx hb hK hP (hD.same rfl) hS 3 0 rfl rfl hi_42 dX5_doLine_140 (fun H locs hP _ hS => ?_)
                obtain ⟨mM_43, emM_43⟩ : ∃ z : GS, z = (upA mM_41 3 (upd (mM_41 3) (mM_41 0 2).toNatClampNeg x2)) := ⟨_, rfl⟩
                have hP : va_P D vwCl (cMod Y oM mM_43 tk) H := by rw [emM_43]; exact hP
                replace hM := nm_at hM emM_43
                refine lv_aload_n hx hb dX5_doLine_141 rfl (lv_at hl 2 rfl) ?_
                refine lv_dup hx hb dX5_doLine_142 rfl ?_
                refine va_get hx hb hts hi5 hown hK hP 0 rfl rfl 2 (by decide) (hts (.fieldLink RX5 78 "NightPlotsModel" "houses" "I") (List.mem_of_getElem? (i := 5) rfl)) (fun _ h9 => h9) rfl dX5_doLine_143 ?_
                refine lv_iconst (v := (1 : Int32)) hx hb dX5_doLine_146 (by decide) ?_
                refine lv_iadd hx hb dX5_doLine_147 ?_
                refine lv_topi (fun x44 ex44 => ?_)
                replace hM := nm_at hM ex44
                refine va_put (ty := .int) hx hb hts hi5 tyX5 tyX5_ok nmX5 hown hK hP (hD.same rfl) hS 0 rfl rfl 2 (by decide) (hts (.fieldLink RX5 78 "NightPlotsModel" "houses" "I") (List.mem_of_getElem? (i := 5) rfl)) (fun _ h9 => h9) rfl (by decide +kernel) rfl rfl (Nat.le_of_ble_eq_true rfl) dX5_doLine_148 (fun H locs hP _ hS => ?_)
                obtain ⟨mM_45, emM_45⟩ : ∃ z : GS, z = (up2 mM_43 0 2 x44) := ⟨_, rfl⟩
                have hP : va_P D vwCl (cMod Y oM mM_45 tk) H := by rw [emM_45]; exact hP
                replace hM := nm_at hM emM_45
                refine lv_goto (tgt := 281) hx hb dX5_doLine_151 (by decide) ?_
                exact hJ7 mM_45 hM H locs ls hP hS (lv_sub hl [] rfl)
              · replace hM := if_at_neg hM c8_5
                by_cases c8_6 : (mM 7 i1.toNatClampNeg) = (6 : Int32)
                · replace hM := if_at_pos hM c8_6
                  refine lv_tableIn (off := 130) (tgt := 154) hx hb dX5_doLine_24 (by rw [c8_6]; decide) (by rw [c8_6]; decide) (by rw [c8_6]; rfl) (by decide) ?_
                  refine lv_aload_n hx hb dX5_doLine_154 rfl (lv_at hl 2 rfl) ?_
                  refine va_get hx hb hts hi5 hown hK hP 0 rfl rfl 6 (by decide) (hts (.fieldLink RX5 23 "NightPlotsModel" "path" "[I") (List.mem_of_getElem? (i := 7) rfl)) (fun _ h9 => h9) rfl dX5_doLine_155 ?_
                  refine lv_iconst (v := (2 : Int32)) hx hb dX5_doLine_158 (by decide) ?_
                  refine lv_aload_n hx hb dX5_doLine_159 rfl (lv_at hl 2 rfl) ?_
                  refine va_get hx hb hts hi5 hown hK hP 0 rfl rfl 5 (by decide) (hts (.fieldLink RX5 85 "NightPlotsModel" "paths" "I") (List.mem_of_getElem? (i := 8) rfl)) (fun _ h9 => h9) rfl dX5_doLine_160 ?_
                  refine lv_imul hx hb dX5_doLine_163 ?_
                  refine lv_iload_n hx hb dX5_doLine_164 rfl (lv_at hl 1 rfl) ?_
                  obtain ⟨hi_46, hM⟩ := chkI_at hM
                  refine va_iast hx hb hK hP (hD.same rfl) hS 4 0 rfl rfl hi_46 dX5_doLine_165 (fun H locs hP _ hS => ?_)
                  obtain ⟨mM_47, emM_47⟩ : ∃ z : GS, z = (upA mM 4 (upd (mM 4) ((2 : Int32) * (mM 0 5)).toNatClampNeg x2)) := ⟨_, rfl⟩
                  have hP : va_P D vwCl (cMod Y oM mM_47 tk) H := by rw [emM_47]; exact hP
                  replace hM := nm_at hM emM_47
                  refine lv_aload_n hx hb dX5_doLine_166 rfl (lv_at hl 2 rfl) ?_
                  refine va_get hx hb hts hi5 hown hK hP 0 rfl rfl 6 (by decide) (hts (.fieldLink RX5 23 "NightPlotsModel" "path" "[I") (List.mem_of_getElem? (i := 7) rfl)) (fun _ h9 => h9) rfl dX5_doLine_167 ?_
                  refine lv_iconst (v := (2 : Int32)) hx hb dX5_doLine_170 (by decide) ?_
                  refine lv_aload_n hx hb dX5_doLine_171 rfl (lv_at hl 2 rfl) ?_
                  refine va_get hx hb hts hi5 hown hK hP 0 rfl rfl 5 (by decide) (hts (.fieldLink RX5 85 "NightPlotsModel" "paths" "I") (List.mem_of_getElem? (i := 8) rfl)) (fun _ h9 => h9) rfl dX5_doLine_172 ?_
                  refine lv_imul hx hb dX5_doLine_175 ?_
                  refine lv_iconst (v := (1 : Int32)) hx hb dX5_doLine_176 (by decide) ?_
                  refine lv_iadd hx hb dX5_doLine_177 ?_
                  refine lv_iload_n hx hb dX5_doLine_178 rfl (lv_at hl 0 rfl) ?_
                  obtain ⟨hi_48, hM⟩ := chkI_at hM
                  refine va_iast hx hb hK hP (hD.same rfl) hS 4 0 rfl rfl hi_48 dX5_doLine_179 (fun H locs hP _ hS => ?_)
                  obtain ⟨mM_49, emM_49⟩ : ∃ z : GS, z = (upA mM_47 4 (upd (mM_47 4) (((2 : Int32) * (mM_47 0 5)) + (1 : Int32)).toNatClampNeg x4)) := ⟨_, rfl⟩
                  have hP : va_P D vwCl (cMod Y oM mM_49 tk) H := by rw [emM_49]; exact hP
                  replace hM := nm_at hM emM_49
                  refine lv_aload_n hx hb dX5_doLine_180 rfl (lv_at hl 2 rfl) ?_
                  refine lv_dup hx hb dX5_doLine_181 rfl ?_
                  refine va_get hx hb hts hi5 hown hK hP 0 rfl rfl 5 (by decide) (hts (.fieldLink RX5 85 "NightPlotsModel" "paths" "I") (List.mem_of_getElem? (i := 8) rfl)) (fun _ h9 => h9) rfl dX5_doLine_182 ?_
                  refine lv_iconst (v := (1 : Int32)) hx hb dX5_doLine_185 (by decide) ?_
                  refine lv_iadd hx hb dX5_doLine_186 ?_
                  refine lv_topi (fun x50 ex50 => ?_)
                  replace hM := nm_at hM ex50
                  refine va_put (ty := .int) hx hb hts hi5 tyX5 tyX5_ok nmX5 hown hK hP (hD.same rfl) hS 0 rfl rfl 5 (by decide) (hts (.fieldLink RX5 85 "NightPlotsModel" "paths" "I") (List.mem_of_getElem? (i := 8) rfl)) (fun _ h9 => h9) rfl (by decide +kernel) rfl rfl (Nat.le_of_ble_eq_true rfl) dX5_doLine_187 (fun H locs hP _ hS => ?_)
                  obtain ⟨mM_51, emM_51⟩ : ∃ z : GS, z = (up2 mM_49 0 5 x50) := ⟨_, rfl⟩
                  have hP : va_P D vwCl (cMod Y oM mM_51 tk) H := by rw [emM_51]; exact hP
                  replace hM := nm_at hM emM_51
                  refine lv_goto (tgt := 281) hx hb dX5_doLine_190 (by decide) ?_
                  exact hJ7 mM_51 hM H locs ls hP hS (lv_sub hl [] rfl)
                · replace hM := if_at_neg hM c8_6
                  by_cases c8_7 : (mM 7 i1.toNatClampNeg) = (7 : Int32)
                  · replace hM := if_at_pos hM c8_7
                    refine lv_tableIn (off := 169) (tgt := 193) hx hb dX5_doLine_24 (by rw [c8_7]; decide) (by rw [c8_7]; decide) (by rw [c8_7]; rfl) (by decide) ?_
                    refine lv_aload_n hx hb dX5_doLine_193 rfl (lv_at hl 2 rfl) ?_
                    refine va_get hx hb hts hi5 hown hK hP 0 rfl rfl 8 (by decide) (hts (.fieldLink RX5 26 "NightPlotsModel" "feud" "[I") (List.mem_of_getElem? (i := 9) rfl)) (fun _ h9 => h9) rfl dX5_doLine_194 ?_
                    refine lv_iconst (v := (2 : Int32)) hx hb dX5_doLine_197 (by decide) ?_
                    refine lv_aload_n hx hb dX5_doLine_198 rfl (lv_at hl 2 rfl) ?_
                    refine va_get hx hb hts hi5 hown hK hP 0 rfl rfl 7 (by decide) (hts (.fieldLink RX5 88 "NightPlotsModel" "feuds" "I") (List.mem_of_getElem? (i := 10) rfl)) (fun _ h9 => h9) rfl dX5_doLine_199 ?_
                    refine lv_imul hx hb dX5_doLine_202 ?_
                    refine lv_iload_n hx hb dX5_doLine_203 rfl (lv_at hl 1 rfl) ?_
                    obtain ⟨hi_52, hM⟩ := chkI_at hM
                    refine va_iast hx hb hK hP (hD.same rfl) hS 5 0 rfl rfl hi_52 dX5_doLine_204 (fun H locs hP _ hS => ?_)
                    obtain ⟨mM_53, emM_53⟩ : ∃ z : GS, z = (upA mM 5 (upd (mM 5) ((2 : Int32) * (mM 0 7)).toNatClampNeg x2)) := ⟨_, rfl⟩
                    have hP : va_P D vwCl (cMod Y oM mM_53 tk) H := by rw [emM_53]; exact hP
                    replace hM := nm_at hM emM_53
                    refine lv_aload_n hx hb dX5_doLine_205 rfl (lv_at hl 2 rfl) ?_
                    refine va_get hx hb hts hi5 hown hK hP 0 rfl rfl 8 (by decide) (hts (.fieldLink RX5 26 "NightPlotsModel" "feud" "[I") (List.mem_of_getElem? (i := 9) rfl)) (fun _ h9 => h9) rfl dX5_doLine_206 ?_
                    refine lv_iconst (v := (2 : Int32)) hx hb dX5_doLine_209 (by decide) ?_
                    refine lv_aload_n hx hb dX5_doLine_210 rfl (lv_at hl 2 rfl) ?_
                    refine va_get hx hb hts hi5 hown hK hP 0 rfl rfl 7 (by decide) (hts (.fieldLink RX5 88 "NightPlotsModel" "feuds" "I") (List.mem_of_getElem? (i := 10) rfl)) (fun _ h9 => h9) rfl dX5_doLine_211 ?_
                    refine lv_imul hx hb dX5_doLine_214 ?_
                    refine lv_iconst (v := (1 : Int32)) hx hb dX5_doLine_215 (by decide) ?_
                    refine lv_iadd hx hb dX5_doLine_216 ?_
                    refine lv_iload_n hx hb dX5_doLine_217 rfl (lv_at hl 0 rfl) ?_
                    obtain ⟨hi_54, hM⟩ := chkI_at hM
                    refine va_iast hx hb hK hP (hD.same rfl) hS 5 0 rfl rfl hi_54 dX5_doLine_218 (fun H locs hP _ hS => ?_)
                    obtain ⟨mM_55, emM_55⟩ : ∃ z : GS, z = (upA mM_53 5 (upd (mM_53 5) (((2 : Int32) * (mM_53 0 7)) + (1 : Int32)).toNatClampNeg x4)) := ⟨_, rfl⟩
                    have hP : va_P D vwCl (cMod Y oM mM_55 tk) H := by rw [emM_55]; exact hP
                    replace hM := nm_at hM emM_55
                    refine lv_aload_n hx hb dX5_doLine_219 rfl (lv_at hl 2 rfl) ?_
                    refine lv_dup hx hb dX5_doLine_220 rfl ?_
                    refine va_get hx hb hts hi5 hown hK hP 0 rfl rfl 7 (by decide) (hts (.fieldLink RX5 88 "NightPlotsModel" "feuds" "I") (List.mem_of_getElem? (i := 10) rfl)) (fun _ h9 => h9) rfl dX5_doLine_221 ?_
                    refine lv_iconst (v := (1 : Int32)) hx hb dX5_doLine_224 (by decide) ?_
                    refine lv_iadd hx hb dX5_doLine_225 ?_
                    refine lv_topi (fun x56 ex56 => ?_)
                    replace hM := nm_at hM ex56
                    refine va_put (ty := .int) hx hb hts hi5 tyX5 tyX5_ok nmX5 hown hK hP (hD.same rfl) hS 0 rfl rfl 7 (by decide) (hts (.fieldLink RX5 88 "NightPlotsModel" "feuds" "I") (List.mem_of_getElem? (i := 10) rfl)) (fun _ h9 => h9) rfl (by decide +kernel) rfl rfl (Nat.le_of_ble_eq_true rfl) dX5_doLine_226 (fun H locs hP _ hS => ?_)
                    obtain ⟨mM_57, emM_57⟩ : ∃ z : GS, z = (up2 mM_55 0 7 x56) := ⟨_, rfl⟩
                    have hP : va_P D vwCl (cMod Y oM mM_57 tk) H := by rw [emM_57]; exact hP
                    replace hM := nm_at hM emM_57
                    refine lv_goto (tgt := 281) hx hb dX5_doLine_229 (by decide) ?_
                    exact hJ7 mM_57 hM H locs ls hP hS (lv_sub hl [] rfl)
                  · replace hM := if_at_neg hM c8_7
                    by_cases c8_8 : (mM 7 i1.toNatClampNeg) = (8 : Int32)
                    · replace hM := if_at_pos hM c8_8
                      refine lv_tableIn (off := 221) (tgt := 245) hx hb dX5_doLine_24 (by rw [c8_8]; decide) (by rw [c8_8]; decide) (by rw [c8_8]; rfl) (by decide) ?_
                      refine lv_aload_n hx hb dX5_doLine_245 rfl (lv_at hl 2 rfl) ?_
                      refine lv_aload_n hx hb dX5_doLine_246 rfl (lv_at hl 2 rfl) ?_
                      refine va_get hx hb hts hi5 hown hK hP 0 rfl rfl 25 (by decide) (hts (.fieldLink RX5 35 "NightPlotsModel" "read" "[I") (List.mem_of_getElem? (i := 1) rfl)) (fun _ h9 => h9) rfl dX5_doLine_247 ?_
                      refine lv_iload_n hx hb dX5_doLine_250 rfl (lv_at hl 3 rfl) ?_
                      obtain ⟨hi_58, hM⟩ := chkI_at hM
                      refine va_iald hx hb hK hP 7 0 rfl rfl hi_58 dX5_doLine_251 ?_
                      refine lv_bipush (v := (8 : Int32)) hx hb dX5_doLine_252 (by decide) ?_
                      refine lv_isub hx hb dX5_doLine_254 ?_
                      refine lv_topi (fun x59 ex59 => ?_)
                      replace hM := nm_at hM ex59
                      refine va_put (ty := .int) hx hb hts hi5 tyX5 tyX5_ok nmX5 hown hK hP (hD.same rfl) hS 0 rfl rfl 9 (by decide) (hts (.fieldLink RX5 91 "NightPlotsModel" "law" "I") (List.mem_of_getElem? (i := 11) rfl)) (fun _ h9 => h9) rfl (by decide +kernel) rfl rfl (Nat.le_of_ble_eq_true rfl) dX5_doLine_255 (fun H locs hP _ hS => ?_)
                      obtain ⟨mM_60, emM_60⟩ : ∃ z : GS, z = (up2 mM 0 9 x59) := ⟨_, rfl⟩
                      have hP : va_P D vwCl (cMod Y oM mM_60 tk) H := by rw [emM_60]; exact hP
                      replace hM := nm_at hM emM_60
                      refine lv_aload_n hx hb dX5_doLine_258 rfl (lv_at hl 2 rfl) ?_
                      refine lv_aload_n hx hb dX5_doLine_259 rfl (lv_at hl 2 rfl) ?_
                      refine va_get hx hb hts hi5 hown hK hP 0 rfl rfl 25 (by decide) (hts (.fieldLink RX5 35 "NightPlotsModel" "read" "[I") (List.mem_of_getElem? (i := 1) rfl)) (fun _ h9 => h9) rfl dX5_doLine_260 ?_
                      refine lv_iload_n hx hb dX5_doLine_263 rfl (lv_at hl 3 rfl) ?_
                      obtain ⟨hi_61, hM⟩ := chkI_at hM
                      refine va_iald hx hb hK hP 7 0 rfl rfl hi_61 dX5_doLine_264 ?_
                      refine lv_bipush (v := (11 : Int32)) hx hb dX5_doLine_265 (by decide) ?_
                      refine jn1_at (fun (x62 : Int32) => ∀ (H : Heap) (locs : List Loc) (ls : Array Slot), va_P D vwCl (cMod Y oM mM_60 tk) H → va_S A s.heap H locs → lv_has ls 4 [] → W p l e (headSpec wsX5_doLine rmX5_doLine).room s m ([.ref (oM 0), .int i1] : List Value).toArray below meth c H locs 0 0 QQ (F0 m 278 ls [.int x62, .ref (oM 0)])) hM (fun x62 hM H locs ls hP hS hl => ?_) (fun k63 hJ63 hM => ?_)
                      · refine va_put (ty := .int) hx hb hts hi5 tyX5 tyX5_ok nmX5 hown hK hP (hD.same rfl) hS 0 rfl rfl 10 (by decide) (hts (.fieldLink RX5 29 "NightPlotsModel" "seed" "I") (List.mem_of_getElem? (i := 12) rfl)) (fun _ h9 => h9) rfl (by decide +kernel) rfl rfl (Nat.le_of_ble_eq_true rfl) dX5_doLine_278 (fun H locs hP _ hS => ?_)
                        obtain ⟨mM_64, emM_64⟩ : ∃ z : GS, z = (up2 mM_60 0 10 x62) := ⟨_, rfl⟩
                        have hP : va_P D vwCl (cMod Y oM mM_64 tk) H := by rw [emM_64]; exact hP
                        replace hM := nm_at hM emM_64
                        exact hJ7 mM_64 hM H locs ls hP hS (lv_sub hl [] rfl)
                      · refine lv_icmp_ne (tgt := 274) hx hb dX5_doLine_267 (by decide) (fun c65 => ?_) (fun c65 => ?_)
                        · replace hM := if_at_neg hM c65
                          refine lv_aload_n hx hb dX5_doLine_274 rfl (lv_at hl 2 rfl) ?_
                          refine va_get hx hb hts hi5 hown hK hP 0 rfl rfl 10 (by decide) (hts (.fieldLink RX5 29 "NightPlotsModel" "seed" "I") (List.mem_of_getElem? (i := 12) rfl)) (fun _ h9 => h9) rfl dX5_doLine_275 ?_
                          exact hJ63 (mM_60 0 10) hM H locs ls hP hS (lv_sub hl [] rfl)
                        · replace hM := if_at_pos hM c65
                          refine lv_iload_n hx hb dX5_doLine_270 rfl (lv_at hl 1 rfl) ?_
                          refine lv_goto (tgt := 278) hx hb dX5_doLine_271 (by decide) ?_
                          exact hJ63 x2 hM H locs ls hP hS (lv_sub hl [] rfl)
                    · replace hM := if_at_neg hM c8_8
                      by_cases c8_9 : (mM 7 i1.toNatClampNeg) = (9 : Int32)
                      · replace hM := if_at_pos hM c8_9
                        refine lv_tableIn (off := 221) (tgt := 245) hx hb dX5_doLine_24 (by rw [c8_9]; decide) (by rw [c8_9]; decide) (by rw [c8_9]; rfl) (by decide) ?_
                        refine lv_aload_n hx hb dX5_doLine_245 rfl (lv_at hl 2 rfl) ?_
                        refine lv_aload_n hx hb dX5_doLine_246 rfl (lv_at hl 2 rfl) ?_
                        refine va_get hx hb hts hi5 hown hK hP 0 rfl rfl 25 (by decide) (hts (.fieldLink RX5 35 "NightPlotsModel" "read" "[I") (List.mem_of_getElem? (i := 1) rfl)) (fun _ h9 => h9) rfl dX5_doLine_247 ?_
                        refine lv_iload_n hx hb dX5_doLine_250 rfl (lv_at hl 3 rfl) ?_
                        obtain ⟨hi_66, hM⟩ := chkI_at hM
                        refine va_iald hx hb hK hP 7 0 rfl rfl hi_66 dX5_doLine_251 ?_
                        refine lv_bipush (v := (8 : Int32)) hx hb dX5_doLine_252 (by decide) ?_
                        refine lv_isub hx hb dX5_doLine_254 ?_
                        refine lv_topi (fun x67 ex67 => ?_)
                        replace hM := nm_at hM ex67
                        refine va_put (ty := .int) hx hb hts hi5 tyX5 tyX5_ok nmX5 hown hK hP (hD.same rfl) hS 0 rfl rfl 9 (by decide) (hts (.fieldLink RX5 91 "NightPlotsModel" "law" "I") (List.mem_of_getElem? (i := 11) rfl)) (fun _ h9 => h9) rfl (by decide +kernel) rfl rfl (Nat.le_of_ble_eq_true rfl) dX5_doLine_255 (fun H locs hP _ hS => ?_)
                        obtain ⟨mM_68, emM_68⟩ : ∃ z : GS, z = (up2 mM 0 9 x67) := ⟨_, rfl⟩
                        have hP : va_P D vwCl (cMod Y oM mM_68 tk) H := by rw [emM_68]; exact hP
                        replace hM := nm_at hM emM_68
                        refine lv_aload_n hx hb dX5_doLine_258 rfl (lv_at hl 2 rfl) ?_
                        refine lv_aload_n hx hb dX5_doLine_259 rfl (lv_at hl 2 rfl) ?_
                        refine va_get hx hb hts hi5 hown hK hP 0 rfl rfl 25 (by decide) (hts (.fieldLink RX5 35 "NightPlotsModel" "read" "[I") (List.mem_of_getElem? (i := 1) rfl)) (fun _ h9 => h9) rfl dX5_doLine_260 ?_
                        refine lv_iload_n hx hb dX5_doLine_263 rfl (lv_at hl 3 rfl) ?_
                        obtain ⟨hi_69, hM⟩ := chkI_at hM
                        refine va_iald hx hb hK hP 7 0 rfl rfl hi_69 dX5_doLine_264 ?_
                        refine lv_bipush (v := (11 : Int32)) hx hb dX5_doLine_265 (by decide) ?_
                        refine jn1_at (fun (x70 : Int32) => ∀ (H : Heap) (locs : List Loc) (ls : Array Slot), va_P D vwCl (cMod Y oM mM_68 tk) H → va_S A s.heap H locs → lv_has ls 4 [] → W p l e (headSpec wsX5_doLine rmX5_doLine).room s m ([.ref (oM 0), .int i1] : List Value).toArray below meth c H locs 0 0 QQ (F0 m 278 ls [.int x70, .ref (oM 0)])) hM (fun x70 hM H locs ls hP hS hl => ?_) (fun k71 hJ71 hM => ?_)
                        · refine va_put (ty := .int) hx hb hts hi5 tyX5 tyX5_ok nmX5 hown hK hP (hD.same rfl) hS 0 rfl rfl 10 (by decide) (hts (.fieldLink RX5 29 "NightPlotsModel" "seed" "I") (List.mem_of_getElem? (i := 12) rfl)) (fun _ h9 => h9) rfl (by decide +kernel) rfl rfl (Nat.le_of_ble_eq_true rfl) dX5_doLine_278 (fun H locs hP _ hS => ?_)
                          obtain ⟨mM_72, emM_72⟩ : ∃ z : GS, z = (up2 mM_68 0 10 x70) := ⟨_, rfl⟩
                          have hP : va_P D vwCl (cMod Y oM mM_72 tk) H := by rw [emM_72]; exact hP
                          replace hM := nm_at hM emM_72
                          exact hJ7 mM_72 hM H locs ls hP hS (lv_sub hl [] rfl)
                        · refine lv_icmp_ne (tgt := 274) hx hb dX5_doLine_267 (by decide) (fun c73 => ?_) (fun c73 => ?_)
                          · replace hM := if_at_neg hM c73
                            refine lv_aload_n hx hb dX5_doLine_274 rfl (lv_at hl 2 rfl) ?_
                            refine va_get hx hb hts hi5 hown hK hP 0 rfl rfl 10 (by decide) (hts (.fieldLink RX5 29 "NightPlotsModel" "seed" "I") (List.mem_of_getElem? (i := 12) rfl)) (fun _ h9 => h9) rfl dX5_doLine_275 ?_
                            exact hJ71 (mM_68 0 10) hM H locs ls hP hS (lv_sub hl [] rfl)
                          · replace hM := if_at_pos hM c73
                            refine lv_iload_n hx hb dX5_doLine_270 rfl (lv_at hl 1 rfl) ?_
                            refine lv_goto (tgt := 278) hx hb dX5_doLine_271 (by decide) ?_
                            exact hJ71 x2 hM H locs ls hP hS (lv_sub hl [] rfl)
                      · replace hM := if_at_neg hM c8_9
                        by_cases c8_10 : (mM 7 i1.toNatClampNeg) = (10 : Int32)
                        · replace hM := if_at_pos hM c8_10
                          refine lv_tableIn (off := 221) (tgt := 245) hx hb dX5_doLine_24 (by rw [c8_10]; decide) (by rw [c8_10]; decide) (by rw [c8_10]; rfl) (by decide) ?_
                          refine lv_aload_n hx hb dX5_doLine_245 rfl (lv_at hl 2 rfl) ?_
                          refine lv_aload_n hx hb dX5_doLine_246 rfl (lv_at hl 2 rfl) ?_
                          refine va_get hx hb hts hi5 hown hK hP 0 rfl rfl 25 (by decide) (hts (.fieldLink RX5 35 "NightPlotsModel" "read" "[I") (List.mem_of_getElem? (i := 1) rfl)) (fun _ h9 => h9) rfl dX5_doLine_247 ?_
                          refine lv_iload_n hx hb dX5_doLine_250 rfl (lv_at hl 3 rfl) ?_
                          obtain ⟨hi_74, hM⟩ := chkI_at hM
                          refine va_iald hx hb hK hP 7 0 rfl rfl hi_74 dX5_doLine_251 ?_
                          refine lv_bipush (v := (8 : Int32)) hx hb dX5_doLine_252 (by decide) ?_
                          refine lv_isub hx hb dX5_doLine_254 ?_
                          refine lv_topi (fun x75 ex75 => ?_)
                          replace hM := nm_at hM ex75
                          refine va_put (ty := .int) hx hb hts hi5 tyX5 tyX5_ok nmX5 hown hK hP (hD.same rfl) hS 0 rfl rfl 9 (by decide) (hts (.fieldLink RX5 91 "NightPlotsModel" "law" "I") (List.mem_of_getElem? (i := 11) rfl)) (fun _ h9 => h9) rfl (by decide +kernel) rfl rfl (Nat.le_of_ble_eq_true rfl) dX5_doLine_255 (fun H locs hP _ hS => ?_)
                          obtain ⟨mM_76, emM_76⟩ : ∃ z : GS, z = (up2 mM 0 9 x75) := ⟨_, rfl⟩
                          have hP : va_P D vwCl (cMod Y oM mM_76 tk) H := by rw [emM_76]; exact hP
                          replace hM := nm_at hM emM_76
                          refine lv_aload_n hx hb dX5_doLine_258 rfl (lv_at hl 2 rfl) ?_
                          refine lv_aload_n hx hb dX5_doLine_259 rfl (lv_at hl 2 rfl) ?_
                          refine va_get hx hb hts hi5 hown hK hP 0 rfl rfl 25 (by decide) (hts (.fieldLink RX5 35 "NightPlotsModel" "read" "[I") (List.mem_of_getElem? (i := 1) rfl)) (fun _ h9 => h9) rfl dX5_doLine_260 ?_
                          refine lv_iload_n hx hb dX5_doLine_263 rfl (lv_at hl 3 rfl) ?_
                          obtain ⟨hi_77, hM⟩ := chkI_at hM
                          refine va_iald hx hb hK hP 7 0 rfl rfl hi_77 dX5_doLine_264 ?_
                          refine lv_bipush (v := (11 : Int32)) hx hb dX5_doLine_265 (by decide) ?_
                          refine jn1_at (fun (x78 : Int32) => ∀ (H : Heap) (locs : List Loc) (ls : Array Slot), va_P D vwCl (cMod Y oM mM_76 tk) H → va_S A s.heap H locs → lv_has ls 4 [] → W p l e (headSpec wsX5_doLine rmX5_doLine).room s m ([.ref (oM 0), .int i1] : List Value).toArray below meth c H locs 0 0 QQ (F0 m 278 ls [.int x78, .ref (oM 0)])) hM (fun x78 hM H locs ls hP hS hl => ?_) (fun k79 hJ79 hM => ?_)
                          · refine va_put (ty := .int) hx hb hts hi5 tyX5 tyX5_ok nmX5 hown hK hP (hD.same rfl) hS 0 rfl rfl 10 (by decide) (hts (.fieldLink RX5 29 "NightPlotsModel" "seed" "I") (List.mem_of_getElem? (i := 12) rfl)) (fun _ h9 => h9) rfl (by decide +kernel) rfl rfl (Nat.le_of_ble_eq_true rfl) dX5_doLine_278 (fun H locs hP _ hS => ?_)
                            obtain ⟨mM_80, emM_80⟩ : ∃ z : GS, z = (up2 mM_76 0 10 x78) := ⟨_, rfl⟩
                            have hP : va_P D vwCl (cMod Y oM mM_80 tk) H := by rw [emM_80]; exact hP
                            replace hM := nm_at hM emM_80
                            exact hJ7 mM_80 hM H locs ls hP hS (lv_sub hl [] rfl)
                          · refine lv_icmp_ne (tgt := 274) hx hb dX5_doLine_267 (by decide) (fun c81 => ?_) (fun c81 => ?_)
                            · replace hM := if_at_neg hM c81
                              refine lv_aload_n hx hb dX5_doLine_274 rfl (lv_at hl 2 rfl) ?_
                              refine va_get hx hb hts hi5 hown hK hP 0 rfl rfl 10 (by decide) (hts (.fieldLink RX5 29 "NightPlotsModel" "seed" "I") (List.mem_of_getElem? (i := 12) rfl)) (fun _ h9 => h9) rfl dX5_doLine_275 ?_
                              exact hJ79 (mM_76 0 10) hM H locs ls hP hS (lv_sub hl [] rfl)
                            · replace hM := if_at_pos hM c81
                              refine lv_iload_n hx hb dX5_doLine_270 rfl (lv_at hl 1 rfl) ?_
                              refine lv_goto (tgt := 278) hx hb dX5_doLine_271 (by decide) ?_
                              exact hJ79 x2 hM H locs ls hP hS (lv_sub hl [] rfl)
                        · replace hM := if_at_neg hM c8_10
                          by_cases c8_11 : (mM 7 i1.toNatClampNeg) = (11 : Int32)
                          · replace hM := if_at_pos hM c8_11
                            refine lv_tableIn (off := 221) (tgt := 245) hx hb dX5_doLine_24 (by rw [c8_11]; decide) (by rw [c8_11]; decide) (by rw [c8_11]; rfl) (by decide) ?_
                            refine lv_aload_n hx hb dX5_doLine_245 rfl (lv_at hl 2 rfl) ?_
                            refine lv_aload_n hx hb dX5_doLine_246 rfl (lv_at hl 2 rfl) ?_
                            refine va_get hx hb hts hi5 hown hK hP 0 rfl rfl 25 (by decide) (hts (.fieldLink RX5 35 "NightPlotsModel" "read" "[I") (List.mem_of_getElem? (i := 1) rfl)) (fun _ h9 => h9) rfl dX5_doLine_247 ?_
                            refine lv_iload_n hx hb dX5_doLine_250 rfl (lv_at hl 3 rfl) ?_
                            obtain ⟨hi_82, hM⟩ := chkI_at hM
                            refine va_iald hx hb hK hP 7 0 rfl rfl hi_82 dX5_doLine_251 ?_
                            refine lv_bipush (v := (8 : Int32)) hx hb dX5_doLine_252 (by decide) ?_
                            refine lv_isub hx hb dX5_doLine_254 ?_
                            refine lv_topi (fun x83 ex83 => ?_)
                            replace hM := nm_at hM ex83
                            refine va_put (ty := .int) hx hb hts hi5 tyX5 tyX5_ok nmX5 hown hK hP (hD.same rfl) hS 0 rfl rfl 9 (by decide) (hts (.fieldLink RX5 91 "NightPlotsModel" "law" "I") (List.mem_of_getElem? (i := 11) rfl)) (fun _ h9 => h9) rfl (by decide +kernel) rfl rfl (Nat.le_of_ble_eq_true rfl) dX5_doLine_255 (fun H locs hP _ hS => ?_)
                            obtain ⟨mM_84, emM_84⟩ : ∃ z : GS, z = (up2 mM 0 9 x83) := ⟨_, rfl⟩
                            have hP : va_P D vwCl (cMod Y oM mM_84 tk) H := by rw [emM_84]; exact hP
                            replace hM := nm_at hM emM_84
                            refine lv_aload_n hx hb dX5_doLine_258 rfl (lv_at hl 2 rfl) ?_
                            refine lv_aload_n hx hb dX5_doLine_259 rfl (lv_at hl 2 rfl) ?_
                            refine va_get hx hb hts hi5 hown hK hP 0 rfl rfl 25 (by decide) (hts (.fieldLink RX5 35 "NightPlotsModel" "read" "[I") (List.mem_of_getElem? (i := 1) rfl)) (fun _ h9 => h9) rfl dX5_doLine_260 ?_
                            refine lv_iload_n hx hb dX5_doLine_263 rfl (lv_at hl 3 rfl) ?_
                            obtain ⟨hi_85, hM⟩ := chkI_at hM
                            refine va_iald hx hb hK hP 7 0 rfl rfl hi_85 dX5_doLine_264 ?_
                            refine lv_bipush (v := (11 : Int32)) hx hb dX5_doLine_265 (by decide) ?_
                            refine jn1_at (fun (x86 : Int32) => ∀ (H : Heap) (locs : List Loc) (ls : Array Slot), va_P D vwCl (cMod Y oM mM_84 tk) H → va_S A s.heap H locs → lv_has ls 4 [] → W p l e (headSpec wsX5_doLine rmX5_doLine).room s m ([.ref (oM 0), .int i1] : List Value).toArray below meth c H locs 0 0 QQ (F0 m 278 ls [.int x86, .ref (oM 0)])) hM (fun x86 hM H locs ls hP hS hl => ?_) (fun k87 hJ87 hM => ?_)
                            · refine va_put (ty := .int) hx hb hts hi5 tyX5 tyX5_ok nmX5 hown hK hP (hD.same rfl) hS 0 rfl rfl 10 (by decide) (hts (.fieldLink RX5 29 "NightPlotsModel" "seed" "I") (List.mem_of_getElem? (i := 12) rfl)) (fun _ h9 => h9) rfl (by decide +kernel) rfl rfl (Nat.le_of_ble_eq_true rfl) dX5_doLine_278 (fun H locs hP _ hS => ?_)
                              obtain ⟨mM_88, emM_88⟩ : ∃ z : GS, z = (up2 mM_84 0 10 x86) := ⟨_, rfl⟩
                              have hP : va_P D vwCl (cMod Y oM mM_88 tk) H := by rw [emM_88]; exact hP
                              replace hM := nm_at hM emM_88
                              exact hJ7 mM_88 hM H locs ls hP hS (lv_sub hl [] rfl)
                            · refine lv_icmp_ne (tgt := 274) hx hb dX5_doLine_267 (by decide) (fun c89 => ?_) (fun c89 => ?_)
                              · replace hM := if_at_neg hM c89
                                refine lv_aload_n hx hb dX5_doLine_274 rfl (lv_at hl 2 rfl) ?_
                                refine va_get hx hb hts hi5 hown hK hP 0 rfl rfl 10 (by decide) (hts (.fieldLink RX5 29 "NightPlotsModel" "seed" "I") (List.mem_of_getElem? (i := 12) rfl)) (fun _ h9 => h9) rfl dX5_doLine_275 ?_
                                exact hJ87 (mM_84 0 10) hM H locs ls hP hS (lv_sub hl [] rfl)
                              · replace hM := if_at_pos hM c89
                                refine lv_iload_n hx hb dX5_doLine_270 rfl (lv_at hl 1 rfl) ?_
                                refine lv_goto (tgt := 278) hx hb dX5_doLine_271 (by decide) ?_
                                exact hJ87 x2 hM H locs ls hP hS (lv_sub hl [] rfl)
                          · replace hM := if_at_neg hM c8_11
                            by_cases c8_12 : (mM 7 i1.toNatClampNeg) = (12 : Int32)
                            · replace hM := if_at_pos hM c8_12
                              refine lv_tableIn (off := 208) (tgt := 232) hx hb dX5_doLine_24 (by rw [c8_12]; decide) (by rw [c8_12]; decide) (by rw [c8_12]; rfl) (by decide) ?_
                              refine lv_aload_n hx hb dX5_doLine_232 rfl (lv_at hl 2 rfl) ?_
                              refine lv_iconst (v := (0 : Int32)) hx hb dX5_doLine_233 (by decide) ?_
                              refine va_put (ty := .int) hx hb hts hi5 tyX5 tyX5_ok nmX5 hown hK hP (hD.same rfl) hS 0 rfl rfl 2 (by decide) (hts (.fieldLink RX5 78 "NightPlotsModel" "houses" "I") (List.mem_of_getElem? (i := 5) rfl)) (fun _ h9 => h9) rfl (by decide +kernel) rfl rfl (Nat.le_of_ble_eq_true rfl) dX5_doLine_234 (fun H locs hP _ hS => ?_)
                              obtain ⟨mM_90, emM_90⟩ : ∃ z : GS, z = (up2 mM 0 2 (0 : Int32)) := ⟨_, rfl⟩
                              have hP : va_P D vwCl (cMod Y oM mM_90 tk) H := by rw [emM_90]; exact hP
                              replace hM := nm_at hM emM_90
                              refine lv_aload_n hx hb dX5_doLine_237 rfl (lv_at hl 2 rfl) ?_
                              refine lv_iconst (v := (0 : Int32)) hx hb dX5_doLine_238 (by decide) ?_
                              refine va_put (ty := .int) hx hb hts hi5 tyX5 tyX5_ok nmX5 hown hK hP (hD.same rfl) hS 0 rfl rfl 7 (by decide) (hts (.fieldLink RX5 88 "NightPlotsModel" "feuds" "I") (List.mem_of_getElem? (i := 10) rfl)) (fun _ h9 => h9) rfl (by decide +kernel) rfl rfl (Nat.le_of_ble_eq_true rfl) dX5_doLine_239 (fun H locs hP _ hS => ?_)
                              obtain ⟨mM_91, emM_91⟩ : ∃ z : GS, z = (up2 mM_90 0 7 (0 : Int32)) := ⟨_, rfl⟩
                              have hP : va_P D vwCl (cMod Y oM mM_91 tk) H := by rw [emM_91]; exact hP
                              replace hM := nm_at hM emM_91
                              refine lv_goto (tgt := 281) hx hb dX5_doLine_242 (by decide) ?_
                              exact hJ7 mM_91 hM H locs ls hP hS (lv_sub hl [] rfl)
                            · replace hM := if_at_neg hM c8_12
                              refine lv_tableOut (tgt := 245) hx hb dX5_doLine_24 (by have n8_0 := lv_neT (a := 0) c8_0 rfl; have n8_1 := lv_neT (a := 1) c8_1 rfl; have n8_2 := lv_neT (a := 2) c8_2 rfl; have n8_3 := lv_neT (a := 3) c8_3 rfl; have n8_4 := lv_neT (a := 4) c8_4 rfl; have n8_5 := lv_neT (a := 5) c8_5 rfl; have n8_6 := lv_neT (a := 6) c8_6 rfl; have n8_7 := lv_neT (a := 7) c8_7 rfl; have n8_8 := lv_neT (a := 8) c8_8 rfl; have n8_9 := lv_neT (a := 9) c8_9 rfl; have n8_10 := lv_neT (a := 10) c8_10 rfl; have n8_11 := lv_neT (a := 11) c8_11 rfl; have n8_12 := lv_neT (a := 12) c8_12 rfl; omega) (by decide) ?_
                              refine lv_aload_n hx hb dX5_doLine_245 rfl (lv_at hl 2 rfl) ?_
                              refine lv_aload_n hx hb dX5_doLine_246 rfl (lv_at hl 2 rfl) ?_
                              refine va_get hx hb hts hi5 hown hK hP 0 rfl rfl 25 (by decide) (hts (.fieldLink RX5 35 "NightPlotsModel" "read" "[I") (List.mem_of_getElem? (i := 1) rfl)) (fun _ h9 => h9) rfl dX5_doLine_247 ?_
                              refine lv_iload_n hx hb dX5_doLine_250 rfl (lv_at hl 3 rfl) ?_
                              obtain ⟨hi_92, hM⟩ := chkI_at hM
                              refine va_iald hx hb hK hP 7 0 rfl rfl hi_92 dX5_doLine_251 ?_
                              refine lv_bipush (v := (8 : Int32)) hx hb dX5_doLine_252 (by decide) ?_
                              refine lv_isub hx hb dX5_doLine_254 ?_
                              refine lv_topi (fun x93 ex93 => ?_)
                              replace hM := nm_at hM ex93
                              refine va_put (ty := .int) hx hb hts hi5 tyX5 tyX5_ok nmX5 hown hK hP (hD.same rfl) hS 0 rfl rfl 9 (by decide) (hts (.fieldLink RX5 91 "NightPlotsModel" "law" "I") (List.mem_of_getElem? (i := 11) rfl)) (fun _ h9 => h9) rfl (by decide +kernel) rfl rfl (Nat.le_of_ble_eq_true rfl) dX5_doLine_255 (fun H locs hP _ hS => ?_)
                              obtain ⟨mM_94, emM_94⟩ : ∃ z : GS, z = (up2 mM 0 9 x93) := ⟨_, rfl⟩
                              have hP : va_P D vwCl (cMod Y oM mM_94 tk) H := by rw [emM_94]; exact hP
                              replace hM := nm_at hM emM_94
                              refine lv_aload_n hx hb dX5_doLine_258 rfl (lv_at hl 2 rfl) ?_
                              refine lv_aload_n hx hb dX5_doLine_259 rfl (lv_at hl 2 rfl) ?_
                              refine va_get hx hb hts hi5 hown hK hP 0 rfl rfl 25 (by decide) (hts (.fieldLink RX5 35 "NightPlotsModel" "read" "[I") (List.mem_of_getElem? (i := 1) rfl)) (fun _ h9 => h9) rfl dX5_doLine_260 ?_
                              refine lv_iload_n hx hb dX5_doLine_263 rfl (lv_at hl 3 rfl) ?_
                              obtain ⟨hi_95, hM⟩ := chkI_at hM
                              refine va_iald hx hb hK hP 7 0 rfl rfl hi_95 dX5_doLine_264 ?_
                              refine lv_bipush (v := (11 : Int32)) hx hb dX5_doLine_265 (by decide) ?_
                              refine jn1_at (fun (x96 : Int32) => ∀ (H : Heap) (locs : List Loc) (ls : Array Slot), va_P D vwCl (cMod Y oM mM_94 tk) H → va_S A s.heap H locs → lv_has ls 4 [] → W p l e (headSpec wsX5_doLine rmX5_doLine).room s m ([.ref (oM 0), .int i1] : List Value).toArray below meth c H locs 0 0 QQ (F0 m 278 ls [.int x96, .ref (oM 0)])) hM (fun x96 hM H locs ls hP hS hl => ?_) (fun k97 hJ97 hM => ?_)
                              · refine va_put (ty := .int) hx hb hts hi5 tyX5 tyX5_ok nmX5 hown hK hP (hD.same rfl) hS 0 rfl rfl 10 (by decide) (hts (.fieldLink RX5 29 "NightPlotsModel" "seed" "I") (List.mem_of_getElem? (i := 12) rfl)) (fun _ h9 => h9) rfl (by decide +kernel) rfl rfl (Nat.le_of_ble_eq_true rfl) dX5_doLine_278 (fun H locs hP _ hS => ?_)
                                obtain ⟨mM_98, emM_98⟩ : ∃ z : GS, z = (up2 mM_94 0 10 x96) := ⟨_, rfl⟩
                                have hP : va_P D vwCl (cMod Y oM mM_98 tk) H := by rw [emM_98]; exact hP
                                replace hM := nm_at hM emM_98
                                exact hJ7 mM_98 hM H locs ls hP hS (lv_sub hl [] rfl)
                              · refine lv_icmp_ne (tgt := 274) hx hb dX5_doLine_267 (by decide) (fun c99 => ?_) (fun c99 => ?_)
                                · replace hM := if_at_neg hM c99
                                  refine lv_aload_n hx hb dX5_doLine_274 rfl (lv_at hl 2 rfl) ?_
                                  refine va_get hx hb hts hi5 hown hK hP 0 rfl rfl 10 (by decide) (hts (.fieldLink RX5 29 "NightPlotsModel" "seed" "I") (List.mem_of_getElem? (i := 12) rfl)) (fun _ h9 => h9) rfl dX5_doLine_275 ?_
                                  exact hJ97 (mM_94 0 10) hM H locs ls hP hS (lv_sub hl [] rfl)
                                · replace hM := if_at_pos hM c99
                                  refine lv_iload_n hx hb dX5_doLine_270 rfl (lv_at hl 1 rfl) ?_
                                  refine lv_goto (tgt := 278) hx hb dX5_doLine_271 (by decide) ?_
                                  exact hJ97 x2 hM H locs ls hP hS (lv_sub hl [] rfl)
noncomputable def BX5_green_12 (k7 : GS → Option (Int32 × GS × Int64)) (rec18 : Int32 → GS → Option (Int32 × GS × Int64)) (x16 : Int32) (mM_17 : GS) : Option (Int32 × GS × Int64) := if (mM_17 0 19) ≤ x16 then (k7 mM_17) else (bnd1 (MX5_doLine mM_17 ((3 : Int32) * x16)) fun (mM_20 : GS) => nm (x16 + 1) fun (x22 : Int32) => rec18 x22 mM_20)
noncomputable def MX5_green (mM : GS) (tk : Int64) : Option (Int32 × GS × Int64) := bnd3 (MX5_isRead mM tk) fun (r1 : Int32) (mM_2 : GS) (tk_3 : Int64) => if r1 = 0 then (some ((-4 : Int32), mM_2, tk_3)) else (jn1 (fun (mM_6 : GS) => nm (up2 mM_6 0 11 (0 : Int32)) fun (mM_8 : GS) => bnd1 (MX5_begin mM_8) fun (mM_9 : GS) => nm (up2 mM_9 0 30 (0 : Int32)) fun (mM_11 : GS) => chkI (0 : Int32) 2 (nm (upA mM_11 11 (upd (mM_11 11) (0 : Int32).toNatClampNeg (vp_nar .boolean (0 : Int32)))) fun (mM_13 : GS) => chkI (1 : Int32) 2 (nm (upA mM_13 11 (upd (mM_13 11) (1 : Int32).toNatClampNeg (vp_nar .boolean (0 : Int32)))) fun (mM_15 : GS) => some ((mM_15 0 19), mM_15, tk_3)))) (fun k7 => lq2 (BX5_green_12 k7) FU (0 : Int32) mM_2))
abbrev rmX5_green : Room := { frames := 8, cells := 0, slots := 0, locals := 320 }
set_option maxHeartbeats 4000000 in
set_option maxRecDepth 100000 in
theorem ctX5_green (l : Launch) (D : va_G) (Y : Nat → ClassId) (oM : Nat → Nat) (sz : Nat) (mM : GS) (tk : Int64) (rr : Int32) (mMz : GS) (tkz : Int64) (hM : MX5_green mM tk = some (rr, mMz, tkz)) : Met l yX5_green wsX5_green rmX5_green (pcW [.ref (oM 0)] sz D Y (cMod Y oM mM tk)) (qiW rr D (cMod Y oM mMz tkz) (va_A (cMod Y oM mM tk) sz)) 0 0 (va_A (cMod Y oM mM tk) sz) := by
  refine Met.ofW (cc := cX5_green) (maxL := 2) (ret := (some .int)) (by decide) rfl ?_
  intro p e s m args below meth c s₁ B hml hv
  obtain ⟨rfl, hsz, hP, hK, hD0⟩ := hv
  have hx := B.exec
  have hb := B.bytes
  have hr := B.returns
  have hts := atoms_spec (ws := wsX5_green) B.pre
  have hown : s.vm.findClass RX5 = some m.cls := findClass_of_methodNamed B.named
  have hlocks := B.notSynchronized
  subst hsz
  have hD := hD0.self (sz := s.heap.size)
  generalize hAe : va_A (cMod Y oM mM tk) s.heap.size = A at hD ⊢
  have hA : ∀ q : Nat, s.heap.size ≤ q → A q := fun q h => by rw [← hAe]; exact Or.inr h
  have hS : va_S A s.heap s.heap [] := va_S.rf
  have hi5 : ∀ w ∈ wsX50, w ∈ wsX5_green := fun w h => List.mem_cons_of_mem _ (List.mem_append_right _ h)
  have hl := lv_entry ([.ref (oM 0)]) (n := 2) (Nat.le_of_ble_eq_true rfl)
  rw [lg_entry_eq]
  generalize (lg_sl ([.ref (oM 0)]) ++ List.replicate (2 - (lg_sl ([.ref (oM 0)])).length) Slot.unset).toArray = ls at hl ⊢
  have hl : lv_has ls 2 [(0, .ref (oM 0))] := hl
  obtain ⟨QQ, hQQ⟩ : ∃ Q : State → Prop, Q = MQ below (qiW rr D (cMod Y oM mMz tkz) A) ([.ref (oM 0)] : List Value).toArray s 0 0 A := ⟨_, rfl⟩
  rw [← hQQ]
  unfold MX5_green at hM
  suffices hI : ∀ (H : Heap) (locs : List Loc), va_P D vwCl (cMod Y oM mM tk) H → va_S A s.heap H locs → W p l e (headSpec wsX5_green rmX5_green).room s m ([.ref (oM 0)] : List Value).toArray below meth c H locs 0 0 QQ (F0 m 0 ls []) from hI _ _ hP hS
  clear hP hS
  intro H locs hP hS
  refine lv_aload_n hx hb dX5_green_0 rfl (lv_at hl 0 rfl) ?_
  obtain ⟨r1, mM_2, tk_3, hc4, hM⟩ := bnd3_at hM
  refine co_i (va_runV (As := []) (rest := []) ⟨hx, hb, hml, hown, hts⟩ (ctX5_isRead l D Y oM H.size mM tk r1 mM_2 tk_3 hc4) (cwV 0 hts gX5_green_X5_isRead rfl rfl rfl (by decide +kernel) ⟨Nat.le_of_ble_eq_true rfl, Nat.le_of_ble_eq_true rfl⟩) (pcW_V0 (ci := 5) (q0 := 0) hK hP (hD.same rfl) rfl rfl) rfl rfl hl.1 rfl (lv_room (Nat.le_of_ble_eq_true rfl)) dX5_green_1 ⟨Nat.zero_le _, Nat.zero_le _⟩) (hD.same rfl) hS hA (fun H locs hP hS => ?_)
  refine lv_if_ne (tgt := 10) hx hb dX5_green_4 (by decide) (fun c5 => ?_) (fun c5 => ?_)
  · replace hM := if_at_neg hM c5
    refine lv_iconst (v := (0 : Int32)) hx hb dX5_green_10 (by decide) ?_
    refine lv_istore_n (lv' := [(1, .int (0 : Int32)), (0, .ref (oM 0))]) hx hb dX5_green_11 rfl hl (by decide) rfl (fun ls hl => ?_)
    refine jn1_at (fun (mM_6 : GS) => ∀ (H : Heap) (locs : List Loc) (ls : Array Slot), va_P D vwCl (cMod Y oM mM_6 tk_3) H → va_S A s.heap H locs → lv_has ls 2 [(0, .ref (oM 0))] → W p l e (headSpec wsX5_green rmX5_green).room s m ([.ref (oM 0)] : List Value).toArray below meth c H locs 0 0 QQ (F0 m 33 ls [])) hM (fun mM_6 hM H locs ls hP hS hl => ?_) (fun k7 hJ7 hM => ?_)
    · refine lv_aload_n hx hb dX5_green_33 rfl (lv_at hl 0 rfl) ?_
      refine lv_iconst (v := (0 : Int32)) hx hb dX5_green_34 (by decide) ?_
      refine va_put (ty := .int) hx hb hts hi5 tyX5 tyX5_ok nmX5 hown hK hP (hD.same rfl) hS 0 rfl rfl 11 (by decide) (hts (.fieldLink RX5 94 "NightPlotsModel" "bytes" "I") (List.mem_of_getElem? (i := 2) rfl)) (fun _ h9 => h9) rfl (by decide +kernel) rfl rfl (Nat.le_of_ble_eq_true rfl) dX5_green_35 (fun H locs hP _ hS => ?_)
      obtain ⟨mM_8, emM_8⟩ : ∃ z : GS, z = (up2 mM_6 0 11 (0 : Int32)) := ⟨_, rfl⟩
      have hP : va_P D vwCl (cMod Y oM mM_8 tk_3) H := by rw [emM_8]; exact hP
      replace hM := nm_at hM emM_8
      refine lv_aload_n hx hb dX5_green_38 rfl (lv_at hl 0 rfl) ?_
      obtain ⟨mM_9, hc10, hM⟩ := bnd1_at hM
      refine co_v (va_runV (As := []) (rest := []) ⟨hx, hb, hml, hown, hts⟩ (ctX5_begin l D Y oM H.size mM_8 tk_3 mM_9 hc10) (cwV 0 hts gX5_green_X5_begin rfl rfl rfl (by decide +kernel) ⟨Nat.le_of_ble_eq_true rfl, Nat.le_of_ble_eq_true rfl⟩) (pcW_V0 (ci := 5) (q0 := 0) hK hP (hD.same rfl) rfl rfl) rfl rfl hl.1 rfl (lv_room (Nat.le_of_ble_eq_true rfl)) dX5_green_39 ⟨Nat.zero_le _, Nat.zero_le _⟩) (hD.same rfl) hS hA (fun H locs hP hS => ?_)
      refine lv_aload_n hx hb dX5_green_42 rfl (lv_at hl 0 rfl) ?_
      refine lv_iconst (v := (0 : Int32)) hx hb dX5_green_43 (by decide) ?_
      refine va_put (ty := .int) hx hb hts hi5 tyX5 tyX5_ok nmX5 hown hK hP (hD.same rfl) hS 0 rfl rfl 30 (by decide) (hts (.fieldLink RX5 212 "NightPlotsModel" "sights" "I") (List.mem_of_getElem? (i := 3) rfl)) (fun _ h9 => h9) rfl (by decide +kernel) rfl rfl (Nat.le_of_ble_eq_true rfl) dX5_green_44 (fun H locs hP _ hS => ?_)
      obtain ⟨mM_11, emM_11⟩ : ∃ z : GS, z = (up2 mM_9 0 30 (0 : Int32)) := ⟨_, rfl⟩
      have hP : va_P D vwCl (cMod Y oM mM_11 tk_3) H := by rw [emM_11]; exact hP
      replace hM := nm_at hM emM_11
      refine lv_aload_n hx hb dX5_green_47 rfl (lv_at hl 0 rfl) ?_
      refine va_get hx hb hts hi5 hown hK hP 0 rfl rfl 29 (by decide) (hts (.fieldLink RX5 47 "NightPlotsModel" "isKept" "[Z") (List.mem_of_getElem? (i := 4) rfl)) (fun _ h9 => h9) rfl dX5_green_48 ?_
      refine lv_iconst (v := (0 : Int32)) hx hb dX5_green_51 (by decide) ?_
      refine lv_iconst (v := (0 : Int32)) hx hb dX5_green_52 (by decide) ?_
      obtain ⟨hi_12, hM⟩ := chkI_at hM
      refine va_zast hx hb hK hP (hD.same rfl) hS 11 2 rfl rfl hi_12 dX5_green_53 (fun H locs hP _ hS => ?_)
      obtain ⟨mM_13, emM_13⟩ : ∃ z : GS, z = (upA mM_11 11 (upd (mM_11 11) (0 : Int32).toNatClampNeg (vp_nar .boolean (0 : Int32)))) := ⟨_, rfl⟩
      have hP : va_P D vwCl (cMod Y oM mM_13 tk_3) H := by rw [emM_13]; exact hP
      replace hM := nm_at hM emM_13
      refine lv_aload_n hx hb dX5_green_54 rfl (lv_at hl 0 rfl) ?_
      refine va_get hx hb hts hi5 hown hK hP 0 rfl rfl 29 (by decide) (hts (.fieldLink RX5 47 "NightPlotsModel" "isKept" "[Z") (List.mem_of_getElem? (i := 4) rfl)) (fun _ h9 => h9) rfl dX5_green_55 ?_
      refine lv_iconst (v := (1 : Int32)) hx hb dX5_green_58 (by decide) ?_
      refine lv_iconst (v := (0 : Int32)) hx hb dX5_green_59 (by decide) ?_
      obtain ⟨hi_14, hM⟩ := chkI_at hM
      refine va_zast hx hb hK hP (hD.same rfl) hS 11 2 rfl rfl hi_14 dX5_green_60 (fun H locs hP _ hS => ?_)
      obtain ⟨mM_15, emM_15⟩ : ∃ z : GS, z = (upA mM_13 11 (upd (mM_13 11) (1 : Int32).toNatClampNeg (vp_nar .boolean (0 : Int32)))) := ⟨_, rfl⟩
      have hP : va_P D vwCl (cMod Y oM mM_15 tk_3) H := by rw [emM_15]; exact hP
      replace hM := nm_at hM emM_15
      refine lv_aload_n hx hb dX5_green_61 rfl (lv_at hl 0 rfl) ?_
      refine va_get hx hb hts hi5 hown hK hP 0 rfl rfl 19 (by decide) (hts (.fieldLink RX5 199 "NightPlotsModel" "readMany" "I") (List.mem_of_getElem? (i := 1) rfl)) (fun _ h9 => h9) rfl dX5_green_62 ?_
      cases hM
      rw [hQQ]
      exact W.iret hx hb hr (fun t ht hW => ⟨⟨_, (), rfl, rfl, by show va_P D vwCl _ t.heap; rw [ht]; exact hP⟩, hS.F ht⟩) hS.2.2 dX5_green_65
    · refine lq2_at (fun (x16 : Int32) (mM_17 : GS) => ∀ (H : Heap) (locs : List Loc) (ls : Array Slot), va_P D vwCl (cMod Y oM mM_17 tk_3) H → va_S A s.heap H locs → lv_has ls 2 [(0, .ref (oM 0)), (1, .int x16)] → W p l e (headSpec wsX5_green rmX5_green).room s m ([.ref (oM 0)] : List Value).toArray below meth c H locs 0 0 QQ (F0 m 12 ls [])) (fun rec18 x16 mM_17 ih18 hM H locs ls hP hS hl => ?_) FU (0 : Int32) mM_2 hM H locs ls hP hS (lv_sub hl [1, 0] rfl)
      unfold BX5_green_12 at hM
      refine lv_iload_n hx hb dX5_green_12 rfl (lv_at hl 1 rfl) ?_
      refine lv_aload_n hx hb dX5_green_13 rfl (lv_at hl 0 rfl) ?_
      refine va_get hx hb hts hi5 hown hK hP 0 rfl rfl 19 (by decide) (hts (.fieldLink RX5 199 "NightPlotsModel" "readMany" "I") (List.mem_of_getElem? (i := 1) rfl)) (fun _ h9 => h9) rfl dX5_green_14 ?_
      refine lv_icmp_ge (tgt := 33) hx hb dX5_green_17 (by decide) (fun c19 => ?_) (fun c19 => ?_)
      · replace hM := if_at_pos hM c19
        exact hJ7 mM_17 hM H locs ls hP hS (lv_sub hl [0] rfl)
      · replace hM := if_at_neg hM c19
        refine lv_aload_n hx hb dX5_green_20 rfl (lv_at hl 0 rfl) ?_
        refine lv_iconst (v := (3 : Int32)) hx hb dX5_green_21 (by decide) ?_
        refine lv_iload_n hx hb dX5_green_22 rfl (lv_at hl 1 rfl) ?_
        refine lv_imul hx hb dX5_green_23 ?_
        obtain ⟨mM_20, hc21, hM⟩ := bnd1_at hM
        refine co_v (va_runV (As := [.int ((3 : Int32) * x16)]) (rest := []) ⟨hx, hb, hml, hown, hts⟩ (ctX5_doLine l D Y oM H.size mM_17 tk_3 ((3 : Int32) * x16) mM_20 hc21) (cwV 1 hts gX5_green_X5_doLine rfl rfl rfl (by decide +kernel) ⟨Nat.le_of_ble_eq_true rfl, Nat.le_of_ble_eq_true rfl⟩) (pcW_V0 (ci := 5) (q0 := 0) hK hP (hD.same rfl) rfl rfl) rfl rfl hl.1 rfl (lv_room (Nat.le_of_ble_eq_true rfl)) dX5_green_24 ⟨Nat.zero_le _, Nat.zero_le _⟩) (hD.same rfl) hS hA (fun H locs hP hS => ?_)
        obtain ⟨x22, ex22⟩ : ∃ z : Int32, z = (x16 + 1) := ⟨_, rfl⟩
        replace hM := nm_at hM ex22
        refine lv_iinc (v := x22) (lv' := [(1, .int x22), (0, .ref (oM 0))]) hx hb dX5_green_27 hl (k := 1) rfl (by rw [ex22]; rfl) (by decide) rfl (fun ls hl => ?_)
        refine lv_goto (tgt := 12) hx hb dX5_green_30 (by decide) ?_
        exact ih18 x22 mM_20 hM H locs ls hP hS (lv_sub hl [1, 0] rfl)
  · replace hM := if_at_pos hM c5
    refine lv_bipush (v := (-4 : Int32)) hx hb dX5_green_7 (by decide) ?_
    cases hM
    rw [hQQ]
    exact W.iret hx hb hr (fun t ht hW => ⟨⟨_, (), rfl, rfl, by show va_P D vwCl _ t.heap; rw [ht]; exact hP⟩, hS.F ht⟩) hS.2.2 dX5_green_9
