noncomputable def BX5_nextToken_241 (k26 : GS → Option (GS × Int64)) (rec28 : GS → Option (GS × Int64)) (mM_27 : GS) : Option (GS × Int64) := if (mM_27 0 11) ≤ (mM_27 0 13) then (k26 mM_27) else (chkI (mM_27 0 13) 200 (bnd1 (MX5_in (mM_27 6 (mM_27 0 13).toNatClampNeg) (48 : Int32) (57 : Int32)) fun (r31 : Int32) => if r31 = 0 then (k26 mM_27) else (jn1 (fun (x34 : Int32) => nm (up2 mM_27 0 17 x34) fun (mM_36 : GS) => nm ((mM_36 0 16) + (1 : Int32)) fun (x37 : Int32) => nm (up2 mM_36 0 16 x37) fun (mM_38 : GS) => nm ((mM_38 0 13) + (1 : Int32)) fun (x39 : Int32) => nm (up2 mM_38 0 13 x39) fun (mM_40 : GS) => rec28 mM_40) (fun k35 => if (4 : Int32) ≤ (mM_27 0 16) then (k35 (mM_27 0 17)) else (chkI (mM_27 0 13) 200 (k35 ((((10 : Int32) * (mM_27 0 17)) + (mM_27 6 (mM_27 0 13).toNatClampNeg)) - (48 : Int32))))))))
noncomputable def BX5_nextToken_101 (k45 : GS → Int64 → Option (GS × Int64)) (rec51 : GS → Int64 → Option (GS × Int64)) (mM_49 : GS) (tk_50 : Int64) : Option (GS × Int64) := if (mM_49 0 11) ≤ (mM_49 0 13) then (k45 mM_49 tk_50) else (chkI (mM_49 0 13) 200 (bnd1 (MX5_in (mM_49 6 (mM_49 0 13).toNatClampNeg) (97 : Int32) (122 : Int32)) fun (r54 : Int32) => if r54 = 0 then (k45 mM_49 tk_50) else (jn1 (fun (x57 : Int64) => nm ((mM_49 0 13) + (1 : Int32)) fun (x59 : Int32) => nm (up2 mM_49 0 13 x59) fun (mM_60 : GS) => rec51 mM_60 x57) (fun k58 => if (9 : Int32) ≤ ((mM_49 0 13) - (mM_49 0 14)) then (k58 (-4 : Int64)) else (chkI (mM_49 0 13) 200 (k58 ((((27 : Int64) * tk_50) + ((mM_49 6 (mM_49 0 13).toNatClampNeg).toInt64)) - (96 : Int64))))))))
noncomputable def BX5_nextToken_0 (k2 : GS → Option (GS × Int64)) (rec64 : GS → Option (GS × Int64)) (mM_63 : GS) : Option (GS × Int64) := if (mM_63 0 11) ≤ (mM_63 0 13) then (k2 mM_63) else (chkI (mM_63 0 13) 200 (if (mM_63 6 (mM_63 0 13).toNatClampNeg) = (32 : Int32) then (nm ((mM_63 0 13) + (1 : Int32)) fun (x68 : Int32) => nm (up2 mM_63 0 13 x68) fun (mM_69 : GS) => rec64 mM_69) else (k2 mM_63)))
noncomputable def MX5_nextToken (mM : GS) (tk : Int64) : Option (GS × Int64) := jn1 (fun (mM_1 : GS) => nm (mM_1 0 13) fun (x3 : Int32) => nm (up2 mM_1 0 14 x3) fun (mM_4 : GS) => nm (up2 mM_4 0 16 (0 : Int32)) fun (mM_5 : GS) => nm (up2 mM_5 0 17 (0 : Int32)) fun (mM_6 : GS) => jn2 (fun (mM_7 : GS) (tk_8 : Int64) => some (mM_7, tk_8)) (fun k9 => if (mM_6 0 13) = (mM_6 0 11) then (k9 mM_6 (-2 : Int64)) else (chkI (mM_6 0 13) 200 (bnd1 (MX5_in (mM_6 6 (mM_6 0 13).toNatClampNeg) (97 : Int32) (122 : Int32)) fun (r12 : Int32) => if r12 = 0 then (chkI (mM_6 0 13) 200 (bnd1 (MX5_in (mM_6 6 (mM_6 0 13).toNatClampNeg) (48 : Int32) (57 : Int32)) fun (r16 : Int32) => if r16 = 0 then (chkI (mM_6 0 13) 200 (jn1 (fun (x20 : Int64) => nm ((mM_6 0 13) + (1 : Int32)) fun (x22 : Int32) => nm (up2 mM_6 0 13 x22) fun (mM_23 : GS) => k9 mM_23 x20) (fun k21 => if (mM_6 6 (mM_6 0 13).toNatClampNeg) = (59 : Int32) then (k21 (-3 : Int64)) else (k21 (-4 : Int64))))) else (jn1 (fun (mM_25 : GS) => k9 mM_25 (-1 : Int64)) (fun k26 => lq1 (BX5_nextToken_241 k26) FU mM_6)))) else (jn2 (fun (mM_43 : GS) (tk_44 : Int64) => jn1 (fun (x46 : Int64) => k9 mM_43 x46) (fun k47 => if ((mM_43 0 13) - (mM_43 0 14)) ≤ (9 : Int32) then (k47 tk_44) else (k47 (-4 : Int64)))) (fun k45 => lq2 (BX5_nextToken_101 k45) FU mM_6 (0 : Int64))))))) (fun k2 => lq1 (BX5_nextToken_0 k2) FU mM)
abbrev rmX5_nextToken : Room := { frames := 2, cells := 0, slots := 0, locals := 80 }
set_option maxHeartbeats 4000000 in
set_option maxRecDepth 100000 in
theorem ctX5_nextToken (l : Launch) (D : va_G) (Y : Nat → ClassId) (oM : Nat → Nat) (sz : Nat) (mM : GS) (tk : Int64) (mMz : GS) (tkz : Int64) (hM : MX5_nextToken mM tk = some (mMz, tkz)) : Met l yX5_nextToken wsX5_nextToken rmX5_nextToken (pcW [.ref (oM 0)] sz D Y (cMod Y oM mM tk)) (qvW D (cMod Y oM mMz tkz) (va_A (cMod Y oM mM tk) sz)) 0 0 (va_A (cMod Y oM mM tk) sz) := by
  refine Met.ofW (cc := cX5_nextToken) (maxL := 1) (ret := (none)) (by decide) rfl ?_
  intro p e s m args below meth c s₁ B hml hv
  obtain ⟨rfl, hsz, hP, hK, hD0⟩ := hv
  have hx := B.exec
  have hb := B.bytes
  have hr := B.returns
  have hts := atoms_spec (ws := wsX5_nextToken) B.pre
  have hown : s.vm.findClass RX5 = some m.cls := findClass_of_methodNamed B.named
  have hlocks := B.notSynchronized
  subst hsz
  have hD := hD0.self (sz := s.heap.size)
  generalize hAe : va_A (cMod Y oM mM tk) s.heap.size = A at hD ⊢
  have hA : ∀ q : Nat, s.heap.size ≤ q → A q := fun q h => by rw [← hAe]; exact Or.inr h
  have hS : va_S A s.heap s.heap [] := va_S.rf
  have hi5 : ∀ w ∈ wsX50, w ∈ wsX5_nextToken := fun w h => List.mem_cons_of_mem _ (List.mem_append_right _ h)
  have hl := lv_entry ([.ref (oM 0)]) (n := 1) (Nat.le_of_ble_eq_true rfl)
  rw [lg_entry_eq]
  generalize (lg_sl ([.ref (oM 0)]) ++ List.replicate (1 - (lg_sl ([.ref (oM 0)])).length) Slot.unset).toArray = ls at hl ⊢
  have hl : lv_has ls 1 [(0, .ref (oM 0))] := hl
  obtain ⟨QQ, hQQ⟩ : ∃ Q : State → Prop, Q = MQ below (qvW D (cMod Y oM mMz tkz) A) ([.ref (oM 0)] : List Value).toArray s 0 0 A := ⟨_, rfl⟩
  rw [← hQQ]
  unfold MX5_nextToken at hM
  suffices hI : ∀ (H : Heap) (locs : List Loc), va_P D vwCl (cMod Y oM mM tk) H → va_S A s.heap H locs → W p l e (headSpec wsX5_nextToken rmX5_nextToken).room s m ([.ref (oM 0)] : List Value).toArray below meth c H locs 0 0 QQ (F0 m 0 ls []) from hI _ _ hP hS
  clear hP hS
  intro H locs hP hS
  refine jn1_at (fun (mM_1 : GS) => ∀ (H : Heap) (locs : List Loc) (ls : Array Slot), va_P D vwCl (cMod Y oM mM_1 tk) H → va_S A s.heap H locs → lv_has ls 1 [(0, .ref (oM 0))] → W p l e (headSpec wsX5_nextToken rmX5_nextToken).room s m ([.ref (oM 0)] : List Value).toArray below meth c H locs 0 0 QQ (F0 m 38 ls [])) hM (fun mM_1 hM H locs ls hP hS hl => ?_) (fun k2 hJ2 hM => ?_)
  · refine lv_aload_n hx hb dX5_nextToken_38 rfl (lv_at hl 0 rfl) ?_
    refine lv_aload_n hx hb dX5_nextToken_39 rfl (lv_at hl 0 rfl) ?_
    refine va_get hx hb hts hi5 hown hK hP 0 rfl rfl 13 (by decide) (hts (.fieldLink RX5 99 "NightPlotsModel" "position" "I") (List.mem_of_getElem? (i := 1) rfl)) (fun _ h9 => h9) rfl dX5_nextToken_40 ?_
    refine lv_topi (fun x3 ex3 => ?_)
    replace hM := nm_at hM ex3
    refine va_put (ty := .int) hx hb hts hi5 tyX5 tyX5_ok nmX5 hown hK hP (hD.same rfl) hS 0 rfl rfl 14 (by decide) (hts (.fieldLink RX5 102 "NightPlotsModel" "tokenAt" "I") (List.mem_of_getElem? (i := 4) rfl)) (fun _ h9 => h9) rfl (by decide +kernel) rfl rfl (Nat.le_of_ble_eq_true rfl) dX5_nextToken_43 (fun H locs hP _ hS => ?_)
    obtain ⟨mM_4, emM_4⟩ : ∃ z : GS, z = (up2 mM_1 0 14 x3) := ⟨_, rfl⟩
    have hP : va_P D vwCl (cMod Y oM mM_4 tk) H := by rw [emM_4]; exact hP
    replace hM := nm_at hM emM_4
    refine lv_aload_n hx hb dX5_nextToken_46 rfl (lv_at hl 0 rfl) ?_
    refine lv_iconst (v := (0 : Int32)) hx hb dX5_nextToken_47 (by decide) ?_
    refine va_put (ty := .int) hx hb hts hi5 tyX5 tyX5_ok nmX5 hown hK hP (hD.same rfl) hS 0 rfl rfl 16 (by decide) (hts (.fieldLink RX5 105 "NightPlotsModel" "digits" "I") (List.mem_of_getElem? (i := 5) rfl)) (fun _ h9 => h9) rfl (by decide +kernel) rfl rfl (Nat.le_of_ble_eq_true rfl) dX5_nextToken_48 (fun H locs hP _ hS => ?_)
    obtain ⟨mM_5, emM_5⟩ : ∃ z : GS, z = (up2 mM_4 0 16 (0 : Int32)) := ⟨_, rfl⟩
    have hP : va_P D vwCl (cMod Y oM mM_5 tk) H := by rw [emM_5]; exact hP
    replace hM := nm_at hM emM_5
    refine lv_aload_n hx hb dX5_nextToken_51 rfl (lv_at hl 0 rfl) ?_
    refine lv_iconst (v := (0 : Int32)) hx hb dX5_nextToken_52 (by decide) ?_
    refine va_put (ty := .int) hx hb hts hi5 tyX5 tyX5_ok nmX5 hown hK hP (hD.same rfl) hS 0 rfl rfl 17 (by decide) (hts (.fieldLink RX5 108 "NightPlotsModel" "number" "I") (List.mem_of_getElem? (i := 6) rfl)) (fun _ h9 => h9) rfl (by decide +kernel) rfl rfl (Nat.le_of_ble_eq_true rfl) dX5_nextToken_53 (fun H locs hP _ hS => ?_)
    obtain ⟨mM_6, emM_6⟩ : ∃ z : GS, z = (up2 mM_5 0 17 (0 : Int32)) := ⟨_, rfl⟩
    have hP : va_P D vwCl (cMod Y oM mM_6 tk) H := by rw [emM_6]; exact hP
    replace hM := nm_at hM emM_6
    refine lv_aload_n hx hb dX5_nextToken_56 rfl (lv_at hl 0 rfl) ?_
    refine va_get hx hb hts hi5 hown hK hP 0 rfl rfl 13 (by decide) (hts (.fieldLink RX5 99 "NightPlotsModel" "position" "I") (List.mem_of_getElem? (i := 1) rfl)) (fun _ h9 => h9) rfl dX5_nextToken_57 ?_
    refine lv_aload_n hx hb dX5_nextToken_60 rfl (lv_at hl 0 rfl) ?_
    refine va_get hx hb hts hi5 hown hK hP 0 rfl rfl 11 (by decide) (hts (.fieldLink RX5 94 "NightPlotsModel" "bytes" "I") (List.mem_of_getElem? (i := 2) rfl)) (fun _ h9 => h9) rfl dX5_nextToken_61 ?_
    refine jn2_at (fun (mM_7 : GS) (tk_8 : Int64) => ∀ (H : Heap) (locs : List Loc) (ls : Array Slot), va_P D vwCl (cMod Y oM mM_7 tk_8) H → va_S A s.heap H locs → lv_has ls 1 [] → W p l e (headSpec wsX5_nextToken rmX5_nextToken).room s m ([.ref (oM 0)] : List Value).toArray below meth c H locs 0 0 QQ (F0 m 380 ls [])) hM (fun mM_7 tk_8 hM H locs ls hP hS hl => ?_) (fun k9 hJ9 hM => ?_)
    · cases hM
      rw [hQQ]
      exact W.vret hx hb hr (fun t ht hW => ⟨⟨(), rfl, trivial, by show va_P D vwCl _ t.heap; rw [ht]; exact hP⟩, hS.F ht⟩) hS.2.2 dX5_nextToken_380
    · refine lv_icmp_ne (tgt := 77) hx hb dX5_nextToken_64 (by decide) (fun c10 => ?_) (fun c10 => ?_)
      · replace hM := if_at_neg hM c10
        refine lv_aload_n hx hb dX5_nextToken_77 rfl (lv_at hl 0 rfl) ?_
        refine va_get hx hb hts hi5 hown hK hP 0 rfl rfl 12 (by decide) (hts (.fieldLink RX5 32 "NightPlotsModel" "text" "[I") (List.mem_of_getElem? (i := 3) rfl)) (fun _ h9 => h9) rfl dX5_nextToken_78 ?_
        refine lv_aload_n hx hb dX5_nextToken_81 rfl (lv_at hl 0 rfl) ?_
        refine va_get hx hb hts hi5 hown hK hP 0 rfl rfl 13 (by decide) (hts (.fieldLink RX5 99 "NightPlotsModel" "position" "I") (List.mem_of_getElem? (i := 1) rfl)) (fun _ h9 => h9) rfl dX5_nextToken_82 ?_
        obtain ⟨hi_11, hM⟩ := chkI_at hM
        refine va_iald hx hb hK hP 6 0 rfl rfl hi_11 dX5_nextToken_85 ?_
        refine lv_bipush (v := (97 : Int32)) hx hb dX5_nextToken_86 (by decide) ?_
        refine lv_bipush (v := (122 : Int32)) hx hb dX5_nextToken_88 (by decide) ?_
        obtain ⟨r12, hc13, hM⟩ := bnd1_at hM
        refine cm_i (w2 := (cMod Y oM mM_6 tk)) (va_runS (As := [.int (mM_6 6 (mM_6 0 13).toNatClampNeg), .int (97 : Int32), .int (122 : Int32)]) (rest := []) ⟨hx, hb, hml, hown, hts⟩ (ctX5_in l D Y H.size (mM_6 6 (mM_6 0 13).toNatClampNeg) (97 : Int32) (122 : Int32) r12 hc13) (cwS 3 hts gX5_nextToken_X5_in rfl rfl rfl (by decide +kernel) ⟨Nat.le_of_ble_eq_true rfl, Nat.le_of_ble_eq_true rfl⟩) (pcW_S hK hP (hD.same rfl) [] rfl (pc_map pc_nil)) rfl rfl hl.1 rfl (lv_room (Nat.le_of_ble_eq_true rfl)) dX5_nextToken_90 ⟨Nat.zero_le _, Nat.zero_le _⟩) hP (hD.same rfl) hS hA [] (pc_map pc_nil) (up_old rfl rfl (up_old rfl rfl (up_old rfl rfl (up_old rfl rfl (up_old rfl rfl (up_old rfl rfl (up_old rfl rfl (up_old rfl rfl (up_old rfl rfl (up_old rfl rfl (up_old rfl rfl (up_old rfl rfl (up_old rfl rfl (up_old rfl rfl (up_old rfl rfl (up_old rfl rfl (up_old rfl rfl (up_old rfl rfl (up_old rfl rfl up_nil))))))))))))))))))) (fun H locs hP hS => ?_)
        refine lv_if_eq (tgt := 222) hx hb dX5_nextToken_93 (by decide) (fun c14 => ?_) (fun c14 => ?_)
        · replace hM := if_at_pos hM c14
          refine lv_aload_n hx hb dX5_nextToken_222 rfl (lv_at hl 0 rfl) ?_
          refine va_get hx hb hts hi5 hown hK hP 0 rfl rfl 12 (by decide) (hts (.fieldLink RX5 32 "NightPlotsModel" "text" "[I") (List.mem_of_getElem? (i := 3) rfl)) (fun _ h9 => h9) rfl dX5_nextToken_223 ?_
          refine lv_aload_n hx hb dX5_nextToken_226 rfl (lv_at hl 0 rfl) ?_
          refine va_get hx hb hts hi5 hown hK hP 0 rfl rfl 13 (by decide) (hts (.fieldLink RX5 99 "NightPlotsModel" "position" "I") (List.mem_of_getElem? (i := 1) rfl)) (fun _ h9 => h9) rfl dX5_nextToken_227 ?_
          obtain ⟨hi_15, hM⟩ := chkI_at hM
          refine va_iald hx hb hK hP 6 0 rfl rfl hi_15 dX5_nextToken_230 ?_
          refine lv_bipush (v := (48 : Int32)) hx hb dX5_nextToken_231 (by decide) ?_
          refine lv_bipush (v := (57 : Int32)) hx hb dX5_nextToken_233 (by decide) ?_
          obtain ⟨r16, hc17, hM⟩ := bnd1_at hM
          refine cm_i (w2 := (cMod Y oM mM_6 tk)) (va_runS (As := [.int (mM_6 6 (mM_6 0 13).toNatClampNeg), .int (48 : Int32), .int (57 : Int32)]) (rest := []) ⟨hx, hb, hml, hown, hts⟩ (ctX5_in l D Y H.size (mM_6 6 (mM_6 0 13).toNatClampNeg) (48 : Int32) (57 : Int32) r16 hc17) (cwS 3 hts gX5_nextToken_X5_in rfl rfl rfl (by decide +kernel) ⟨Nat.le_of_ble_eq_true rfl, Nat.le_of_ble_eq_true rfl⟩) (pcW_S hK hP (hD.same rfl) [] rfl (pc_map pc_nil)) rfl rfl hl.1 rfl (lv_room (Nat.le_of_ble_eq_true rfl)) dX5_nextToken_235 ⟨Nat.zero_le _, Nat.zero_le _⟩) hP (hD.same rfl) hS hA [] (pc_map pc_nil) (up_old rfl rfl (up_old rfl rfl (up_old rfl rfl (up_old rfl rfl (up_old rfl rfl (up_old rfl rfl (up_old rfl rfl (up_old rfl rfl (up_old rfl rfl (up_old rfl rfl (up_old rfl rfl (up_old rfl rfl (up_old rfl rfl (up_old rfl rfl (up_old rfl rfl (up_old rfl rfl (up_old rfl rfl (up_old rfl rfl (up_old rfl rfl up_nil))))))))))))))))))) (fun H locs hP hS => ?_)
          refine lv_if_eq (tgt := 343) hx hb dX5_nextToken_238 (by decide) (fun c18 => ?_) (fun c18 => ?_)
          · replace hM := if_at_pos hM c18
            refine lv_aload_n hx hb dX5_nextToken_343 rfl (lv_at hl 0 rfl) ?_
            refine lv_aload_n hx hb dX5_nextToken_344 rfl (lv_at hl 0 rfl) ?_
            refine va_get hx hb hts hi5 hown hK hP 0 rfl rfl 12 (by decide) (hts (.fieldLink RX5 32 "NightPlotsModel" "text" "[I") (List.mem_of_getElem? (i := 3) rfl)) (fun _ h9 => h9) rfl dX5_nextToken_345 ?_
            refine lv_aload_n hx hb dX5_nextToken_348 rfl (lv_at hl 0 rfl) ?_
            refine va_get hx hb hts hi5 hown hK hP 0 rfl rfl 13 (by decide) (hts (.fieldLink RX5 99 "NightPlotsModel" "position" "I") (List.mem_of_getElem? (i := 1) rfl)) (fun _ h9 => h9) rfl dX5_nextToken_349 ?_
            obtain ⟨hi_19, hM⟩ := chkI_at hM
            refine va_iald hx hb hK hP 6 0 rfl rfl hi_19 dX5_nextToken_352 ?_
            refine lv_bipush (v := (59 : Int32)) hx hb dX5_nextToken_353 (by decide) ?_
            refine jn1_at (fun (x20 : Int64) => ∀ (H : Heap) (locs : List Loc) (ls : Array Slot), va_P D vwCl (cMod Y oM mM_6 tk) H → va_S A s.heap H locs → lv_has ls 1 [(0, .ref (oM 0))] → W p l e (headSpec wsX5_nextToken rmX5_nextToken).room s m ([.ref (oM 0)] : List Value).toArray below meth c H locs 0 0 QQ (F0 m 367 ls [.long x20, .ref (oM 0)])) hM (fun x20 hM H locs ls hP hS hl => ?_) (fun k21 hJ21 hM => ?_)
            · refine va_put (ty := .long) hx hb hts hi5 tyX5 tyX5_ok nmX5 hown hK hP (hD.same rfl) hS 0 rfl rfl 15 (by decide) (hts (.fieldLink RX5 113 "NightPlotsModel" "token" "J") (List.mem_of_getElem? (i := 8) rfl)) (fun _ h9 => h9) rfl (by decide +kernel) rfl rfl (Nat.le_of_ble_eq_true rfl) dX5_nextToken_367 (fun H locs hP _ hS => ?_)
              have hP : va_P D vwCl (cMod Y oM mM_6 x20) H := hP
              refine lv_aload_n hx hb dX5_nextToken_370 rfl (lv_at hl 0 rfl) ?_
              refine lv_dup hx hb dX5_nextToken_371 rfl ?_
              refine va_get hx hb hts hi5 hown hK hP 0 rfl rfl 13 (by decide) (hts (.fieldLink RX5 99 "NightPlotsModel" "position" "I") (List.mem_of_getElem? (i := 1) rfl)) (fun _ h9 => h9) rfl dX5_nextToken_372 ?_
              refine lv_iconst (v := (1 : Int32)) hx hb dX5_nextToken_375 (by decide) ?_
              refine lv_iadd hx hb dX5_nextToken_376 ?_
              refine lv_topi (fun x22 ex22 => ?_)
              replace hM := nm_at hM ex22
              refine va_put (ty := .int) hx hb hts hi5 tyX5 tyX5_ok nmX5 hown hK hP (hD.same rfl) hS 0 rfl rfl 13 (by decide) (hts (.fieldLink RX5 99 "NightPlotsModel" "position" "I") (List.mem_of_getElem? (i := 1) rfl)) (fun _ h9 => h9) rfl (by decide +kernel) rfl rfl (Nat.le_of_ble_eq_true rfl) dX5_nextToken_377 (fun H locs hP _ hS => ?_)
              obtain ⟨mM_23, emM_23⟩ : ∃ z : GS, z = (up2 mM_6 0 13 x22) := ⟨_, rfl⟩
              have hP : va_P D vwCl (cMod Y oM mM_23 x20) H := by rw [emM_23]; exact hP
              replace hM := nm_at hM emM_23
              exact hJ9 mM_23 x20 hM H locs ls hP hS (lv_sub hl [] rfl)
            · refine lv_icmp_ne (tgt := 364) hx hb dX5_nextToken_355 (by decide) (fun c24 => ?_) (fun c24 => ?_)
              · replace hM := if_at_neg hM c24
                refine lv_ldc2 (v := (-4 : Int64)) hx hb hown (hts (.constantLong RX5 121 (-4)) (List.mem_of_getElem? (i := 11) rfl)) dX5_nextToken_364 ?_
                exact hJ21 (-4 : Int64) hM H locs ls hP hS (lv_sub hl [0] rfl)
              · replace hM := if_at_pos hM c24
                refine lv_ldc2 (v := (-3 : Int64)) hx hb hown (hts (.constantLong RX5 125 (-3)) (List.mem_of_getElem? (i := 13) rfl)) dX5_nextToken_358 ?_
                refine lv_goto (tgt := 367) hx hb dX5_nextToken_361 (by decide) ?_
                exact hJ21 (-3 : Int64) hM H locs ls hP hS (lv_sub hl [0] rfl)
          · replace hM := if_at_neg hM c18
            refine jn1_at (fun (mM_25 : GS) => ∀ (H : Heap) (locs : List Loc) (ls : Array Slot), va_P D vwCl (cMod Y oM mM_25 tk) H → va_S A s.heap H locs → lv_has ls 1 [(0, .ref (oM 0))] → W p l e (headSpec wsX5_nextToken rmX5_nextToken).room s m ([.ref (oM 0)] : List Value).toArray below meth c H locs 0 0 QQ (F0 m 333 ls [])) hM (fun mM_25 hM H locs ls hP hS hl => ?_) (fun k26 hJ26 hM => ?_)
            · refine lv_aload_n hx hb dX5_nextToken_333 rfl (lv_at hl 0 rfl) ?_
              refine lv_ldc2 (v := (-1 : Int64)) hx hb hown (hts (.constantLong RX5 123 (-1)) (List.mem_of_getElem? (i := 12) rfl)) dX5_nextToken_334 ?_
              refine va_put (ty := .long) hx hb hts hi5 tyX5 tyX5_ok nmX5 hown hK hP (hD.same rfl) hS 0 rfl rfl 15 (by decide) (hts (.fieldLink RX5 113 "NightPlotsModel" "token" "J") (List.mem_of_getElem? (i := 8) rfl)) (fun _ h9 => h9) rfl (by decide +kernel) rfl rfl (Nat.le_of_ble_eq_true rfl) dX5_nextToken_337 (fun H locs hP _ hS => ?_)
              have hP : va_P D vwCl (cMod Y oM mM_25 (-1 : Int64)) H := hP
              refine lv_goto (tgt := 380) hx hb dX5_nextToken_340 (by decide) ?_
              exact hJ9 mM_25 (-1 : Int64) hM H locs ls hP hS (lv_sub hl [] rfl)
            · refine lq1_at (fun (mM_27 : GS) => ∀ (H : Heap) (locs : List Loc) (ls : Array Slot), va_P D vwCl (cMod Y oM mM_27 tk) H → va_S A s.heap H locs → lv_has ls 1 [(0, .ref (oM 0))] → W p l e (headSpec wsX5_nextToken rmX5_nextToken).room s m ([.ref (oM 0)] : List Value).toArray below meth c H locs 0 0 QQ (F0 m 241 ls [])) (fun rec28 mM_27 ih28 hM H locs ls hP hS hl => ?_) FU mM_6 hM H locs ls hP hS (lv_sub hl [0] rfl)
              unfold BX5_nextToken_241 at hM
              refine lv_aload_n hx hb dX5_nextToken_241 rfl (lv_at hl 0 rfl) ?_
              refine va_get hx hb hts hi5 hown hK hP 0 rfl rfl 13 (by decide) (hts (.fieldLink RX5 99 "NightPlotsModel" "position" "I") (List.mem_of_getElem? (i := 1) rfl)) (fun _ h9 => h9) rfl dX5_nextToken_242 ?_
              refine lv_aload_n hx hb dX5_nextToken_245 rfl (lv_at hl 0 rfl) ?_
              refine va_get hx hb hts hi5 hown hK hP 0 rfl rfl 11 (by decide) (hts (.fieldLink RX5 94 "NightPlotsModel" "bytes" "I") (List.mem_of_getElem? (i := 2) rfl)) (fun _ h9 => h9) rfl dX5_nextToken_246 ?_
              refine lv_icmp_ge (tgt := 333) hx hb dX5_nextToken_249 (by decide) (fun c29 => ?_) (fun c29 => ?_)
              · replace hM := if_at_pos hM c29
                exact hJ26 mM_27 hM H locs ls hP hS (lv_sub hl [0] rfl)
              · replace hM := if_at_neg hM c29
                refine lv_aload_n hx hb dX5_nextToken_252 rfl (lv_at hl 0 rfl) ?_
                refine va_get hx hb hts hi5 hown hK hP 0 rfl rfl 12 (by decide) (hts (.fieldLink RX5 32 "NightPlotsModel" "text" "[I") (List.mem_of_getElem? (i := 3) rfl)) (fun _ h9 => h9) rfl dX5_nextToken_253 ?_
                refine lv_aload_n hx hb dX5_nextToken_256 rfl (lv_at hl 0 rfl) ?_
                refine va_get hx hb hts hi5 hown hK hP 0 rfl rfl 13 (by decide) (hts (.fieldLink RX5 99 "NightPlotsModel" "position" "I") (List.mem_of_getElem? (i := 1) rfl)) (fun _ h9 => h9) rfl dX5_nextToken_257 ?_
                obtain ⟨hi_30, hM⟩ := chkI_at hM
                refine va_iald hx hb hK hP 6 0 rfl rfl hi_30 dX5_nextToken_260 ?_
                refine lv_bipush (v := (48 : Int32)) hx hb dX5_nextToken_261 (by decide) ?_
                refine lv_bipush (v := (57 : Int32)) hx hb dX5_nextToken_263 (by decide) ?_
                obtain ⟨r31, hc32, hM⟩ := bnd1_at hM
                refine cm_i (w2 := (cMod Y oM mM_27 tk)) (va_runS (As := [.int (mM_27 6 (mM_27 0 13).toNatClampNeg), .int (48 : Int32), .int (57 : Int32)]) (rest := []) ⟨hx, hb, hml, hown, hts⟩ (ctX5_in l D Y H.size (mM_27 6 (mM_27 0 13).toNatClampNeg) (48 : Int32) (57 : Int32) r31 hc32) (cwS 3 hts gX5_nextToken_X5_in rfl rfl rfl (by decide +kernel) ⟨Nat.le_of_ble_eq_true rfl, Nat.le_of_ble_eq_true rfl⟩) (pcW_S hK hP (hD.same rfl) [] rfl (pc_map pc_nil)) rfl rfl hl.1 rfl (lv_room (Nat.le_of_ble_eq_true rfl)) dX5_nextToken_265 ⟨Nat.zero_le _, Nat.zero_le _⟩) hP (hD.same rfl) hS hA [] (pc_map pc_nil) (up_old rfl rfl (up_old rfl rfl (up_old rfl rfl (up_old rfl rfl (up_old rfl rfl (up_old rfl rfl (up_old rfl rfl (up_old rfl rfl (up_old rfl rfl (up_old rfl rfl (up_old rfl rfl (up_old rfl rfl (up_old rfl rfl (up_old rfl rfl (up_old rfl rfl (up_old rfl rfl (up_old rfl rfl (up_old rfl rfl (up_old rfl rfl up_nil))))))))))))))))))) (fun H locs hP hS => ?_)
                refine lv_if_eq (tgt := 333) hx hb dX5_nextToken_268 (by decide) (fun c33 => ?_) (fun c33 => ?_)
                · replace hM := if_at_pos hM c33
                  exact hJ26 mM_27 hM H locs ls hP hS (lv_sub hl [0] rfl)
                · replace hM := if_at_neg hM c33
                  refine lv_aload_n hx hb dX5_nextToken_271 rfl (lv_at hl 0 rfl) ?_
                  refine lv_aload_n hx hb dX5_nextToken_272 rfl (lv_at hl 0 rfl) ?_
                  refine va_get hx hb hts hi5 hown hK hP 0 rfl rfl 16 (by decide) (hts (.fieldLink RX5 105 "NightPlotsModel" "digits" "I") (List.mem_of_getElem? (i := 5) rfl)) (fun _ h9 => h9) rfl dX5_nextToken_273 ?_
                  refine lv_iconst (v := (4 : Int32)) hx hb dX5_nextToken_276 (by decide) ?_
                  refine jn1_at (fun (x34 : Int32) => ∀ (H : Heap) (locs : List Loc) (ls : Array Slot), va_P D vwCl (cMod Y oM mM_27 tk) H → va_S A s.heap H locs → lv_has ls 1 [(0, .ref (oM 0))] → W p l e (headSpec wsX5_nextToken rmX5_nextToken).room s m ([.ref (oM 0)] : List Value).toArray below meth c H locs 0 0 QQ (F0 m 307 ls [.int x34, .ref (oM 0)])) hM (fun x34 hM H locs ls hP hS hl => ?_) (fun k35 hJ35 hM => ?_)
                  · refine va_put (ty := .int) hx hb hts hi5 tyX5 tyX5_ok nmX5 hown hK hP (hD.same rfl) hS 0 rfl rfl 17 (by decide) (hts (.fieldLink RX5 108 "NightPlotsModel" "number" "I") (List.mem_of_getElem? (i := 6) rfl)) (fun _ h9 => h9) rfl (by decide +kernel) rfl rfl (Nat.le_of_ble_eq_true rfl) dX5_nextToken_307 (fun H locs hP _ hS => ?_)
                    obtain ⟨mM_36, emM_36⟩ : ∃ z : GS, z = (up2 mM_27 0 17 x34) := ⟨_, rfl⟩
                    have hP : va_P D vwCl (cMod Y oM mM_36 tk) H := by rw [emM_36]; exact hP
                    replace hM := nm_at hM emM_36
                    refine lv_aload_n hx hb dX5_nextToken_310 rfl (lv_at hl 0 rfl) ?_
                    refine lv_dup hx hb dX5_nextToken_311 rfl ?_
                    refine va_get hx hb hts hi5 hown hK hP 0 rfl rfl 16 (by decide) (hts (.fieldLink RX5 105 "NightPlotsModel" "digits" "I") (List.mem_of_getElem? (i := 5) rfl)) (fun _ h9 => h9) rfl dX5_nextToken_312 ?_
                    refine lv_iconst (v := (1 : Int32)) hx hb dX5_nextToken_315 (by decide) ?_
                    refine lv_iadd hx hb dX5_nextToken_316 ?_
                    refine lv_topi (fun x37 ex37 => ?_)
                    replace hM := nm_at hM ex37
                    refine va_put (ty := .int) hx hb hts hi5 tyX5 tyX5_ok nmX5 hown hK hP (hD.same rfl) hS 0 rfl rfl 16 (by decide) (hts (.fieldLink RX5 105 "NightPlotsModel" "digits" "I") (List.mem_of_getElem? (i := 5) rfl)) (fun _ h9 => h9) rfl (by decide +kernel) rfl rfl (Nat.le_of_ble_eq_true rfl) dX5_nextToken_317 (fun H locs hP _ hS => ?_)
                    obtain ⟨mM_38, emM_38⟩ : ∃ z : GS, z = (up2 mM_36 0 16 x37) := ⟨_, rfl⟩
                    have hP : va_P D vwCl (cMod Y oM mM_38 tk) H := by rw [emM_38]; exact hP
                    replace hM := nm_at hM emM_38
                    refine lv_aload_n hx hb dX5_nextToken_320 rfl (lv_at hl 0 rfl) ?_
                    refine lv_dup hx hb dX5_nextToken_321 rfl ?_
                    refine va_get hx hb hts hi5 hown hK hP 0 rfl rfl 13 (by decide) (hts (.fieldLink RX5 99 "NightPlotsModel" "position" "I") (List.mem_of_getElem? (i := 1) rfl)) (fun _ h9 => h9) rfl dX5_nextToken_322 ?_
                    refine lv_iconst (v := (1 : Int32)) hx hb dX5_nextToken_325 (by decide) ?_
                    refine lv_iadd hx hb dX5_nextToken_326 ?_
                    refine lv_topi (fun x39 ex39 => ?_)
                    replace hM := nm_at hM ex39
                    refine va_put (ty := .int) hx hb hts hi5 tyX5 tyX5_ok nmX5 hown hK hP (hD.same rfl) hS 0 rfl rfl 13 (by decide) (hts (.fieldLink RX5 99 "NightPlotsModel" "position" "I") (List.mem_of_getElem? (i := 1) rfl)) (fun _ h9 => h9) rfl (by decide +kernel) rfl rfl (Nat.le_of_ble_eq_true rfl) dX5_nextToken_327 (fun H locs hP _ hS => ?_)
                    obtain ⟨mM_40, emM_40⟩ : ∃ z : GS, z = (up2 mM_38 0 13 x39) := ⟨_, rfl⟩
                    have hP : va_P D vwCl (cMod Y oM mM_40 tk) H := by rw [emM_40]; exact hP
                    replace hM := nm_at hM emM_40
                    refine lv_goto (tgt := 241) hx hb dX5_nextToken_330 (by decide) ?_
                    exact ih28 mM_40 hM H locs ls hP hS (lv_sub hl [0] rfl)
                  · refine lv_icmp_ge (tgt := 303) hx hb dX5_nextToken_277 (by decide) (fun c41 => ?_) (fun c41 => ?_)
                    · replace hM := if_at_pos hM c41
                      refine lv_aload_n hx hb dX5_nextToken_303 rfl (lv_at hl 0 rfl) ?_
                      refine va_get hx hb hts hi5 hown hK hP 0 rfl rfl 17 (by decide) (hts (.fieldLink RX5 108 "NightPlotsModel" "number" "I") (List.mem_of_getElem? (i := 6) rfl)) (fun _ h9 => h9) rfl dX5_nextToken_304 ?_
                      exact hJ35 (mM_27 0 17) hM H locs ls hP hS (lv_sub hl [0] rfl)
                    · replace hM := if_at_neg hM c41
                      refine lv_bipush (v := (10 : Int32)) hx hb dX5_nextToken_280 (by decide) ?_
                      refine lv_aload_n hx hb dX5_nextToken_282 rfl (lv_at hl 0 rfl) ?_
                      refine va_get hx hb hts hi5 hown hK hP 0 rfl rfl 17 (by decide) (hts (.fieldLink RX5 108 "NightPlotsModel" "number" "I") (List.mem_of_getElem? (i := 6) rfl)) (fun _ h9 => h9) rfl dX5_nextToken_283 ?_
                      refine lv_imul hx hb dX5_nextToken_286 ?_
                      refine lv_aload_n hx hb dX5_nextToken_287 rfl (lv_at hl 0 rfl) ?_
                      refine va_get hx hb hts hi5 hown hK hP 0 rfl rfl 12 (by decide) (hts (.fieldLink RX5 32 "NightPlotsModel" "text" "[I") (List.mem_of_getElem? (i := 3) rfl)) (fun _ h9 => h9) rfl dX5_nextToken_288 ?_
                      refine lv_aload_n hx hb dX5_nextToken_291 rfl (lv_at hl 0 rfl) ?_
                      refine va_get hx hb hts hi5 hown hK hP 0 rfl rfl 13 (by decide) (hts (.fieldLink RX5 99 "NightPlotsModel" "position" "I") (List.mem_of_getElem? (i := 1) rfl)) (fun _ h9 => h9) rfl dX5_nextToken_292 ?_
                      obtain ⟨hi_42, hM⟩ := chkI_at hM
                      refine va_iald hx hb hK hP 6 0 rfl rfl hi_42 dX5_nextToken_295 ?_
                      refine lv_iadd hx hb dX5_nextToken_296 ?_
                      refine lv_bipush (v := (48 : Int32)) hx hb dX5_nextToken_297 (by decide) ?_
                      refine lv_isub hx hb dX5_nextToken_299 ?_
                      refine lv_goto (tgt := 307) hx hb dX5_nextToken_300 (by decide) ?_
                      exact hJ35 ((((10 : Int32) * (mM_27 0 17)) + (mM_27 6 (mM_27 0 13).toNatClampNeg)) - (48 : Int32)) hM H locs ls hP hS (lv_sub hl [0] rfl)
        · replace hM := if_at_neg hM c14
          refine lv_aload_n hx hb dX5_nextToken_96 rfl (lv_at hl 0 rfl) ?_
          refine lv_lconst (v := (0 : Int64)) hx hb dX5_nextToken_97 (by decide) ?_
          refine va_put (ty := .long) hx hb hts hi5 tyX5 tyX5_ok nmX5 hown hK hP (hD.same rfl) hS 0 rfl rfl 15 (by decide) (hts (.fieldLink RX5 113 "NightPlotsModel" "token" "J") (List.mem_of_getElem? (i := 8) rfl)) (fun _ h9 => h9) rfl (by decide +kernel) rfl rfl (Nat.le_of_ble_eq_true rfl) dX5_nextToken_98 (fun H locs hP _ hS => ?_)
          have hP : va_P D vwCl (cMod Y oM mM_6 (0 : Int64)) H := hP
          refine jn2_at (fun (mM_43 : GS) (tk_44 : Int64) => ∀ (H : Heap) (locs : List Loc) (ls : Array Slot), va_P D vwCl (cMod Y oM mM_43 tk_44) H → va_S A s.heap H locs → lv_has ls 1 [(0, .ref (oM 0))] → W p l e (headSpec wsX5_nextToken rmX5_nextToken).room s m ([.ref (oM 0)] : List Value).toArray below meth c H locs 0 0 QQ (F0 m 191 ls [])) hM (fun mM_43 tk_44 hM H locs ls hP hS hl => ?_) (fun k45 hJ45 hM => ?_)
          · refine lv_aload_n hx hb dX5_nextToken_191 rfl (lv_at hl 0 rfl) ?_
            refine lv_aload_n hx hb dX5_nextToken_192 rfl (lv_at hl 0 rfl) ?_
            refine va_get hx hb hts hi5 hown hK hP 0 rfl rfl 13 (by decide) (hts (.fieldLink RX5 99 "NightPlotsModel" "position" "I") (List.mem_of_getElem? (i := 1) rfl)) (fun _ h9 => h9) rfl dX5_nextToken_193 ?_
            refine lv_aload_n hx hb dX5_nextToken_196 rfl (lv_at hl 0 rfl) ?_
            refine va_get hx hb hts hi5 hown hK hP 0 rfl rfl 14 (by decide) (hts (.fieldLink RX5 102 "NightPlotsModel" "tokenAt" "I") (List.mem_of_getElem? (i := 4) rfl)) (fun _ h9 => h9) rfl dX5_nextToken_197 ?_
            refine lv_isub hx hb dX5_nextToken_200 ?_
            refine lv_bipush (v := (9 : Int32)) hx hb dX5_nextToken_201 (by decide) ?_
            refine jn1_at (fun (x46 : Int64) => ∀ (H : Heap) (locs : List Loc) (ls : Array Slot), va_P D vwCl (cMod Y oM mM_43 tk_44) H → va_S A s.heap H locs → lv_has ls 1 [] → W p l e (headSpec wsX5_nextToken rmX5_nextToken).room s m ([.ref (oM 0)] : List Value).toArray below meth c H locs 0 0 QQ (F0 m 216 ls [.long x46, .ref (oM 0)])) hM (fun x46 hM H locs ls hP hS hl => ?_) (fun k47 hJ47 hM => ?_)
            · refine va_put (ty := .long) hx hb hts hi5 tyX5 tyX5_ok nmX5 hown hK hP (hD.same rfl) hS 0 rfl rfl 15 (by decide) (hts (.fieldLink RX5 113 "NightPlotsModel" "token" "J") (List.mem_of_getElem? (i := 8) rfl)) (fun _ h9 => h9) rfl (by decide +kernel) rfl rfl (Nat.le_of_ble_eq_true rfl) dX5_nextToken_216 (fun H locs hP _ hS => ?_)
              have hP : va_P D vwCl (cMod Y oM mM_43 x46) H := hP
              refine lv_goto (tgt := 380) hx hb dX5_nextToken_219 (by decide) ?_
              exact hJ9 mM_43 x46 hM H locs ls hP hS (lv_sub hl [] rfl)
            · refine lv_icmp_le (tgt := 212) hx hb dX5_nextToken_203 (by decide) (fun c48 => ?_) (fun c48 => ?_)
              · replace hM := if_at_pos hM c48
                refine lv_aload_n hx hb dX5_nextToken_212 rfl (lv_at hl 0 rfl) ?_
                refine va_get hx hb hts hi5 hown hK hP 0 rfl rfl 15 (by decide) (hts (.fieldLink RX5 113 "NightPlotsModel" "token" "J") (List.mem_of_getElem? (i := 8) rfl)) (fun _ h9 => h9) rfl dX5_nextToken_213 ?_
                exact hJ47 tk_44 hM H locs ls hP hS (lv_sub hl [] rfl)
              · replace hM := if_at_neg hM c48
                refine lv_ldc2 (v := (-4 : Int64)) hx hb hown (hts (.constantLong RX5 121 (-4)) (List.mem_of_getElem? (i := 11) rfl)) dX5_nextToken_206 ?_
                refine lv_goto (tgt := 216) hx hb dX5_nextToken_209 (by decide) ?_
                exact hJ47 (-4 : Int64) hM H locs ls hP hS (lv_sub hl [] rfl)
          · refine lq2_at (fun (mM_49 : GS) (tk_50 : Int64) => ∀ (H : Heap) (locs : List Loc) (ls : Array Slot), va_P D vwCl (cMod Y oM mM_49 tk_50) H → va_S A s.heap H locs → lv_has ls 1 [(0, .ref (oM 0))] → W p l e (headSpec wsX5_nextToken rmX5_nextToken).room s m ([.ref (oM 0)] : List Value).toArray below meth c H locs 0 0 QQ (F0 m 101 ls [])) (fun rec51 mM_49 tk_50 ih51 hM H locs ls hP hS hl => ?_) FU mM_6 (0 : Int64) hM H locs ls hP hS (lv_sub hl [0] rfl)
            unfold BX5_nextToken_101 at hM
            refine lv_aload_n hx hb dX5_nextToken_101 rfl (lv_at hl 0 rfl) ?_
            refine va_get hx hb hts hi5 hown hK hP 0 rfl rfl 13 (by decide) (hts (.fieldLink RX5 99 "NightPlotsModel" "position" "I") (List.mem_of_getElem? (i := 1) rfl)) (fun _ h9 => h9) rfl dX5_nextToken_102 ?_
            refine lv_aload_n hx hb dX5_nextToken_105 rfl (lv_at hl 0 rfl) ?_
            refine va_get hx hb hts hi5 hown hK hP 0 rfl rfl 11 (by decide) (hts (.fieldLink RX5 94 "NightPlotsModel" "bytes" "I") (List.mem_of_getElem? (i := 2) rfl)) (fun _ h9 => h9) rfl dX5_nextToken_106 ?_
            refine lv_icmp_ge (tgt := 191) hx hb dX5_nextToken_109 (by decide) (fun c52 => ?_) (fun c52 => ?_)
            · replace hM := if_at_pos hM c52
              exact hJ45 mM_49 tk_50 hM H locs ls hP hS (lv_sub hl [0] rfl)
            · replace hM := if_at_neg hM c52
              refine lv_aload_n hx hb dX5_nextToken_112 rfl (lv_at hl 0 rfl) ?_
              refine va_get hx hb hts hi5 hown hK hP 0 rfl rfl 12 (by decide) (hts (.fieldLink RX5 32 "NightPlotsModel" "text" "[I") (List.mem_of_getElem? (i := 3) rfl)) (fun _ h9 => h9) rfl dX5_nextToken_113 ?_
              refine lv_aload_n hx hb dX5_nextToken_116 rfl (lv_at hl 0 rfl) ?_
              refine va_get hx hb hts hi5 hown hK hP 0 rfl rfl 13 (by decide) (hts (.fieldLink RX5 99 "NightPlotsModel" "position" "I") (List.mem_of_getElem? (i := 1) rfl)) (fun _ h9 => h9) rfl dX5_nextToken_117 ?_
              obtain ⟨hi_53, hM⟩ := chkI_at hM
              refine va_iald hx hb hK hP 6 0 rfl rfl hi_53 dX5_nextToken_120 ?_
              refine lv_bipush (v := (97 : Int32)) hx hb dX5_nextToken_121 (by decide) ?_
              refine lv_bipush (v := (122 : Int32)) hx hb dX5_nextToken_123 (by decide) ?_
              obtain ⟨r54, hc55, hM⟩ := bnd1_at hM
              refine cm_i (w2 := (cMod Y oM mM_49 tk_50)) (va_runS (As := [.int (mM_49 6 (mM_49 0 13).toNatClampNeg), .int (97 : Int32), .int (122 : Int32)]) (rest := []) ⟨hx, hb, hml, hown, hts⟩ (ctX5_in l D Y H.size (mM_49 6 (mM_49 0 13).toNatClampNeg) (97 : Int32) (122 : Int32) r54 hc55) (cwS 3 hts gX5_nextToken_X5_in rfl rfl rfl (by decide +kernel) ⟨Nat.le_of_ble_eq_true rfl, Nat.le_of_ble_eq_true rfl⟩) (pcW_S hK hP (hD.same rfl) [] rfl (pc_map pc_nil)) rfl rfl hl.1 rfl (lv_room (Nat.le_of_ble_eq_true rfl)) dX5_nextToken_125 ⟨Nat.zero_le _, Nat.zero_le _⟩) hP (hD.same rfl) hS hA [] (pc_map pc_nil) (up_old rfl rfl (up_old rfl rfl (up_old rfl rfl (up_old rfl rfl (up_old rfl rfl (up_old rfl rfl (up_old rfl rfl (up_old rfl rfl (up_old rfl rfl (up_old rfl rfl (up_old rfl rfl (up_old rfl rfl (up_old rfl rfl (up_old rfl rfl (up_old rfl rfl (up_old rfl rfl (up_old rfl rfl (up_old rfl rfl (up_old rfl rfl up_nil))))))))))))))))))) (fun H locs hP hS => ?_)
              refine lv_if_eq (tgt := 191) hx hb dX5_nextToken_128 (by decide) (fun c56 => ?_) (fun c56 => ?_)
              · replace hM := if_at_pos hM c56
                exact hJ45 mM_49 tk_50 hM H locs ls hP hS (lv_sub hl [0] rfl)
              · replace hM := if_at_neg hM c56
                refine lv_aload_n hx hb dX5_nextToken_131 rfl (lv_at hl 0 rfl) ?_
                refine lv_aload_n hx hb dX5_nextToken_132 rfl (lv_at hl 0 rfl) ?_
                refine va_get hx hb hts hi5 hown hK hP 0 rfl rfl 13 (by decide) (hts (.fieldLink RX5 99 "NightPlotsModel" "position" "I") (List.mem_of_getElem? (i := 1) rfl)) (fun _ h9 => h9) rfl dX5_nextToken_133 ?_
                refine lv_aload_n hx hb dX5_nextToken_136 rfl (lv_at hl 0 rfl) ?_
                refine va_get hx hb hts hi5 hown hK hP 0 rfl rfl 14 (by decide) (hts (.fieldLink RX5 102 "NightPlotsModel" "tokenAt" "I") (List.mem_of_getElem? (i := 4) rfl)) (fun _ h9 => h9) rfl dX5_nextToken_137 ?_
                refine lv_isub hx hb dX5_nextToken_140 ?_
                refine lv_bipush (v := (9 : Int32)) hx hb dX5_nextToken_141 (by decide) ?_
                refine jn1_at (fun (x57 : Int64) => ∀ (H : Heap) (locs : List Loc) (ls : Array Slot), va_P D vwCl (cMod Y oM mM_49 tk_50) H → va_S A s.heap H locs → lv_has ls 1 [(0, .ref (oM 0))] → W p l e (headSpec wsX5_nextToken rmX5_nextToken).room s m ([.ref (oM 0)] : List Value).toArray below meth c H locs 0 0 QQ (F0 m 175 ls [.long x57, .ref (oM 0)])) hM (fun x57 hM H locs ls hP hS hl => ?_) (fun k58 hJ58 hM => ?_)
                · refine va_put (ty := .long) hx hb hts hi5 tyX5 tyX5_ok nmX5 hown hK hP (hD.same rfl) hS 0 rfl rfl 15 (by decide) (hts (.fieldLink RX5 113 "NightPlotsModel" "token" "J") (List.mem_of_getElem? (i := 8) rfl)) (fun _ h9 => h9) rfl (by decide +kernel) rfl rfl (Nat.le_of_ble_eq_true rfl) dX5_nextToken_175 (fun H locs hP _ hS => ?_)
                  have hP : va_P D vwCl (cMod Y oM mM_49 x57) H := hP
                  refine lv_aload_n hx hb dX5_nextToken_178 rfl (lv_at hl 0 rfl) ?_
                  refine lv_dup hx hb dX5_nextToken_179 rfl ?_
                  refine va_get hx hb hts hi5 hown hK hP 0 rfl rfl 13 (by decide) (hts (.fieldLink RX5 99 "NightPlotsModel" "position" "I") (List.mem_of_getElem? (i := 1) rfl)) (fun _ h9 => h9) rfl dX5_nextToken_180 ?_
                  refine lv_iconst (v := (1 : Int32)) hx hb dX5_nextToken_183 (by decide) ?_
                  refine lv_iadd hx hb dX5_nextToken_184 ?_
                  refine lv_topi (fun x59 ex59 => ?_)
                  replace hM := nm_at hM ex59
                  refine va_put (ty := .int) hx hb hts hi5 tyX5 tyX5_ok nmX5 hown hK hP (hD.same rfl) hS 0 rfl rfl 13 (by decide) (hts (.fieldLink RX5 99 "NightPlotsModel" "position" "I") (List.mem_of_getElem? (i := 1) rfl)) (fun _ h9 => h9) rfl (by decide +kernel) rfl rfl (Nat.le_of_ble_eq_true rfl) dX5_nextToken_185 (fun H locs hP _ hS => ?_)
                  obtain ⟨mM_60, emM_60⟩ : ∃ z : GS, z = (up2 mM_49 0 13 x59) := ⟨_, rfl⟩
                  have hP : va_P D vwCl (cMod Y oM mM_60 x57) H := by rw [emM_60]; exact hP
                  replace hM := nm_at hM emM_60
                  refine lv_goto (tgt := 101) hx hb dX5_nextToken_188 (by decide) ?_
                  exact ih51 mM_60 x57 hM H locs ls hP hS (lv_sub hl [0] rfl)
                · refine lv_icmp_ge (tgt := 172) hx hb dX5_nextToken_143 (by decide) (fun c61 => ?_) (fun c61 => ?_)
                  · replace hM := if_at_pos hM c61
                    refine lv_ldc2 (v := (-4 : Int64)) hx hb hown (hts (.constantLong RX5 121 (-4)) (List.mem_of_getElem? (i := 11) rfl)) dX5_nextToken_172 ?_
                    exact hJ58 (-4 : Int64) hM H locs ls hP hS (lv_sub hl [0] rfl)
                  · replace hM := if_at_neg hM c61
                    refine lv_ldc2 (v := (27 : Int64)) hx hb hown (hts (.constantLong RX5 117 (27)) (List.mem_of_getElem? (i := 9) rfl)) dX5_nextToken_146 ?_
                    refine lv_aload_n hx hb dX5_nextToken_149 rfl (lv_at hl 0 rfl) ?_
                    refine va_get hx hb hts hi5 hown hK hP 0 rfl rfl 15 (by decide) (hts (.fieldLink RX5 113 "NightPlotsModel" "token" "J") (List.mem_of_getElem? (i := 8) rfl)) (fun _ h9 => h9) rfl dX5_nextToken_150 ?_
                    refine lv_lmul hx hb dX5_nextToken_153 ?_
                    refine lv_aload_n hx hb dX5_nextToken_154 rfl (lv_at hl 0 rfl) ?_
                    refine va_get hx hb hts hi5 hown hK hP 0 rfl rfl 12 (by decide) (hts (.fieldLink RX5 32 "NightPlotsModel" "text" "[I") (List.mem_of_getElem? (i := 3) rfl)) (fun _ h9 => h9) rfl dX5_nextToken_155 ?_
                    refine lv_aload_n hx hb dX5_nextToken_158 rfl (lv_at hl 0 rfl) ?_
                    refine va_get hx hb hts hi5 hown hK hP 0 rfl rfl 13 (by decide) (hts (.fieldLink RX5 99 "NightPlotsModel" "position" "I") (List.mem_of_getElem? (i := 1) rfl)) (fun _ h9 => h9) rfl dX5_nextToken_159 ?_
                    obtain ⟨hi_62, hM⟩ := chkI_at hM
                    refine va_iald hx hb hK hP 6 0 rfl rfl hi_62 dX5_nextToken_162 ?_
                    refine lv_i2l (v := (mM_49 6 (mM_49 0 13).toNatClampNeg).toInt64) hx hb dX5_nextToken_163 rfl ?_
                    refine lv_ladd hx hb dX5_nextToken_164 ?_
                    refine lv_ldc2 (v := (96 : Int64)) hx hb hown (hts (.constantLong RX5 119 (96)) (List.mem_of_getElem? (i := 10) rfl)) dX5_nextToken_165 ?_
                    refine lv_lsub hx hb dX5_nextToken_168 ?_
                    refine lv_goto (tgt := 175) hx hb dX5_nextToken_169 (by decide) ?_
                    exact hJ58 ((((27 : Int64) * tk_50) + ((mM_49 6 (mM_49 0 13).toNatClampNeg).toInt64)) - (96 : Int64)) hM H locs ls hP hS (lv_sub hl [0] rfl)
      · replace hM := if_at_pos hM c10
        refine lv_aload_n hx hb dX5_nextToken_67 rfl (lv_at hl 0 rfl) ?_
        refine lv_ldc2 (v := (-2 : Int64)) hx hb hown (hts (.constantLong RX5 111 (-2)) (List.mem_of_getElem? (i := 7) rfl)) dX5_nextToken_68 ?_
        refine va_put (ty := .long) hx hb hts hi5 tyX5 tyX5_ok nmX5 hown hK hP (hD.same rfl) hS 0 rfl rfl 15 (by decide) (hts (.fieldLink RX5 113 "NightPlotsModel" "token" "J") (List.mem_of_getElem? (i := 8) rfl)) (fun _ h9 => h9) rfl (by decide +kernel) rfl rfl (Nat.le_of_ble_eq_true rfl) dX5_nextToken_71 (fun H locs hP _ hS => ?_)
        have hP : va_P D vwCl (cMod Y oM mM_6 (-2 : Int64)) H := hP
        refine lv_goto (tgt := 380) hx hb dX5_nextToken_74 (by decide) ?_
        exact hJ9 mM_6 (-2 : Int64) hM H locs ls hP hS (lv_sub hl [] rfl)
  · refine lq1_at (fun (mM_63 : GS) => ∀ (H : Heap) (locs : List Loc) (ls : Array Slot), va_P D vwCl (cMod Y oM mM_63 tk) H → va_S A s.heap H locs → lv_has ls 1 [(0, .ref (oM 0))] → W p l e (headSpec wsX5_nextToken rmX5_nextToken).room s m ([.ref (oM 0)] : List Value).toArray below meth c H locs 0 0 QQ (F0 m 0 ls [])) (fun rec64 mM_63 ih64 hM H locs ls hP hS hl => ?_) FU mM hM H locs ls hP hS (lv_sub hl [0] rfl)
    unfold BX5_nextToken_0 at hM
    refine lv_aload_n hx hb dX5_nextToken_0 rfl (lv_at hl 0 rfl) ?_
    refine va_get hx hb hts hi5 hown hK hP 0 rfl rfl 13 (by decide) (hts (.fieldLink RX5 99 "NightPlotsModel" "position" "I") (List.mem_of_getElem? (i := 1) rfl)) (fun _ h9 => h9) rfl dX5_nextToken_1 ?_
    refine lv_aload_n hx hb dX5_nextToken_4 rfl (lv_at hl 0 rfl) ?_
    refine va_get hx hb hts hi5 hown hK hP 0 rfl rfl 11 (by decide) (hts (.fieldLink RX5 94 "NightPlotsModel" "bytes" "I") (List.mem_of_getElem? (i := 2) rfl)) (fun _ h9 => h9) rfl dX5_nextToken_5 ?_
    refine lv_icmp_ge (tgt := 38) hx hb dX5_nextToken_8 (by decide) (fun c65 => ?_) (fun c65 => ?_)
    · replace hM := if_at_pos hM c65
      exact hJ2 mM_63 hM H locs ls hP hS (lv_sub hl [0] rfl)
    · replace hM := if_at_neg hM c65
      refine lv_aload_n hx hb dX5_nextToken_11 rfl (lv_at hl 0 rfl) ?_
      refine va_get hx hb hts hi5 hown hK hP 0 rfl rfl 12 (by decide) (hts (.fieldLink RX5 32 "NightPlotsModel" "text" "[I") (List.mem_of_getElem? (i := 3) rfl)) (fun _ h9 => h9) rfl dX5_nextToken_12 ?_
      refine lv_aload_n hx hb dX5_nextToken_15 rfl (lv_at hl 0 rfl) ?_
      refine va_get hx hb hts hi5 hown hK hP 0 rfl rfl 13 (by decide) (hts (.fieldLink RX5 99 "NightPlotsModel" "position" "I") (List.mem_of_getElem? (i := 1) rfl)) (fun _ h9 => h9) rfl dX5_nextToken_16 ?_
      obtain ⟨hi_66, hM⟩ := chkI_at hM
      refine va_iald hx hb hK hP 6 0 rfl rfl hi_66 dX5_nextToken_19 ?_
      refine lv_bipush (v := (32 : Int32)) hx hb dX5_nextToken_20 (by decide) ?_
      refine lv_icmp_ne (tgt := 38) hx hb dX5_nextToken_22 (by decide) (fun c67 => ?_) (fun c67 => ?_)
      · replace hM := if_at_neg hM c67
        exact hJ2 mM_63 hM H locs ls hP hS (lv_sub hl [0] rfl)
      · replace hM := if_at_pos hM c67
        refine lv_aload_n hx hb dX5_nextToken_25 rfl (lv_at hl 0 rfl) ?_
        refine lv_dup hx hb dX5_nextToken_26 rfl ?_
        refine va_get hx hb hts hi5 hown hK hP 0 rfl rfl 13 (by decide) (hts (.fieldLink RX5 99 "NightPlotsModel" "position" "I") (List.mem_of_getElem? (i := 1) rfl)) (fun _ h9 => h9) rfl dX5_nextToken_27 ?_
        refine lv_iconst (v := (1 : Int32)) hx hb dX5_nextToken_30 (by decide) ?_
        refine lv_iadd hx hb dX5_nextToken_31 ?_
        refine lv_topi (fun x68 ex68 => ?_)
        replace hM := nm_at hM ex68
        refine va_put (ty := .int) hx hb hts hi5 tyX5 tyX5_ok nmX5 hown hK hP (hD.same rfl) hS 0 rfl rfl 13 (by decide) (hts (.fieldLink RX5 99 "NightPlotsModel" "position" "I") (List.mem_of_getElem? (i := 1) rfl)) (fun _ h9 => h9) rfl (by decide +kernel) rfl rfl (Nat.le_of_ble_eq_true rfl) dX5_nextToken_32 (fun H locs hP _ hS => ?_)
        obtain ⟨mM_69, emM_69⟩ : ∃ z : GS, z = (up2 mM_63 0 13 x68) := ⟨_, rfl⟩
        have hP : va_P D vwCl (cMod Y oM mM_69 tk) H := by rw [emM_69]; exact hP
        replace hM := nm_at hM emM_69
        refine lv_goto (tgt := 0) hx hb dX5_nextToken_35 (by decide) ?_
        exact ih64 mM_69 hM H locs ls hP hS (lv_sub hl [0] rfl)
noncomputable def MX5_fails (mM : GS) : Option (Int32 × GS) := nm (mM 0 14) fun (x1 : Int32) => nm (up2 mM 0 18 x1) fun (mM_2 : GS) => some ((0 : Int32), mM_2)
abbrev rmX5_fails : Room := { frames := 1, cells := 0, slots := 0, locals := 40 }
set_option maxHeartbeats 4000000 in
set_option maxRecDepth 100000 in
theorem ctX5_fails (l : Launch) (D : va_G) (Y : Nat → ClassId) (oM : Nat → Nat) (sz : Nat) (mM : GS) (tk : Int64) (rr : Int32) (mMz : GS) (hM : MX5_fails mM = some (rr, mMz)) : Met l yX5_fails wsX5_fails rmX5_fails (pcW [.ref (oM 0)] sz D Y (cMod Y oM mM tk)) (qiW rr D (cMod Y oM mMz tk) (va_A (cMod Y oM mM tk) sz)) 0 0 (va_A (cMod Y oM mM tk) sz) := by
  refine Met.ofW (cc := cX5_fails) (maxL := 1) (ret := (some .boolean)) (by decide) rfl ?_
  intro p e s m args below meth c s₁ B hml hv
  obtain ⟨rfl, hsz, hP, hK, hD0⟩ := hv
  have hx := B.exec
  have hb := B.bytes
  have hr := B.returns
  have hts := atoms_spec (ws := wsX5_fails) B.pre
  have hown : s.vm.findClass RX5 = some m.cls := findClass_of_methodNamed B.named
  have hlocks := B.notSynchronized
  subst hsz
  have hD := hD0.self (sz := s.heap.size)
  generalize hAe : va_A (cMod Y oM mM tk) s.heap.size = A at hD ⊢
  have hA : ∀ q : Nat, s.heap.size ≤ q → A q := fun q h => by rw [← hAe]; exact Or.inr h
  have hS : va_S A s.heap s.heap [] := va_S.rf
  have hi5 : ∀ w ∈ wsX50, w ∈ wsX5_fails := fun w h => List.mem_cons_of_mem _ (List.mem_append_right _ h)
  have hl := lv_entry ([.ref (oM 0)]) (n := 1) (Nat.le_of_ble_eq_true rfl)
  rw [lg_entry_eq]
  generalize (lg_sl ([.ref (oM 0)]) ++ List.replicate (1 - (lg_sl ([.ref (oM 0)])).length) Slot.unset).toArray = ls at hl ⊢
  have hl : lv_has ls 1 [(0, .ref (oM 0))] := hl
  obtain ⟨QQ, hQQ⟩ : ∃ Q : State → Prop, Q = MQ below (qiW rr D (cMod Y oM mMz tk) A) ([.ref (oM 0)] : List Value).toArray s 0 0 A := ⟨_, rfl⟩
  rw [← hQQ]
  unfold MX5_fails at hM
  suffices hI : ∀ (H : Heap) (locs : List Loc), va_P D vwCl (cMod Y oM mM tk) H → va_S A s.heap H locs → W p l e (headSpec wsX5_fails rmX5_fails).room s m ([.ref (oM 0)] : List Value).toArray below meth c H locs 0 0 QQ (F0 m 0 ls []) from hI _ _ hP hS
  clear hP hS
  intro H locs hP hS
  refine lv_aload_n hx hb dX5_fails_0 rfl (lv_at hl 0 rfl) ?_
  refine lv_aload_n hx hb dX5_fails_1 rfl (lv_at hl 0 rfl) ?_
  refine va_get hx hb hts hi5 hown hK hP 0 rfl rfl 14 (by decide) (hts (.fieldLink RX5 102 "NightPlotsModel" "tokenAt" "I") (List.mem_of_getElem? (i := 1) rfl)) (fun _ h9 => h9) rfl dX5_fails_2 ?_
  refine lv_topi (fun x1 ex1 => ?_)
  replace hM := nm_at hM ex1
  refine va_put (ty := .int) hx hb hts hi5 tyX5 tyX5_ok nmX5 hown hK hP (hD.same rfl) hS 0 rfl rfl 18 (by decide) (hts (.fieldLink RX5 127 "NightPlotsModel" "faultAt" "I") (List.mem_of_getElem? (i := 2) rfl)) (fun _ h9 => h9) rfl (by decide +kernel) rfl rfl (Nat.le_of_ble_eq_true rfl) dX5_fails_5 (fun H locs hP _ hS => ?_)
  obtain ⟨mM_2, emM_2⟩ : ∃ z : GS, z = (up2 mM 0 18 x1) := ⟨_, rfl⟩
  have hP : va_P D vwCl (cMod Y oM mM_2 tk) H := by rw [emM_2]; exact hP
  replace hM := nm_at hM emM_2
  refine lv_iconst (v := (0 : Int32)) hx hb dX5_fails_8 (by decide) ?_
  cases hM
  rw [hQQ]
  exact W.zret (ty := .boolean) hx hb hr rfl (fun t ht hW => ⟨⟨_, (), rfl, rfl, by show va_P D vwCl _ t.heap; rw [ht]; exact hP⟩, hS.F ht⟩) hS.2.2 dX5_fails_9
noncomputable def MX5_isNumber (mM : GS) (tk : Int64) (i1 : Int32) (i2 : Int32) (i3 : Int32) : Option (Int32 × GS × Int64) := bnd2 (MX5_nextToken mM tk) fun (mM_1 : GS) (tk_2 : Int64) => jn0 (bnd2 (MX5_fails mM_1) fun (r5 : Int32) (mM_6 : GS) => chkB r5 (some (r5, mM_6, tk_2))) (fun k4 => if (lg_cmp tk_2 (-1 : Int64)) = 0 then (jn1 (fun (x10 : Int32) => if x10 < (mM_1 0 16) then (k4) else (bnd1 (MX5_in (mM_1 0 17) i2 i3) fun (r13 : Int32) => if r13 = 0 then (k4) else (nm (mM_1 0 17) fun (x16 : Int32) => chkI i1 36 (nm (upA mM_1 7 (upd (mM_1 7) i1.toNatClampNeg x16)) fun (mM_18 : GS) => some ((1 : Int32), mM_18, tk_2))))) (fun k11 => if i3 ≤ (99 : Int32) then (k11 (2 : Int32)) else (k11 (4 : Int32)))) else (k4))
abbrev rmX5_isNumber : Room := { frames := 3, cells := 0, slots := 0, locals := 120 }
set_option maxHeartbeats 4000000 in
set_option maxRecDepth 100000 in
theorem ctX5_isNumber (l : Launch) (D : va_G) (Y : Nat → ClassId) (oM : Nat → Nat) (sz : Nat) (mM : GS) (tk : Int64) (i1 : Int32) (i2 : Int32) (i3 : Int32) (rr : Int32) (mMz : GS) (tkz : Int64) (hM : MX5_isNumber mM tk i1 i2 i3 = some (rr, mMz, tkz)) : Met l yX5_isNumber wsX5_isNumber rmX5_isNumber (pcW [.ref (oM 0), .int i1, .int i2, .int i3] sz D Y (cMod Y oM mM tk)) (qiW rr D (cMod Y oM mMz tkz) (va_A (cMod Y oM mM tk) sz)) 0 0 (va_A (cMod Y oM mM tk) sz) := by
  refine Met.ofW (cc := cX5_isNumber) (maxL := 4) (ret := (some .boolean)) (by decide) rfl ?_
  intro p e s m args below meth c s₁ B hml hv
  obtain ⟨rfl, hsz, hP, hK, hD0⟩ := hv
  have hx := B.exec
  have hb := B.bytes
  have hr := B.returns
  have hts := atoms_spec (ws := wsX5_isNumber) B.pre
  have hown : s.vm.findClass RX5 = some m.cls := findClass_of_methodNamed B.named
  have hlocks := B.notSynchronized
  subst hsz
  have hD := hD0.self (sz := s.heap.size)
  generalize hAe : va_A (cMod Y oM mM tk) s.heap.size = A at hD ⊢
  have hA : ∀ q : Nat, s.heap.size ≤ q → A q := fun q h => by rw [← hAe]; exact Or.inr h
  have hS : va_S A s.heap s.heap [] := va_S.rf
  have hi5 : ∀ w ∈ wsX50, w ∈ wsX5_isNumber := fun w h => List.mem_cons_of_mem _ (List.mem_append_right _ h)
  have hl := lv_entry ([.ref (oM 0), .int i1, .int i2, .int i3]) (n := 4) (Nat.le_of_ble_eq_true rfl)
  rw [lg_entry_eq]
  generalize (lg_sl ([.ref (oM 0), .int i1, .int i2, .int i3]) ++ List.replicate (4 - (lg_sl ([.ref (oM 0), .int i1, .int i2, .int i3])).length) Slot.unset).toArray = ls at hl ⊢
  have hl : lv_has ls 4 [(0, .ref (oM 0)), (1, .int i1), (2, .int i2), (3, .int i3)] := hl
  obtain ⟨QQ, hQQ⟩ : ∃ Q : State → Prop, Q = MQ below (qiW rr D (cMod Y oM mMz tkz) A) ([.ref (oM 0), .int i1, .int i2, .int i3] : List Value).toArray s 0 0 A := ⟨_, rfl⟩
  rw [← hQQ]
  unfold MX5_isNumber at hM
  suffices hI : ∀ (H : Heap) (locs : List Loc), va_P D vwCl (cMod Y oM mM tk) H → va_S A s.heap H locs → W p l e (headSpec wsX5_isNumber rmX5_isNumber).room s m ([.ref (oM 0), .int i1, .int i2, .int i3] : List Value).toArray below meth c H locs 0 0 QQ (F0 m 0 ls []) from hI _ _ hP hS
  clear hP hS
  intro H locs hP hS
  refine lv_aload_n hx hb dX5_isNumber_0 rfl (lv_at hl 0 rfl) ?_
  obtain ⟨mM_1, tk_2, hc3, hM⟩ := bnd2_at hM
  refine co_v (va_runV (As := []) (rest := []) ⟨hx, hb, hml, hown, hts⟩ (ctX5_nextToken l D Y oM H.size mM tk mM_1 tk_2 hc3) (cwV 0 hts gX5_isNumber_X5_nextToken rfl rfl rfl (by decide +kernel) ⟨Nat.le_of_ble_eq_true rfl, Nat.le_of_ble_eq_true rfl⟩) (pcW_V0 (ci := 5) (q0 := 0) hK hP (hD.same rfl) rfl rfl) rfl rfl hl.1 rfl (lv_room (Nat.le_of_ble_eq_true rfl)) dX5_isNumber_1 ⟨Nat.zero_le _, Nat.zero_le _⟩) (hD.same rfl) hS hA (fun H locs hP hS => ?_)
  refine lv_aload_n hx hb dX5_isNumber_4 rfl (lv_at hl 0 rfl) ?_
  refine va_get hx hb hts hi5 hown hK hP 0 rfl rfl 15 (by decide) (hts (.fieldLink RX5 113 "NightPlotsModel" "token" "J") (List.mem_of_getElem? (i := 1) rfl)) (fun _ h9 => h9) rfl dX5_isNumber_5 ?_
  refine lv_ldc2 (v := (-1 : Int64)) hx hb hown (hts (.constantLong RX5 123 (-1)) (List.mem_of_getElem? (i := 2) rfl)) dX5_isNumber_8 ?_
  refine W.lcmp hx hb dX5_isNumber_11 ?_
  refine jn0_at (∀ (H : Heap) (locs : List Loc) (ls : Array Slot), va_P D vwCl (cMod Y oM mM_1 tk_2) H → va_S A s.heap H locs → lv_has ls 4 [(0, .ref (oM 0))] → W p l e (headSpec wsX5_isNumber rmX5_isNumber).room s m ([.ref (oM 0), .int i1, .int i2, .int i3] : List Value).toArray below meth c H locs 0 0 QQ (F0 m 45 ls [])) hM (fun  hM H locs ls hP hS hl => ?_) (fun k4 hJ4 hM => ?_)
  · refine lv_aload_n hx hb dX5_isNumber_45 rfl (lv_at hl 0 rfl) ?_
    obtain ⟨r5, mM_6, hc7, hM⟩ := bnd2_at hM
    refine co_i (va_runV (As := []) (rest := []) ⟨hx, hb, hml, hown, hts⟩ (ctX5_fails l D Y oM H.size mM_1 tk_2 r5 mM_6 hc7) (cwV 0 hts gX5_isNumber_X5_fails rfl rfl rfl (by decide +kernel) ⟨Nat.le_of_ble_eq_true rfl, Nat.le_of_ble_eq_true rfl⟩) (pcW_V0 (ci := 5) (q0 := 0) hK hP (hD.same rfl) rfl rfl) rfl rfl hl.1 rfl (lv_room (Nat.le_of_ble_eq_true rfl)) dX5_isNumber_46 ⟨Nat.zero_le _, Nat.zero_le _⟩) (hD.same rfl) hS hA (fun H locs hP hS => ?_)
    obtain ⟨hz8, hM⟩ := chkB_at hM
    cases hM
    rw [hQQ]
    exact W.zret (ty := .boolean) hx hb hr hz8 (fun t ht hW => ⟨⟨_, (), rfl, rfl, by show va_P D vwCl _ t.heap; rw [ht]; exact hP⟩, hS.F ht⟩) hS.2.2 dX5_isNumber_49
  · refine lv_if_ne (tgt := 45) hx hb dX5_isNumber_12 (by decide) (fun c9 => ?_) (fun c9 => ?_)
    · replace hM := if_at_neg hM c9
      exact hJ4 hM H locs ls hP hS (lv_sub hl [0] rfl)
    · replace hM := if_at_pos hM c9
      refine lv_aload_n hx hb dX5_isNumber_15 rfl (lv_at hl 0 rfl) ?_
      refine va_get hx hb hts hi5 hown hK hP 0 rfl rfl 16 (by decide) (hts (.fieldLink RX5 105 "NightPlotsModel" "digits" "I") (List.mem_of_getElem? (i := 3) rfl)) (fun _ h9 => h9) rfl dX5_isNumber_16 ?_
      refine lv_iload_n hx hb dX5_isNumber_19 rfl (lv_at hl 3 rfl) ?_
      refine lv_bipush (v := (99 : Int32)) hx hb dX5_isNumber_20 (by decide) ?_
      refine jn1_at (fun (x10 : Int32) => ∀ (H : Heap) (locs : List Loc) (ls : Array Slot), va_P D vwCl (cMod Y oM mM_1 tk_2) H → va_S A s.heap H locs → lv_has ls 4 [(0, .ref (oM 0)), (1, .int i1), (2, .int i2), (3, .int i3)] → W p l e (headSpec wsX5_isNumber rmX5_isNumber).room s m ([.ref (oM 0), .int i1, .int i2, .int i3] : List Value).toArray below meth c H locs 0 0 QQ (F0 m 30 ls [.int x10, .int (mM_1 0 16)])) hM (fun x10 hM H locs ls hP hS hl => ?_) (fun k11 hJ11 hM => ?_)
      · refine lv_icmp_gt (tgt := 45) hx hb dX5_isNumber_30 (by decide) (fun c12 => ?_) (fun c12 => ?_)
        · replace hM := if_at_pos hM c12
          exact hJ4 hM H locs ls hP hS (lv_sub hl [0] rfl)
        · replace hM := if_at_neg hM c12
          refine lv_aload_n hx hb dX5_isNumber_33 rfl (lv_at hl 0 rfl) ?_
          refine va_get hx hb hts hi5 hown hK hP 0 rfl rfl 17 (by decide) (hts (.fieldLink RX5 108 "NightPlotsModel" "number" "I") (List.mem_of_getElem? (i := 4) rfl)) (fun _ h9 => h9) rfl dX5_isNumber_34 ?_
          refine lv_iload_n hx hb dX5_isNumber_37 rfl (lv_at hl 2 rfl) ?_
          refine lv_iload_n hx hb dX5_isNumber_38 rfl (lv_at hl 3 rfl) ?_
          obtain ⟨r13, hc14, hM⟩ := bnd1_at hM
          refine cm_i (w2 := (cMod Y oM mM_1 tk_2)) (va_runS (As := [.int (mM_1 0 17), .int i2, .int i3]) (rest := []) ⟨hx, hb, hml, hown, hts⟩ (ctX5_in l D Y H.size (mM_1 0 17) i2 i3 r13 hc14) (cwS 3 hts gX5_isNumber_X5_in rfl rfl rfl (by decide +kernel) ⟨Nat.le_of_ble_eq_true rfl, Nat.le_of_ble_eq_true rfl⟩) (pcW_S hK hP (hD.same rfl) [] rfl (pc_map pc_nil)) rfl rfl hl.1 rfl (lv_room (Nat.le_of_ble_eq_true rfl)) dX5_isNumber_39 ⟨Nat.zero_le _, Nat.zero_le _⟩) hP (hD.same rfl) hS hA [] (pc_map pc_nil) (up_old rfl rfl (up_old rfl rfl (up_old rfl rfl (up_old rfl rfl (up_old rfl rfl (up_old rfl rfl (up_old rfl rfl (up_old rfl rfl (up_old rfl rfl (up_old rfl rfl (up_old rfl rfl (up_old rfl rfl (up_old rfl rfl (up_old rfl rfl (up_old rfl rfl (up_old rfl rfl (up_old rfl rfl (up_old rfl rfl (up_old rfl rfl up_nil))))))))))))))))))) (fun H locs hP hS => ?_)
          refine lv_if_ne (tgt := 50) hx hb dX5_isNumber_42 (by decide) (fun c15 => ?_) (fun c15 => ?_)
          · replace hM := if_at_neg hM c15
            refine lv_aload_n hx hb dX5_isNumber_50 rfl (lv_at hl 0 rfl) ?_
            refine va_get hx hb hts hi5 hown hK hP 0 rfl rfl 25 (by decide) (hts (.fieldLink RX5 35 "NightPlotsModel" "read" "[I") (List.mem_of_getElem? (i := 5) rfl)) (fun _ h9 => h9) rfl dX5_isNumber_51 ?_
            refine lv_iload_n hx hb dX5_isNumber_54 rfl (lv_at hl 1 rfl) ?_
            refine lv_aload_n hx hb dX5_isNumber_55 rfl (lv_at hl 0 rfl) ?_
            refine va_get hx hb hts hi5 hown hK hP 0 rfl rfl 17 (by decide) (hts (.fieldLink RX5 108 "NightPlotsModel" "number" "I") (List.mem_of_getElem? (i := 4) rfl)) (fun _ h9 => h9) rfl dX5_isNumber_56 ?_
            refine lv_topi (fun x16 ex16 => ?_)
            replace hM := nm_at hM ex16
            obtain ⟨hi_17, hM⟩ := chkI_at hM
            refine va_iast hx hb hK hP (hD.same rfl) hS 7 0 rfl rfl hi_17 dX5_isNumber_59 (fun H locs hP _ hS => ?_)
            obtain ⟨mM_18, emM_18⟩ : ∃ z : GS, z = (upA mM_1 7 (upd (mM_1 7) i1.toNatClampNeg x16)) := ⟨_, rfl⟩
            have hP : va_P D vwCl (cMod Y oM mM_18 tk_2) H := by rw [emM_18]; exact hP
            replace hM := nm_at hM emM_18
            refine lv_iconst (v := (1 : Int32)) hx hb dX5_isNumber_60 (by decide) ?_
            cases hM
            rw [hQQ]
            exact W.zret (ty := .boolean) hx hb hr rfl (fun t ht hW => ⟨⟨_, (), rfl, rfl, by show va_P D vwCl _ t.heap; rw [ht]; exact hP⟩, hS.F ht⟩) hS.2.2 dX5_isNumber_61
          · replace hM := if_at_pos hM c15
            exact hJ4 hM H locs ls hP hS (lv_sub hl [0] rfl)
      · refine lv_icmp_le (tgt := 29) hx hb dX5_isNumber_22 (by decide) (fun c19 => ?_) (fun c19 => ?_)
        · replace hM := if_at_pos hM c19
          refine lv_iconst (v := (2 : Int32)) hx hb dX5_isNumber_29 (by decide) ?_
          exact hJ11 (2 : Int32) hM H locs ls hP hS (lv_sub hl [0, 1, 2, 3] rfl)
        · replace hM := if_at_neg hM c19
          refine lv_iconst (v := (4 : Int32)) hx hb dX5_isNumber_25 (by decide) ?_
          refine lv_goto (tgt := 30) hx hb dX5_isNumber_26 (by decide) ?_
          exact hJ11 (4 : Int32) hM H locs ls hP hS (lv_sub hl [0, 1, 2, 3] rfl)
noncomputable def MX5_isGreen (mM : GS) (tk : Int64) (i1 : Int32) : Option (Int32 × GS × Int64) := bnd3 (MX5_isNumber mM tk (i1 + (1 : Int32)) (3 : Int32) (12 : Int32)) fun (r1 : Int32) (mM_2 : GS) (tk_3 : Int64) => if r1 = 0 then (some ((0 : Int32), mM_2, tk_3)) else (chkI (i1 + (1 : Int32)) 36 (nm (mM_2 7 (i1 + (1 : Int32)).toNatClampNeg) fun (x7 : Int32) => nm (up2 mM_2 0 20 x7) fun (mM_8 : GS) => nm (up2 mM_8 0 21 (0 : Int32)) fun (mM_9 : GS) => nm (up2 mM_9 0 22 (0 : Int32)) fun (mM_10 : GS) => nm (up2 mM_10 0 23 (0 : Int32)) fun (mM_11 : GS) => nm (up2 mM_11 0 24 (0 : Int32)) fun (mM_12 : GS) => some ((1 : Int32), mM_12, tk_3)))
abbrev rmX5_isGreen : Room := { frames := 4, cells := 0, slots := 0, locals := 160 }
set_option maxHeartbeats 4000000 in
set_option maxRecDepth 100000 in
theorem ctX5_isGreen (l : Launch) (D : va_G) (Y : Nat → ClassId) (oM : Nat → Nat) (sz : Nat) (mM : GS) (tk : Int64) (i1 : Int32) (rr : Int32) (mMz : GS) (tkz : Int64) (hM : MX5_isGreen mM tk i1 = some (rr, mMz, tkz)) : Met l yX5_isGreen wsX5_isGreen rmX5_isGreen (pcW [.ref (oM 0), .int i1] sz D Y (cMod Y oM mM tk)) (qiW rr D (cMod Y oM mMz tkz) (va_A (cMod Y oM mM tk) sz)) 0 0 (va_A (cMod Y oM mM tk) sz) := by
  refine Met.ofW (cc := cX5_isGreen) (maxL := 2) (ret := (some .boolean)) (by decide) rfl ?_
  intro p e s m args below meth c s₁ B hml hv
  obtain ⟨rfl, hsz, hP, hK, hD0⟩ := hv
  have hx := B.exec
  have hb := B.bytes
  have hr := B.returns
  have hts := atoms_spec (ws := wsX5_isGreen) B.pre
  have hown : s.vm.findClass RX5 = some m.cls := findClass_of_methodNamed B.named
  have hlocks := B.notSynchronized
  subst hsz
  have hD := hD0.self (sz := s.heap.size)
  generalize hAe : va_A (cMod Y oM mM tk) s.heap.size = A at hD ⊢
  have hA : ∀ q : Nat, s.heap.size ≤ q → A q := fun q h => by rw [← hAe]; exact Or.inr h
  have hS : va_S A s.heap s.heap [] := va_S.rf
  have hi5 : ∀ w ∈ wsX50, w ∈ wsX5_isGreen := fun w h => List.mem_cons_of_mem _ (List.mem_append_right _ h)
  have hl := lv_entry ([.ref (oM 0), .int i1]) (n := 2) (Nat.le_of_ble_eq_true rfl)
  rw [lg_entry_eq]
  generalize (lg_sl ([.ref (oM 0), .int i1]) ++ List.replicate (2 - (lg_sl ([.ref (oM 0), .int i1])).length) Slot.unset).toArray = ls at hl ⊢
  have hl : lv_has ls 2 [(0, .ref (oM 0)), (1, .int i1)] := hl
  obtain ⟨QQ, hQQ⟩ : ∃ Q : State → Prop, Q = MQ below (qiW rr D (cMod Y oM mMz tkz) A) ([.ref (oM 0), .int i1] : List Value).toArray s 0 0 A := ⟨_, rfl⟩
  rw [← hQQ]
  unfold MX5_isGreen at hM
  suffices hI : ∀ (H : Heap) (locs : List Loc), va_P D vwCl (cMod Y oM mM tk) H → va_S A s.heap H locs → W p l e (headSpec wsX5_isGreen rmX5_isGreen).room s m ([.ref (oM 0), .int i1] : List Value).toArray below meth c H locs 0 0 QQ (F0 m 0 ls []) from hI _ _ hP hS
  clear hP hS
  intro H locs hP hS
  refine lv_aload_n hx hb dX5_isGreen_0 rfl (lv_at hl 0 rfl) ?_
  refine lv_iload_n hx hb dX5_isGreen_1 rfl (lv_at hl 1 rfl) ?_
  refine lv_iconst (v := (1 : Int32)) hx hb dX5_isGreen_2 (by decide) ?_
  refine lv_iadd hx hb dX5_isGreen_3 ?_
  refine lv_iconst (v := (3 : Int32)) hx hb dX5_isGreen_4 (by decide) ?_
  refine lv_bipush (v := (12 : Int32)) hx hb dX5_isGreen_5 (by decide) ?_
  obtain ⟨r1, mM_2, tk_3, hc4, hM⟩ := bnd3_at hM
  refine co_i (va_runV (As := [.int (i1 + (1 : Int32)), .int (3 : Int32), .int (12 : Int32)]) (rest := []) ⟨hx, hb, hml, hown, hts⟩ (ctX5_isNumber l D Y oM H.size mM tk (i1 + (1 : Int32)) (3 : Int32) (12 : Int32) r1 mM_2 tk_3 hc4) (cwV 3 hts gX5_isGreen_X5_isNumber rfl rfl rfl (by decide +kernel) ⟨Nat.le_of_ble_eq_true rfl, Nat.le_of_ble_eq_true rfl⟩) (pcW_V0 (ci := 5) (q0 := 0) hK hP (hD.same rfl) rfl rfl) rfl rfl hl.1 rfl (lv_room (Nat.le_of_ble_eq_true rfl)) dX5_isGreen_7 ⟨Nat.zero_le _, Nat.zero_le _⟩) (hD.same rfl) hS hA (fun H locs hP hS => ?_)
  refine lv_if_ne (tgt := 15) hx hb dX5_isGreen_10 (by decide) (fun c5 => ?_) (fun c5 => ?_)
  · replace hM := if_at_neg hM c5
    refine lv_aload_n hx hb dX5_isGreen_15 rfl (lv_at hl 0 rfl) ?_
    refine lv_aload_n hx hb dX5_isGreen_16 rfl (lv_at hl 0 rfl) ?_
    refine va_get hx hb hts hi5 hown hK hP 0 rfl rfl 25 (by decide) (hts (.fieldLink RX5 35 "NightPlotsModel" "read" "[I") (List.mem_of_getElem? (i := 1) rfl)) (fun _ h9 => h9) rfl dX5_isGreen_17 ?_
    refine lv_iload_n hx hb dX5_isGreen_20 rfl (lv_at hl 1 rfl) ?_
    refine lv_iconst (v := (1 : Int32)) hx hb dX5_isGreen_21 (by decide) ?_
    refine lv_iadd hx hb dX5_isGreen_22 ?_
    obtain ⟨hi_6, hM⟩ := chkI_at hM
    refine va_iald hx hb hK hP 7 0 rfl rfl hi_6 dX5_isGreen_23 ?_
    refine lv_topi (fun x7 ex7 => ?_)
    replace hM := nm_at hM ex7
    refine va_put (ty := .int) hx hb hts hi5 tyX5 tyX5_ok nmX5 hown hK hP (hD.same rfl) hS 0 rfl rfl 20 (by decide) (hts (.fieldLink RX5 140 "NightPlotsModel" "readPlots" "I") (List.mem_of_getElem? (i := 2) rfl)) (fun _ h9 => h9) rfl (by decide +kernel) rfl rfl (Nat.le_of_ble_eq_true rfl) dX5_isGreen_24 (fun H locs hP _ hS => ?_)
    obtain ⟨mM_8, emM_8⟩ : ∃ z : GS, z = (up2 mM_2 0 20 x7) := ⟨_, rfl⟩
    have hP : va_P D vwCl (cMod Y oM mM_8 tk_3) H := by rw [emM_8]; exact hP
    replace hM := nm_at hM emM_8
    refine lv_aload_n hx hb dX5_isGreen_27 rfl (lv_at hl 0 rfl) ?_
    refine lv_iconst (v := (0 : Int32)) hx hb dX5_isGreen_28 (by decide) ?_
    refine va_put (ty := .int) hx hb hts hi5 tyX5 tyX5_ok nmX5 hown hK hP (hD.same rfl) hS 0 rfl rfl 21 (by decide) (hts (.fieldLink RX5 143 "NightPlotsModel" "readHouses" "I") (List.mem_of_getElem? (i := 3) rfl)) (fun _ h9 => h9) rfl (by decide +kernel) rfl rfl (Nat.le_of_ble_eq_true rfl) dX5_isGreen_29 (fun H locs hP _ hS => ?_)
    obtain ⟨mM_9, emM_9⟩ : ∃ z : GS, z = (up2 mM_8 0 21 (0 : Int32)) := ⟨_, rfl⟩
    have hP : va_P D vwCl (cMod Y oM mM_9 tk_3) H := by rw [emM_9]; exact hP
    replace hM := nm_at hM emM_9
    refine lv_aload_n hx hb dX5_isGreen_32 rfl (lv_at hl 0 rfl) ?_
    refine lv_iconst (v := (0 : Int32)) hx hb dX5_isGreen_33 (by decide) ?_
    refine va_put (ty := .int) hx hb hts hi5 tyX5 tyX5_ok nmX5 hown hK hP (hD.same rfl) hS 0 rfl rfl 22 (by decide) (hts (.fieldLink RX5 146 "NightPlotsModel" "readFull" "I") (List.mem_of_getElem? (i := 4) rfl)) (fun _ h9 => h9) rfl (by decide +kernel) rfl rfl (Nat.le_of_ble_eq_true rfl) dX5_isGreen_34 (fun H locs hP _ hS => ?_)
    obtain ⟨mM_10, emM_10⟩ : ∃ z : GS, z = (up2 mM_9 0 22 (0 : Int32)) := ⟨_, rfl⟩
    have hP : va_P D vwCl (cMod Y oM mM_10 tk_3) H := by rw [emM_10]; exact hP
    replace hM := nm_at hM emM_10
    refine lv_aload_n hx hb dX5_isGreen_37 rfl (lv_at hl 0 rfl) ?_
    refine lv_iconst (v := (0 : Int32)) hx hb dX5_isGreen_38 (by decide) ?_
    refine va_put (ty := .int) hx hb hts hi5 tyX5 tyX5_ok nmX5 hown hK hP (hD.same rfl) hS 0 rfl rfl 23 (by decide) (hts (.fieldLink RX5 149 "NightPlotsModel" "readPaths" "I") (List.mem_of_getElem? (i := 5) rfl)) (fun _ h9 => h9) rfl (by decide +kernel) rfl rfl (Nat.le_of_ble_eq_true rfl) dX5_isGreen_39 (fun H locs hP _ hS => ?_)
    obtain ⟨mM_11, emM_11⟩ : ∃ z : GS, z = (up2 mM_10 0 23 (0 : Int32)) := ⟨_, rfl⟩
    have hP : va_P D vwCl (cMod Y oM mM_11 tk_3) H := by rw [emM_11]; exact hP
    replace hM := nm_at hM emM_11
    refine lv_aload_n hx hb dX5_isGreen_42 rfl (lv_at hl 0 rfl) ?_
    refine lv_iconst (v := (0 : Int32)) hx hb dX5_isGreen_43 (by decide) ?_
    refine va_put (ty := .int) hx hb hts hi5 tyX5 tyX5_ok nmX5 hown hK hP (hD.same rfl) hS 0 rfl rfl 24 (by decide) (hts (.fieldLink RX5 152 "NightPlotsModel" "readFeuds" "I") (List.mem_of_getElem? (i := 6) rfl)) (fun _ h9 => h9) rfl (by decide +kernel) rfl rfl (Nat.le_of_ble_eq_true rfl) dX5_isGreen_44 (fun H locs hP _ hS => ?_)
    obtain ⟨mM_12, emM_12⟩ : ∃ z : GS, z = (up2 mM_11 0 24 (0 : Int32)) := ⟨_, rfl⟩
    have hP : va_P D vwCl (cMod Y oM mM_12 tk_3) H := by rw [emM_12]; exact hP
    replace hM := nm_at hM emM_12
    refine lv_iconst (v := (1 : Int32)) hx hb dX5_isGreen_47 (by decide) ?_
    cases hM
    rw [hQQ]
    exact W.zret (ty := .boolean) hx hb hr rfl (fun t ht hW => ⟨⟨_, (), rfl, rfl, by show va_P D vwCl _ t.heap; rw [ht]; exact hP⟩, hS.F ht⟩) hS.2.2 dX5_isGreen_48
  · replace hM := if_at_pos hM c5
    refine lv_iconst (v := (0 : Int32)) hx hb dX5_isGreen_13 (by decide) ?_
    cases hM
    rw [hQQ]
    exact W.zret (ty := .boolean) hx hb hr rfl (fun t ht hW => ⟨⟨_, (), rfl, rfl, by show va_P D vwCl _ t.heap; rw [ht]; exact hP⟩, hS.F ht⟩) hS.2.2 dX5_isGreen_14
noncomputable def MX5_isHouseLine (mM : GS) (tk : Int64) (i1 : Int32) (i2 : Int32) : Option (Int32 × GS × Int64) := if (mM 0 21) = (8 : Int32) then (bnd2 (MX5_fails mM) fun (r25 : Int32) (mM_26 : GS) => chkB r25 (some (r25, mM_26, tk))) else (nm ((mM 0 21) + (1 : Int32)) fun (x2 : Int32) => nm (up2 mM 0 21 x2) fun (mM_3 : GS) => bnd3 (MX5_isNumber mM_3 tk (i1 + (1 : Int32)) (0 : Int32) ((mM_3 0 20) - (1 : Int32))) fun (r4 : Int32) (mM_5 : GS) (tk_6 : Int64) => if r4 = 0 then (some ((0 : Int32), mM_5, tk_6)) else (chkI (i1 + (1 : Int32)) 36 (jn1 (fun (x10 : Int32) => nm (((1 : Int32) <<< ((mM_5 7 (i1 + (1 : Int32)).toNatClampNeg) &&& 31)) ||| x10) fun (x12 : Int32) => jn0 (bnd2 (MX5_fails mM_5) fun (r14 : Int32) (mM_15 : GS) => chkB r14 (some (r14, mM_15, tk_6))) (fun k13 => if ((mM_5 0 22) &&& x12) = 0 then (if ((mM_5 0 22) ||| x12) = (((1 : Int32) <<< ((mM_5 0 20) &&& 31)) - (1 : Int32)) then (k13) else (nm ((mM_5 0 22) ||| x12) fun (x20 : Int32) => nm (up2 mM_5 0 22 x20) fun (mM_21 : GS) => some ((1 : Int32), mM_21, tk_6))) else (k13))) (fun k11 => if i2 = 0 then (k11 (0 : Int32)) else (chkI (i1 + (1 : Int32)) 36 (chkZ (mM_5 0 20) (k11 ((1 : Int32) <<< ((((mM_5 7 (i1 + (1 : Int32)).toNatClampNeg) + (1 : Int32)) - ((mM_5 7 (i1 + (1 : Int32)).toNatClampNeg) + (1 : Int32)) / (mM_5 0 20) * (mM_5 0 20)) &&& 31)))))))))
abbrev rmX5_isHouseLine : Room := { frames := 4, cells := 0, slots := 0, locals := 160 }
set_option maxHeartbeats 4000000 in
set_option maxRecDepth 100000 in
theorem ctX5_isHouseLine (l : Launch) (D : va_G) (Y : Nat → ClassId) (oM : Nat → Nat) (sz : Nat) (mM : GS) (tk : Int64) (i1 : Int32) (i2 : Int32) (rr : Int32) (mMz : GS) (tkz : Int64) (hM : MX5_isHouseLine mM tk i1 i2 = some (rr, mMz, tkz)) : Met l yX5_isHouseLine wsX5_isHouseLine rmX5_isHouseLine (pcW [.ref (oM 0), .int i1, .int i2] sz D Y (cMod Y oM mM tk)) (qiW rr D (cMod Y oM mMz tkz) (va_A (cMod Y oM mM tk) sz)) 0 0 (va_A (cMod Y oM mM tk) sz) := by
  refine Met.ofW (cc := cX5_isHouseLine) (maxL := 4) (ret := (some .boolean)) (by decide) rfl ?_
  intro p e s m args below meth c s₁ B hml hv
  obtain ⟨rfl, hsz, hP, hK, hD0⟩ := hv
  have hx := B.exec
  have hb := B.bytes
  have hr := B.returns
  have hts := atoms_spec (ws := wsX5_isHouseLine) B.pre
  have hown : s.vm.findClass RX5 = some m.cls := findClass_of_methodNamed B.named
  have hlocks := B.notSynchronized
  subst hsz
  have hD := hD0.self (sz := s.heap.size)
  generalize hAe : va_A (cMod Y oM mM tk) s.heap.size = A at hD ⊢
  have hA : ∀ q : Nat, s.heap.size ≤ q → A q := fun q h => by rw [← hAe]; exact Or.inr h
  have hS : va_S A s.heap s.heap [] := va_S.rf
  have hi5 : ∀ w ∈ wsX50, w ∈ wsX5_isHouseLine := fun w h => List.mem_cons_of_mem _ (List.mem_append_right _ h)
  have hl := lv_entry ([.ref (oM 0), .int i1, .int i2]) (n := 4) (Nat.le_of_ble_eq_true rfl)
  rw [lg_entry_eq]
  generalize (lg_sl ([.ref (oM 0), .int i1, .int i2]) ++ List.replicate (4 - (lg_sl ([.ref (oM 0), .int i1, .int i2])).length) Slot.unset).toArray = ls at hl ⊢
  have hl : lv_has ls 4 [(0, .ref (oM 0)), (1, .int i1), (2, .int i2)] := hl
  obtain ⟨QQ, hQQ⟩ : ∃ Q : State → Prop, Q = MQ below (qiW rr D (cMod Y oM mMz tkz) A) ([.ref (oM 0), .int i1, .int i2] : List Value).toArray s 0 0 A := ⟨_, rfl⟩
  rw [← hQQ]
  unfold MX5_isHouseLine at hM
  suffices hI : ∀ (H : Heap) (locs : List Loc), va_P D vwCl (cMod Y oM mM tk) H → va_S A s.heap H locs → W p l e (headSpec wsX5_isHouseLine rmX5_isHouseLine).room s m ([.ref (oM 0), .int i1, .int i2] : List Value).toArray below meth c H locs 0 0 QQ (F0 m 0 ls []) from hI _ _ hP hS
  clear hP hS
  intro H locs hP hS
  refine lv_aload_n hx hb dX5_isHouseLine_0 rfl (lv_at hl 0 rfl) ?_
  refine va_get hx hb hts hi5 hown hK hP 0 rfl rfl 21 (by decide) (hts (.fieldLink RX5 143 "NightPlotsModel" "readHouses" "I") (List.mem_of_getElem? (i := 1) rfl)) (fun _ h9 => h9) rfl dX5_isHouseLine_1 ?_
  refine lv_bipush (v := (8 : Int32)) hx hb dX5_isHouseLine_4 (by decide) ?_
  refine lv_icmp_ne (tgt := 14) hx hb dX5_isHouseLine_6 (by decide) (fun c1 => ?_) (fun c1 => ?_)
  · replace hM := if_at_neg hM c1
    refine lv_aload_n hx hb dX5_isHouseLine_14 rfl (lv_at hl 0 rfl) ?_
    refine lv_dup hx hb dX5_isHouseLine_15 rfl ?_
    refine va_get hx hb hts hi5 hown hK hP 0 rfl rfl 21 (by decide) (hts (.fieldLink RX5 143 "NightPlotsModel" "readHouses" "I") (List.mem_of_getElem? (i := 1) rfl)) (fun _ h9 => h9) rfl dX5_isHouseLine_16 ?_
    refine lv_iconst (v := (1 : Int32)) hx hb dX5_isHouseLine_19 (by decide) ?_
    refine lv_iadd hx hb dX5_isHouseLine_20 ?_
    refine lv_topi (fun x2 ex2 => ?_)
    replace hM := nm_at hM ex2
    refine va_put (ty := .int) hx hb hts hi5 tyX5 tyX5_ok nmX5 hown hK hP (hD.same rfl) hS 0 rfl rfl 21 (by decide) (hts (.fieldLink RX5 143 "NightPlotsModel" "readHouses" "I") (List.mem_of_getElem? (i := 1) rfl)) (fun _ h9 => h9) rfl (by decide +kernel) rfl rfl (Nat.le_of_ble_eq_true rfl) dX5_isHouseLine_21 (fun H locs hP _ hS => ?_)
    obtain ⟨mM_3, emM_3⟩ : ∃ z : GS, z = (up2 mM 0 21 x2) := ⟨_, rfl⟩
    have hP : va_P D vwCl (cMod Y oM mM_3 tk) H := by rw [emM_3]; exact hP
    replace hM := nm_at hM emM_3
    refine lv_aload_n hx hb dX5_isHouseLine_24 rfl (lv_at hl 0 rfl) ?_
    refine lv_iload_n hx hb dX5_isHouseLine_25 rfl (lv_at hl 1 rfl) ?_
    refine lv_iconst (v := (1 : Int32)) hx hb dX5_isHouseLine_26 (by decide) ?_
    refine lv_iadd hx hb dX5_isHouseLine_27 ?_
    refine lv_iconst (v := (0 : Int32)) hx hb dX5_isHouseLine_28 (by decide) ?_
    refine lv_aload_n hx hb dX5_isHouseLine_29 rfl (lv_at hl 0 rfl) ?_
    refine va_get hx hb hts hi5 hown hK hP 0 rfl rfl 20 (by decide) (hts (.fieldLink RX5 140 "NightPlotsModel" "readPlots" "I") (List.mem_of_getElem? (i := 2) rfl)) (fun _ h9 => h9) rfl dX5_isHouseLine_30 ?_
    refine lv_iconst (v := (1 : Int32)) hx hb dX5_isHouseLine_33 (by decide) ?_
    refine lv_isub hx hb dX5_isHouseLine_34 ?_
    obtain ⟨r4, mM_5, tk_6, hc7, hM⟩ := bnd3_at hM
    refine co_i (va_runV (As := [.int (i1 + (1 : Int32)), .int (0 : Int32), .int ((mM_3 0 20) - (1 : Int32))]) (rest := []) ⟨hx, hb, hml, hown, hts⟩ (ctX5_isNumber l D Y oM H.size mM_3 tk (i1 + (1 : Int32)) (0 : Int32) ((mM_3 0 20) - (1 : Int32)) r4 mM_5 tk_6 hc7) (cwV 3 hts gX5_isHouseLine_X5_isNumber rfl rfl rfl (by decide +kernel) ⟨Nat.le_of_ble_eq_true rfl, Nat.le_of_ble_eq_true rfl⟩) (pcW_V0 (ci := 5) (q0 := 0) hK hP (hD.same rfl) rfl rfl) rfl rfl hl.1 rfl (lv_room (Nat.le_of_ble_eq_true rfl)) dX5_isHouseLine_35 ⟨Nat.zero_le _, Nat.zero_le _⟩) (hD.same rfl) hS hA (fun H locs hP hS => ?_)
    refine lv_if_ne (tgt := 43) hx hb dX5_isHouseLine_38 (by decide) (fun c8 => ?_) (fun c8 => ?_)
    · replace hM := if_at_neg hM c8
      refine lv_iconst (v := (1 : Int32)) hx hb dX5_isHouseLine_43 (by decide) ?_
      refine lv_aload_n hx hb dX5_isHouseLine_44 rfl (lv_at hl 0 rfl) ?_
      refine va_get hx hb hts hi5 hown hK hP 0 rfl rfl 25 (by decide) (hts (.fieldLink RX5 35 "NightPlotsModel" "read" "[I") (List.mem_of_getElem? (i := 3) rfl)) (fun _ h9 => h9) rfl dX5_isHouseLine_45 ?_
      refine lv_iload_n hx hb dX5_isHouseLine_48 rfl (lv_at hl 1 rfl) ?_
      refine lv_iconst (v := (1 : Int32)) hx hb dX5_isHouseLine_49 (by decide) ?_
      refine lv_iadd hx hb dX5_isHouseLine_50 ?_
      obtain ⟨hi_9, hM⟩ := chkI_at hM
      refine va_iald hx hb hK hP 7 0 rfl rfl hi_9 dX5_isHouseLine_51 ?_
      refine lv_ishl hx hb dX5_isHouseLine_52 ?_
      refine lv_iload_n hx hb dX5_isHouseLine_53 rfl (lv_at hl 2 rfl) ?_
      refine jn1_at (fun (x10 : Int32) => ∀ (H : Heap) (locs : List Loc) (ls : Array Slot), va_P D vwCl (cMod Y oM mM_5 tk_6) H → va_S A s.heap H locs → lv_has ls 4 [(0, .ref (oM 0))] → W p l e (headSpec wsX5_isHouseLine rmX5_isHouseLine).room s m ([.ref (oM 0), .int i1, .int i2] : List Value).toArray below meth c H locs 0 0 QQ (F0 m 78 ls [.int x10, .int ((1 : Int32) <<< ((mM_5 7 (i1 + (1 : Int32)).toNatClampNeg) &&& 31))])) hM (fun x10 hM H locs ls hP hS hl => ?_) (fun k11 hJ11 hM => ?_)
      · refine lv_ior hx hb dX5_isHouseLine_78 ?_
        refine lv_topi (fun x12 ex12 => ?_)
        replace hM := nm_at hM ex12
        refine lv_istore_n (lv' := [(3, .int x12), (0, .ref (oM 0))]) hx hb dX5_isHouseLine_79 rfl hl (by decide) rfl (fun ls hl => ?_)
        refine lv_aload_n hx hb dX5_isHouseLine_80 rfl (lv_at hl 1 rfl) ?_
        refine va_get hx hb hts hi5 hown hK hP 0 rfl rfl 22 (by decide) (hts (.fieldLink RX5 146 "NightPlotsModel" "readFull" "I") (List.mem_of_getElem? (i := 4) rfl)) (fun _ h9 => h9) rfl dX5_isHouseLine_81 ?_
        refine lv_iload_n hx hb dX5_isHouseLine_84 rfl (lv_at hl 0 rfl) ?_
        refine lv_iand hx hb dX5_isHouseLine_85 ?_
        refine jn0_at (∀ (H : Heap) (locs : List Loc) (ls : Array Slot), va_P D vwCl (cMod Y oM mM_5 tk_6) H → va_S A s.heap H locs → lv_has ls 4 [(0, .ref (oM 0))] → W p l e (headSpec wsX5_isHouseLine rmX5_isHouseLine).room s m ([.ref (oM 0), .int i1, .int i2] : List Value).toArray below meth c H locs 0 0 QQ (F0 m 106 ls [])) hM (fun  hM H locs ls hP hS hl => ?_) (fun k13 hJ13 hM => ?_)
        · refine lv_aload_n hx hb dX5_isHouseLine_106 rfl (lv_at hl 0 rfl) ?_
          obtain ⟨r14, mM_15, hc16, hM⟩ := bnd2_at hM
          refine co_i (va_runV (As := []) (rest := []) ⟨hx, hb, hml, hown, hts⟩ (ctX5_fails l D Y oM H.size mM_5 tk_6 r14 mM_15 hc16) (cwV 0 hts gX5_isHouseLine_X5_fails rfl rfl rfl (by decide +kernel) ⟨Nat.le_of_ble_eq_true rfl, Nat.le_of_ble_eq_true rfl⟩) (pcW_V0 (ci := 5) (q0 := 0) hK hP (hD.same rfl) rfl rfl) rfl rfl hl.1 rfl (lv_room (Nat.le_of_ble_eq_true rfl)) dX5_isHouseLine_107 ⟨Nat.zero_le _, Nat.zero_le _⟩) (hD.same rfl) hS hA (fun H locs hP hS => ?_)
          obtain ⟨hz17, hM⟩ := chkB_at hM
          cases hM
          rw [hQQ]
          exact W.zret (ty := .boolean) hx hb hr hz17 (fun t ht hW => ⟨⟨_, (), rfl, rfl, by show va_P D vwCl _ t.heap; rw [ht]; exact hP⟩, hS.F ht⟩) hS.2.2 dX5_isHouseLine_110
        · refine lv_if_ne (tgt := 106) hx hb dX5_isHouseLine_86 (by decide) (fun c18 => ?_) (fun c18 => ?_)
          · replace hM := if_at_neg hM c18
            exact hJ13 hM H locs ls hP hS (lv_sub hl [1] rfl)
          · replace hM := if_at_pos hM c18
            refine lv_aload_n hx hb dX5_isHouseLine_89 rfl (lv_at hl 1 rfl) ?_
            refine va_get hx hb hts hi5 hown hK hP 0 rfl rfl 22 (by decide) (hts (.fieldLink RX5 146 "NightPlotsModel" "readFull" "I") (List.mem_of_getElem? (i := 4) rfl)) (fun _ h9 => h9) rfl dX5_isHouseLine_90 ?_
            refine lv_iload_n hx hb dX5_isHouseLine_93 rfl (lv_at hl 0 rfl) ?_
            refine lv_ior hx hb dX5_isHouseLine_94 ?_
            refine lv_iconst (v := (1 : Int32)) hx hb dX5_isHouseLine_95 (by decide) ?_
            refine lv_aload_n hx hb dX5_isHouseLine_96 rfl (lv_at hl 1 rfl) ?_
            refine va_get hx hb hts hi5 hown hK hP 0 rfl rfl 20 (by decide) (hts (.fieldLink RX5 140 "NightPlotsModel" "readPlots" "I") (List.mem_of_getElem? (i := 2) rfl)) (fun _ h9 => h9) rfl dX5_isHouseLine_97 ?_
            refine lv_ishl hx hb dX5_isHouseLine_100 ?_
            refine lv_iconst (v := (1 : Int32)) hx hb dX5_isHouseLine_101 (by decide) ?_
            refine lv_isub hx hb dX5_isHouseLine_102 ?_
            refine lv_icmp_ne (tgt := 111) hx hb dX5_isHouseLine_103 (by decide) (fun c19 => ?_) (fun c19 => ?_)
            · replace hM := if_at_neg hM c19
              refine lv_aload_n hx hb dX5_isHouseLine_111 rfl (lv_at hl 1 rfl) ?_
              refine lv_aload_n hx hb dX5_isHouseLine_112 rfl (lv_at hl 1 rfl) ?_
              refine va_get hx hb hts hi5 hown hK hP 0 rfl rfl 22 (by decide) (hts (.fieldLink RX5 146 "NightPlotsModel" "readFull" "I") (List.mem_of_getElem? (i := 4) rfl)) (fun _ h9 => h9) rfl dX5_isHouseLine_113 ?_
              refine lv_iload_n hx hb dX5_isHouseLine_116 rfl (lv_at hl 0 rfl) ?_
              refine lv_ior hx hb dX5_isHouseLine_117 ?_
              refine lv_topi (fun x20 ex20 => ?_)
              replace hM := nm_at hM ex20
              refine va_put (ty := .int) hx hb hts hi5 tyX5 tyX5_ok nmX5 hown hK hP (hD.same rfl) hS 0 rfl rfl 22 (by decide) (hts (.fieldLink RX5 146 "NightPlotsModel" "readFull" "I") (List.mem_of_getElem? (i := 4) rfl)) (fun _ h9 => h9) rfl (by decide +kernel) rfl rfl (Nat.le_of_ble_eq_true rfl) dX5_isHouseLine_118 (fun H locs hP _ hS => ?_)
              obtain ⟨mM_21, emM_21⟩ : ∃ z : GS, z = (up2 mM_5 0 22 x20) := ⟨_, rfl⟩
              have hP : va_P D vwCl (cMod Y oM mM_21 tk_6) H := by rw [emM_21]; exact hP
              replace hM := nm_at hM emM_21
              refine lv_iconst (v := (1 : Int32)) hx hb dX5_isHouseLine_121 (by decide) ?_
              cases hM
              rw [hQQ]
              exact W.zret (ty := .boolean) hx hb hr rfl (fun t ht hW => ⟨⟨_, (), rfl, rfl, by show va_P D vwCl _ t.heap; rw [ht]; exact hP⟩, hS.F ht⟩) hS.2.2 dX5_isHouseLine_122
            · replace hM := if_at_pos hM c19
              exact hJ13 hM H locs ls hP hS (lv_sub hl [1] rfl)
      · refine lv_if_eq (tgt := 77) hx hb dX5_isHouseLine_54 (by decide) (fun c22 => ?_) (fun c22 => ?_)
        · replace hM := if_at_pos hM c22
          refine lv_iconst (v := (0 : Int32)) hx hb dX5_isHouseLine_77 (by decide) ?_
          exact hJ11 (0 : Int32) hM H locs ls hP hS (lv_sub hl [0] rfl)
        · replace hM := if_at_neg hM c22
          refine lv_iconst (v := (1 : Int32)) hx hb dX5_isHouseLine_57 (by decide) ?_
          refine lv_aload_n hx hb dX5_isHouseLine_58 rfl (lv_at hl 0 rfl) ?_
          refine va_get hx hb hts hi5 hown hK hP 0 rfl rfl 25 (by decide) (hts (.fieldLink RX5 35 "NightPlotsModel" "read" "[I") (List.mem_of_getElem? (i := 3) rfl)) (fun _ h9 => h9) rfl dX5_isHouseLine_59 ?_
          refine lv_iload_n hx hb dX5_isHouseLine_62 rfl (lv_at hl 1 rfl) ?_
          refine lv_iconst (v := (1 : Int32)) hx hb dX5_isHouseLine_63 (by decide) ?_
          refine lv_iadd hx hb dX5_isHouseLine_64 ?_
          obtain ⟨hi_23, hM⟩ := chkI_at hM
          refine va_iald hx hb hK hP 7 0 rfl rfl hi_23 dX5_isHouseLine_65 ?_
          refine lv_iconst (v := (1 : Int32)) hx hb dX5_isHouseLine_66 (by decide) ?_
          refine lv_iadd hx hb dX5_isHouseLine_67 ?_
          refine lv_aload_n hx hb dX5_isHouseLine_68 rfl (lv_at hl 0 rfl) ?_
          refine va_get hx hb hts hi5 hown hK hP 0 rfl rfl 20 (by decide) (hts (.fieldLink RX5 140 "NightPlotsModel" "readPlots" "I") (List.mem_of_getElem? (i := 2) rfl)) (fun _ h9 => h9) rfl dX5_isHouseLine_69 ?_
          obtain ⟨hz24, hM⟩ := chkZ_at hM
          refine lv_irem hx hb dX5_isHouseLine_72 hz24 ?_
          refine lv_ishl hx hb dX5_isHouseLine_73 ?_
          refine lv_goto (tgt := 78) hx hb dX5_isHouseLine_74 (by decide) ?_
          exact hJ11 ((1 : Int32) <<< ((((mM_5 7 (i1 + (1 : Int32)).toNatClampNeg) + (1 : Int32)) - ((mM_5 7 (i1 + (1 : Int32)).toNatClampNeg) + (1 : Int32)) / (mM_5 0 20) * (mM_5 0 20)) &&& 31)) hM H locs ls hP hS (lv_sub hl [0] rfl)
    · replace hM := if_at_pos hM c8
      refine lv_iconst (v := (0 : Int32)) hx hb dX5_isHouseLine_41 (by decide) ?_
      cases hM
      rw [hQQ]
      exact W.zret (ty := .boolean) hx hb hr rfl (fun t ht hW => ⟨⟨_, (), rfl, rfl, by show va_P D vwCl _ t.heap; rw [ht]; exact hP⟩, hS.F ht⟩) hS.2.2 dX5_isHouseLine_42
  · replace hM := if_at_pos hM c1
    refine lv_aload_n hx hb dX5_isHouseLine_9 rfl (lv_at hl 0 rfl) ?_
    obtain ⟨r25, mM_26, hc27, hM⟩ := bnd2_at hM
    refine co_i (va_runV (As := []) (rest := []) ⟨hx, hb, hml, hown, hts⟩ (ctX5_fails l D Y oM H.size mM tk r25 mM_26 hc27) (cwV 0 hts gX5_isHouseLine_X5_fails rfl rfl rfl (by decide +kernel) ⟨Nat.le_of_ble_eq_true rfl, Nat.le_of_ble_eq_true rfl⟩) (pcW_V0 (ci := 5) (q0 := 0) hK hP (hD.same rfl) rfl rfl) rfl rfl hl.1 rfl (lv_room (Nat.le_of_ble_eq_true rfl)) dX5_isHouseLine_10 ⟨Nat.zero_le _, Nat.zero_le _⟩) (hD.same rfl) hS hA (fun H locs hP hS => ?_)
    obtain ⟨hz28, hM⟩ := chkB_at hM
    cases hM
    rw [hQQ]
    exact W.zret (ty := .boolean) hx hb hr hz28 (fun t ht hW => ⟨⟨_, (), rfl, rfl, by show va_P D vwCl _ t.heap; rw [ht]; exact hP⟩, hS.F ht⟩) hS.2.2 dX5_isHouseLine_13
noncomputable def MX5_areUnlike (mM : GS) (tk : Int64) (i1 : Int32) (i2 : Int32) : Option (Int32 × GS × Int64) := bnd3 (MX5_isNumber mM tk (i1 + (1 : Int32)) (0 : Int32) i2) fun (r1 : Int32) (mM_2 : GS) (tk_3 : Int64) => jn2 (fun (mM_5 : GS) (tk_6 : Int64) => some ((0 : Int32), mM_5, tk_6)) (fun k7 => if r1 = 0 then (k7 mM_2 tk_3) else (bnd3 (MX5_isNumber mM_2 tk_3 (i1 + (2 : Int32)) (0 : Int32) i2) fun (r9 : Int32) (mM_10 : GS) (tk_11 : Int64) => if r9 = 0 then (k7 mM_10 tk_11) else (chkI (i1 + (1 : Int32)) 36 (chkI (i1 + (2 : Int32)) 36 (jn2 (fun (mM_16 : GS) (x17 : Int32) => chkB x17 (some (x17, mM_16, tk_11))) (fun k18 => jn1 (fun (mM_20 : GS) => k18 mM_20 (1 : Int32)) (fun k21 => if (mM_10 7 (i1 + (1 : Int32)).toNatClampNeg) = (mM_10 7 (i1 + (2 : Int32)).toNatClampNeg) then (bnd2 (MX5_fails mM_10) fun (r23 : Int32) (mM_24 : GS) => if r23 = 0 then (k18 mM_24 (0 : Int32)) else (k21 mM_24)) else (k21 mM_10))))))))
abbrev rmX5_areUnlike : Room := { frames := 4, cells := 0, slots := 0, locals := 160 }
set_option maxHeartbeats 4000000 in
set_option maxRecDepth 100000 in
theorem ctX5_areUnlike (l : Launch) (D : va_G) (Y : Nat → ClassId) (oM : Nat → Nat) (sz : Nat) (mM : GS) (tk : Int64) (i1 : Int32) (i2 : Int32) (rr : Int32) (mMz : GS) (tkz : Int64) (hM : MX5_areUnlike mM tk i1 i2 = some (rr, mMz, tkz)) : Met l yX5_areUnlike wsX5_areUnlike rmX5_areUnlike (pcW [.ref (oM 0), .int i1, .int i2] sz D Y (cMod Y oM mM tk)) (qiW rr D (cMod Y oM mMz tkz) (va_A (cMod Y oM mM tk) sz)) 0 0 (va_A (cMod Y oM mM tk) sz) := by
  refine Met.ofW (cc := cX5_areUnlike) (maxL := 3) (ret := (some .boolean)) (by decide) rfl ?_
  intro p e s m args below meth c s₁ B hml hv
  obtain ⟨rfl, hsz, hP, hK, hD0⟩ := hv
  have hx := B.exec
  have hb := B.bytes
  have hr := B.returns
  have hts := atoms_spec (ws := wsX5_areUnlike) B.pre
  have hown : s.vm.findClass RX5 = some m.cls := findClass_of_methodNamed B.named
  have hlocks := B.notSynchronized
  subst hsz
  have hD := hD0.self (sz := s.heap.size)
  generalize hAe : va_A (cMod Y oM mM tk) s.heap.size = A at hD ⊢
  have hA : ∀ q : Nat, s.heap.size ≤ q → A q := fun q h => by rw [← hAe]; exact Or.inr h
  have hS : va_S A s.heap s.heap [] := va_S.rf
  have hi5 : ∀ w ∈ wsX50, w ∈ wsX5_areUnlike := fun w h => List.mem_cons_of_mem _ (List.mem_append_right _ h)
  have hl := lv_entry ([.ref (oM 0), .int i1, .int i2]) (n := 3) (Nat.le_of_ble_eq_true rfl)
  rw [lg_entry_eq]
  generalize (lg_sl ([.ref (oM 0), .int i1, .int i2]) ++ List.replicate (3 - (lg_sl ([.ref (oM 0), .int i1, .int i2])).length) Slot.unset).toArray = ls at hl ⊢
  have hl : lv_has ls 3 [(0, .ref (oM 0)), (1, .int i1), (2, .int i2)] := hl
  obtain ⟨QQ, hQQ⟩ : ∃ Q : State → Prop, Q = MQ below (qiW rr D (cMod Y oM mMz tkz) A) ([.ref (oM 0), .int i1, .int i2] : List Value).toArray s 0 0 A := ⟨_, rfl⟩
  rw [← hQQ]
  unfold MX5_areUnlike at hM
  suffices hI : ∀ (H : Heap) (locs : List Loc), va_P D vwCl (cMod Y oM mM tk) H → va_S A s.heap H locs → W p l e (headSpec wsX5_areUnlike rmX5_areUnlike).room s m ([.ref (oM 0), .int i1, .int i2] : List Value).toArray below meth c H locs 0 0 QQ (F0 m 0 ls []) from hI _ _ hP hS
  clear hP hS
  intro H locs hP hS
  refine lv_aload_n hx hb dX5_areUnlike_0 rfl (lv_at hl 0 rfl) ?_
  refine lv_iload_n hx hb dX5_areUnlike_1 rfl (lv_at hl 1 rfl) ?_
  refine lv_iconst (v := (1 : Int32)) hx hb dX5_areUnlike_2 (by decide) ?_
  refine lv_iadd hx hb dX5_areUnlike_3 ?_
  refine lv_iconst (v := (0 : Int32)) hx hb dX5_areUnlike_4 (by decide) ?_
  refine lv_iload_n hx hb dX5_areUnlike_5 rfl (lv_at hl 2 rfl) ?_
  obtain ⟨r1, mM_2, tk_3, hc4, hM⟩ := bnd3_at hM
  refine co_i (va_runV (As := [.int (i1 + (1 : Int32)), .int (0 : Int32), .int i2]) (rest := []) ⟨hx, hb, hml, hown, hts⟩ (ctX5_isNumber l D Y oM H.size mM tk (i1 + (1 : Int32)) (0 : Int32) i2 r1 mM_2 tk_3 hc4) (cwV 3 hts gX5_areUnlike_X5_isNumber rfl rfl rfl (by decide +kernel) ⟨Nat.le_of_ble_eq_true rfl, Nat.le_of_ble_eq_true rfl⟩) (pcW_V0 (ci := 5) (q0 := 0) hK hP (hD.same rfl) rfl rfl) rfl rfl hl.1 rfl (lv_room (Nat.le_of_ble_eq_true rfl)) dX5_areUnlike_6 ⟨Nat.zero_le _, Nat.zero_le _⟩) (hD.same rfl) hS hA (fun H locs hP hS => ?_)
  refine jn2_at (fun (mM_5 : GS) (tk_6 : Int64) => ∀ (H : Heap) (locs : List Loc) (ls : Array Slot), va_P D vwCl (cMod Y oM mM_5 tk_6) H → va_S A s.heap H locs → lv_has ls 3 [] → W p l e (headSpec wsX5_areUnlike rmX5_areUnlike).room s m ([.ref (oM 0), .int i1, .int i2] : List Value).toArray below meth c H locs 0 0 QQ (F0 m 24 ls [])) hM (fun mM_5 tk_6 hM H locs ls hP hS hl => ?_) (fun k7 hJ7 hM => ?_)
  · refine lv_iconst (v := (0 : Int32)) hx hb dX5_areUnlike_24 (by decide) ?_
    cases hM
    rw [hQQ]
    exact W.zret (ty := .boolean) hx hb hr rfl (fun t ht hW => ⟨⟨_, (), rfl, rfl, by show va_P D vwCl _ t.heap; rw [ht]; exact hP⟩, hS.F ht⟩) hS.2.2 dX5_areUnlike_25
  · refine lv_if_eq (tgt := 24) hx hb dX5_areUnlike_9 (by decide) (fun c8 => ?_) (fun c8 => ?_)
    · replace hM := if_at_pos hM c8
      exact hJ7 mM_2 tk_3 hM H locs ls hP hS (lv_sub hl [] rfl)
    · replace hM := if_at_neg hM c8
      refine lv_aload_n hx hb dX5_areUnlike_12 rfl (lv_at hl 0 rfl) ?_
      refine lv_iload_n hx hb dX5_areUnlike_13 rfl (lv_at hl 1 rfl) ?_
      refine lv_iconst (v := (2 : Int32)) hx hb dX5_areUnlike_14 (by decide) ?_
      refine lv_iadd hx hb dX5_areUnlike_15 ?_
      refine lv_iconst (v := (0 : Int32)) hx hb dX5_areUnlike_16 (by decide) ?_
      refine lv_iload_n hx hb dX5_areUnlike_17 rfl (lv_at hl 2 rfl) ?_
      obtain ⟨r9, mM_10, tk_11, hc12, hM⟩ := bnd3_at hM
      refine co_i (va_runV (As := [.int (i1 + (2 : Int32)), .int (0 : Int32), .int i2]) (rest := []) ⟨hx, hb, hml, hown, hts⟩ (ctX5_isNumber l D Y oM H.size mM_2 tk_3 (i1 + (2 : Int32)) (0 : Int32) i2 r9 mM_10 tk_11 hc12) (cwV 3 hts gX5_areUnlike_X5_isNumber rfl rfl rfl (by decide +kernel) ⟨Nat.le_of_ble_eq_true rfl, Nat.le_of_ble_eq_true rfl⟩) (pcW_V0 (ci := 5) (q0 := 0) hK hP (hD.same rfl) rfl rfl) rfl rfl hl.1 rfl (lv_room (Nat.le_of_ble_eq_true rfl)) dX5_areUnlike_18 ⟨Nat.zero_le _, Nat.zero_le _⟩) (hD.same rfl) hS hA (fun H locs hP hS => ?_)
      refine lv_if_ne (tgt := 26) hx hb dX5_areUnlike_21 (by decide) (fun c13 => ?_) (fun c13 => ?_)
      · replace hM := if_at_neg hM c13
        refine lv_aload_n hx hb dX5_areUnlike_26 rfl (lv_at hl 0 rfl) ?_
        refine va_get hx hb hts hi5 hown hK hP 0 rfl rfl 25 (by decide) (hts (.fieldLink RX5 35 "NightPlotsModel" "read" "[I") (List.mem_of_getElem? (i := 1) rfl)) (fun _ h9 => h9) rfl dX5_areUnlike_27 ?_
        refine lv_iload_n hx hb dX5_areUnlike_30 rfl (lv_at hl 1 rfl) ?_
        refine lv_iconst (v := (1 : Int32)) hx hb dX5_areUnlike_31 (by decide) ?_
        refine lv_iadd hx hb dX5_areUnlike_32 ?_
        obtain ⟨hi_14, hM⟩ := chkI_at hM
        refine va_iald hx hb hK hP 7 0 rfl rfl hi_14 dX5_areUnlike_33 ?_
        refine lv_aload_n hx hb dX5_areUnlike_34 rfl (lv_at hl 0 rfl) ?_
        refine va_get hx hb hts hi5 hown hK hP 0 rfl rfl 25 (by decide) (hts (.fieldLink RX5 35 "NightPlotsModel" "read" "[I") (List.mem_of_getElem? (i := 1) rfl)) (fun _ h9 => h9) rfl dX5_areUnlike_35 ?_
        refine lv_iload_n hx hb dX5_areUnlike_38 rfl (lv_at hl 1 rfl) ?_
        refine lv_iconst (v := (2 : Int32)) hx hb dX5_areUnlike_39 (by decide) ?_
        refine lv_iadd hx hb dX5_areUnlike_40 ?_
        obtain ⟨hi_15, hM⟩ := chkI_at hM
        refine va_iald hx hb hK hP 7 0 rfl rfl hi_15 dX5_areUnlike_41 ?_
        refine jn2_at (fun (mM_16 : GS) (x17 : Int32) => ∀ (H : Heap) (locs : List Loc) (ls : Array Slot), va_P D vwCl (cMod Y oM mM_16 tk_11) H → va_S A s.heap H locs → lv_has ls 3 [] → W p l e (headSpec wsX5_areUnlike rmX5_areUnlike).room s m ([.ref (oM 0), .int i1, .int i2] : List Value).toArray below meth c H locs 0 0 QQ (F0 m 57 ls [.int x17])) hM (fun mM_16 x17 hM H locs ls hP hS hl => ?_) (fun k18 hJ18 hM => ?_)
        · obtain ⟨hz19, hM⟩ := chkB_at hM
          cases hM
          rw [hQQ]
          exact W.zret (ty := .boolean) hx hb hr hz19 (fun t ht hW => ⟨⟨_, (), rfl, rfl, by show va_P D vwCl _ t.heap; rw [ht]; exact hP⟩, hS.F ht⟩) hS.2.2 dX5_areUnlike_57
        · refine jn1_at (fun (mM_20 : GS) => ∀ (H : Heap) (locs : List Loc) (ls : Array Slot), va_P D vwCl (cMod Y oM mM_20 tk_11) H → va_S A s.heap H locs → lv_has ls 3 [] → W p l e (headSpec wsX5_areUnlike rmX5_areUnlike).room s m ([.ref (oM 0), .int i1, .int i2] : List Value).toArray below meth c H locs 0 0 QQ (F0 m 52 ls [])) hM (fun mM_20 hM H locs ls hP hS hl => ?_) (fun k21 hJ21 hM => ?_)
          · refine lv_iconst (v := (1 : Int32)) hx hb dX5_areUnlike_52 (by decide) ?_
            refine lv_goto (tgt := 57) hx hb dX5_areUnlike_53 (by decide) ?_
            exact hJ18 mM_20 (1 : Int32) hM H locs ls hP hS (lv_sub hl [] rfl)
          · refine lv_icmp_ne (tgt := 52) hx hb dX5_areUnlike_42 (by decide) (fun c22 => ?_) (fun c22 => ?_)
            · replace hM := if_at_neg hM c22
              exact hJ21 mM_10 hM H locs ls hP hS (lv_sub hl [] rfl)
            · replace hM := if_at_pos hM c22
              refine lv_aload_n hx hb dX5_areUnlike_45 rfl (lv_at hl 0 rfl) ?_
              obtain ⟨r23, mM_24, hc25, hM⟩ := bnd2_at hM
              refine co_i (va_runV (As := []) (rest := []) ⟨hx, hb, hml, hown, hts⟩ (ctX5_fails l D Y oM H.size mM_10 tk_11 r23 mM_24 hc25) (cwV 0 hts gX5_areUnlike_X5_fails rfl rfl rfl (by decide +kernel) ⟨Nat.le_of_ble_eq_true rfl, Nat.le_of_ble_eq_true rfl⟩) (pcW_V0 (ci := 5) (q0 := 0) hK hP (hD.same rfl) rfl rfl) rfl rfl hl.1 rfl (lv_room (Nat.le_of_ble_eq_true rfl)) dX5_areUnlike_46 ⟨Nat.zero_le _, Nat.zero_le _⟩) (hD.same rfl) hS hA (fun H locs hP hS => ?_)
              refine lv_if_eq (tgt := 56) hx hb dX5_areUnlike_49 (by decide) (fun c26 => ?_) (fun c26 => ?_)
              · replace hM := if_at_pos hM c26
                refine lv_iconst (v := (0 : Int32)) hx hb dX5_areUnlike_56 (by decide) ?_
                exact hJ18 mM_24 (0 : Int32) hM H locs ls hP hS (lv_sub hl [] rfl)
              · replace hM := if_at_neg hM c26
                exact hJ21 mM_24 hM H locs ls hP hS (lv_sub hl [] rfl)
      · replace hM := if_at_pos hM c13
        exact hJ7 mM_10 tk_11 hM H locs ls hP hS (lv_sub hl [] rfl)
noncomputable def MX5_isPath (mM : GS) (tk : Int64) (i1 : Int32) : Option (Int32 × GS × Int64) := if (mM 0 23) = (6 : Int32) then (bnd2 (MX5_fails mM) fun (r9 : Int32) (mM_10 : GS) => chkB r9 (some (r9, mM_10, tk))) else (nm ((mM 0 23) + (1 : Int32)) fun (x2 : Int32) => nm (up2 mM 0 23 x2) fun (mM_3 : GS) => bnd3 (MX5_areUnlike mM_3 tk i1 ((mM_3 0 20) - (1 : Int32))) fun (r4 : Int32) (mM_5 : GS) (tk_6 : Int64) => chkB r4 (some (r4, mM_5, tk_6)))
abbrev rmX5_isPath : Room := { frames := 5, cells := 0, slots := 0, locals := 200 }
set_option maxHeartbeats 4000000 in
set_option maxRecDepth 100000 in
theorem ctX5_isPath (l : Launch) (D : va_G) (Y : Nat → ClassId) (oM : Nat → Nat) (sz : Nat) (mM : GS) (tk : Int64) (i1 : Int32) (rr : Int32) (mMz : GS) (tkz : Int64) (hM : MX5_isPath mM tk i1 = some (rr, mMz, tkz)) : Met l yX5_isPath wsX5_isPath rmX5_isPath (pcW [.ref (oM 0), .int i1] sz D Y (cMod Y oM mM tk)) (qiW rr D (cMod Y oM mMz tkz) (va_A (cMod Y oM mM tk) sz)) 0 0 (va_A (cMod Y oM mM tk) sz) := by
  refine Met.ofW (cc := cX5_isPath) (maxL := 2) (ret := (some .boolean)) (by decide) rfl ?_
  intro p e s m args below meth c s₁ B hml hv
  obtain ⟨rfl, hsz, hP, hK, hD0⟩ := hv
  have hx := B.exec
  have hb := B.bytes
  have hr := B.returns
  have hts := atoms_spec (ws := wsX5_isPath) B.pre
  have hown : s.vm.findClass RX5 = some m.cls := findClass_of_methodNamed B.named
  have hlocks := B.notSynchronized
  subst hsz
  have hD := hD0.self (sz := s.heap.size)
  generalize hAe : va_A (cMod Y oM mM tk) s.heap.size = A at hD ⊢
  have hA : ∀ q : Nat, s.heap.size ≤ q → A q := fun q h => by rw [← hAe]; exact Or.inr h
  have hS : va_S A s.heap s.heap [] := va_S.rf
  have hi5 : ∀ w ∈ wsX50, w ∈ wsX5_isPath := fun w h => List.mem_cons_of_mem _ (List.mem_append_right _ h)
  have hl := lv_entry ([.ref (oM 0), .int i1]) (n := 2) (Nat.le_of_ble_eq_true rfl)
  rw [lg_entry_eq]
  generalize (lg_sl ([.ref (oM 0), .int i1]) ++ List.replicate (2 - (lg_sl ([.ref (oM 0), .int i1])).length) Slot.unset).toArray = ls at hl ⊢
  have hl : lv_has ls 2 [(0, .ref (oM 0)), (1, .int i1)] := hl
  obtain ⟨QQ, hQQ⟩ : ∃ Q : State → Prop, Q = MQ below (qiW rr D (cMod Y oM mMz tkz) A) ([.ref (oM 0), .int i1] : List Value).toArray s 0 0 A := ⟨_, rfl⟩
  rw [← hQQ]
  unfold MX5_isPath at hM
  suffices hI : ∀ (H : Heap) (locs : List Loc), va_P D vwCl (cMod Y oM mM tk) H → va_S A s.heap H locs → W p l e (headSpec wsX5_isPath rmX5_isPath).room s m ([.ref (oM 0), .int i1] : List Value).toArray below meth c H locs 0 0 QQ (F0 m 0 ls []) from hI _ _ hP hS
  clear hP hS
  intro H locs hP hS
  refine lv_aload_n hx hb dX5_isPath_0 rfl (lv_at hl 0 rfl) ?_
  refine va_get hx hb hts hi5 hown hK hP 0 rfl rfl 23 (by decide) (hts (.fieldLink RX5 149 "NightPlotsModel" "readPaths" "I") (List.mem_of_getElem? (i := 1) rfl)) (fun _ h9 => h9) rfl dX5_isPath_1 ?_
  refine lv_bipush (v := (6 : Int32)) hx hb dX5_isPath_4 (by decide) ?_
  refine lv_icmp_ne (tgt := 14) hx hb dX5_isPath_6 (by decide) (fun c1 => ?_) (fun c1 => ?_)
  · replace hM := if_at_neg hM c1
    refine lv_aload_n hx hb dX5_isPath_14 rfl (lv_at hl 0 rfl) ?_
    refine lv_dup hx hb dX5_isPath_15 rfl ?_
    refine va_get hx hb hts hi5 hown hK hP 0 rfl rfl 23 (by decide) (hts (.fieldLink RX5 149 "NightPlotsModel" "readPaths" "I") (List.mem_of_getElem? (i := 1) rfl)) (fun _ h9 => h9) rfl dX5_isPath_16 ?_
    refine lv_iconst (v := (1 : Int32)) hx hb dX5_isPath_19 (by decide) ?_
    refine lv_iadd hx hb dX5_isPath_20 ?_
    refine lv_topi (fun x2 ex2 => ?_)
    replace hM := nm_at hM ex2
    refine va_put (ty := .int) hx hb hts hi5 tyX5 tyX5_ok nmX5 hown hK hP (hD.same rfl) hS 0 rfl rfl 23 (by decide) (hts (.fieldLink RX5 149 "NightPlotsModel" "readPaths" "I") (List.mem_of_getElem? (i := 1) rfl)) (fun _ h9 => h9) rfl (by decide +kernel) rfl rfl (Nat.le_of_ble_eq_true rfl) dX5_isPath_21 (fun H locs hP _ hS => ?_)
    obtain ⟨mM_3, emM_3⟩ : ∃ z : GS, z = (up2 mM 0 23 x2) := ⟨_, rfl⟩
    have hP : va_P D vwCl (cMod Y oM mM_3 tk) H := by rw [emM_3]; exact hP
    replace hM := nm_at hM emM_3
    refine lv_aload_n hx hb dX5_isPath_24 rfl (lv_at hl 0 rfl) ?_
    refine lv_iload_n hx hb dX5_isPath_25 rfl (lv_at hl 1 rfl) ?_
    refine lv_aload_n hx hb dX5_isPath_26 rfl (lv_at hl 0 rfl) ?_
    refine va_get hx hb hts hi5 hown hK hP 0 rfl rfl 20 (by decide) (hts (.fieldLink RX5 140 "NightPlotsModel" "readPlots" "I") (List.mem_of_getElem? (i := 2) rfl)) (fun _ h9 => h9) rfl dX5_isPath_27 ?_
    refine lv_iconst (v := (1 : Int32)) hx hb dX5_isPath_30 (by decide) ?_
    refine lv_isub hx hb dX5_isPath_31 ?_
    obtain ⟨r4, mM_5, tk_6, hc7, hM⟩ := bnd3_at hM
    refine co_i (va_runV (As := [.int i1, .int ((mM_3 0 20) - (1 : Int32))]) (rest := []) ⟨hx, hb, hml, hown, hts⟩ (ctX5_areUnlike l D Y oM H.size mM_3 tk i1 ((mM_3 0 20) - (1 : Int32)) r4 mM_5 tk_6 hc7) (cwV 2 hts gX5_isPath_X5_areUnlike rfl rfl rfl (by decide +kernel) ⟨Nat.le_of_ble_eq_true rfl, Nat.le_of_ble_eq_true rfl⟩) (pcW_V0 (ci := 5) (q0 := 0) hK hP (hD.same rfl) rfl rfl) rfl rfl hl.1 rfl (lv_room (Nat.le_of_ble_eq_true rfl)) dX5_isPath_32 ⟨Nat.zero_le _, Nat.zero_le _⟩) (hD.same rfl) hS hA (fun H locs hP hS => ?_)
    obtain ⟨hz8, hM⟩ := chkB_at hM
    cases hM
    rw [hQQ]
    exact W.zret (ty := .boolean) hx hb hr hz8 (fun t ht hW => ⟨⟨_, (), rfl, rfl, by show va_P D vwCl _ t.heap; rw [ht]; exact hP⟩, hS.F ht⟩) hS.2.2 dX5_isPath_35
  · replace hM := if_at_pos hM c1
    refine lv_aload_n hx hb dX5_isPath_9 rfl (lv_at hl 0 rfl) ?_
    obtain ⟨r9, mM_10, hc11, hM⟩ := bnd2_at hM
    refine co_i (va_runV (As := []) (rest := []) ⟨hx, hb, hml, hown, hts⟩ (ctX5_fails l D Y oM H.size mM tk r9 mM_10 hc11) (cwV 0 hts gX5_isPath_X5_fails rfl rfl rfl (by decide +kernel) ⟨Nat.le_of_ble_eq_true rfl, Nat.le_of_ble_eq_true rfl⟩) (pcW_V0 (ci := 5) (q0 := 0) hK hP (hD.same rfl) rfl rfl) rfl rfl hl.1 rfl (lv_room (Nat.le_of_ble_eq_true rfl)) dX5_isPath_10 ⟨Nat.zero_le _, Nat.zero_le _⟩) (hD.same rfl) hS hA (fun H locs hP hS => ?_)
    obtain ⟨hz12, hM⟩ := chkB_at hM
    cases hM
    rw [hQQ]
    exact W.zret (ty := .boolean) hx hb hr hz12 (fun t ht hW => ⟨⟨_, (), rfl, rfl, by show va_P D vwCl _ t.heap; rw [ht]; exact hP⟩, hS.F ht⟩) hS.2.2 dX5_isPath_13
noncomputable def MX5_isFeud (mM : GS) (tk : Int64) (i1 : Int32) : Option (Int32 × GS × Int64) := if (mM 0 24) = (6 : Int32) then (bnd2 (MX5_fails mM) fun (r9 : Int32) (mM_10 : GS) => chkB r9 (some (r9, mM_10, tk))) else (nm ((mM 0 24) + (1 : Int32)) fun (x2 : Int32) => nm (up2 mM 0 24 x2) fun (mM_3 : GS) => bnd3 (MX5_areUnlike mM_3 tk i1 ((mM_3 0 21) - (1 : Int32))) fun (r4 : Int32) (mM_5 : GS) (tk_6 : Int64) => chkB r4 (some (r4, mM_5, tk_6)))
abbrev rmX5_isFeud : Room := { frames := 5, cells := 0, slots := 0, locals := 200 }
set_option maxHeartbeats 4000000 in
set_option maxRecDepth 100000 in
theorem ctX5_isFeud (l : Launch) (D : va_G) (Y : Nat → ClassId) (oM : Nat → Nat) (sz : Nat) (mM : GS) (tk : Int64) (i1 : Int32) (rr : Int32) (mMz : GS) (tkz : Int64) (hM : MX5_isFeud mM tk i1 = some (rr, mMz, tkz)) : Met l yX5_isFeud wsX5_isFeud rmX5_isFeud (pcW [.ref (oM 0), .int i1] sz D Y (cMod Y oM mM tk)) (qiW rr D (cMod Y oM mMz tkz) (va_A (cMod Y oM mM tk) sz)) 0 0 (va_A (cMod Y oM mM tk) sz) := by
  refine Met.ofW (cc := cX5_isFeud) (maxL := 2) (ret := (some .boolean)) (by decide) rfl ?_
  intro p e s m args below meth c s₁ B hml hv
  obtain ⟨rfl, hsz, hP, hK, hD0⟩ := hv
  have hx := B.exec
  have hb := B.bytes
  have hr := B.returns
  have hts := atoms_spec (ws := wsX5_isFeud) B.pre
  have hown : s.vm.findClass RX5 = some m.cls := findClass_of_methodNamed B.named
  have hlocks := B.notSynchronized
  subst hsz
  have hD := hD0.self (sz := s.heap.size)
  generalize hAe : va_A (cMod Y oM mM tk) s.heap.size = A at hD ⊢
  have hA : ∀ q : Nat, s.heap.size ≤ q → A q := fun q h => by rw [← hAe]; exact Or.inr h
  have hS : va_S A s.heap s.heap [] := va_S.rf
  have hi5 : ∀ w ∈ wsX50, w ∈ wsX5_isFeud := fun w h => List.mem_cons_of_mem _ (List.mem_append_right _ h)
  have hl := lv_entry ([.ref (oM 0), .int i1]) (n := 2) (Nat.le_of_ble_eq_true rfl)
  rw [lg_entry_eq]
  generalize (lg_sl ([.ref (oM 0), .int i1]) ++ List.replicate (2 - (lg_sl ([.ref (oM 0), .int i1])).length) Slot.unset).toArray = ls at hl ⊢
  have hl : lv_has ls 2 [(0, .ref (oM 0)), (1, .int i1)] := hl
  obtain ⟨QQ, hQQ⟩ : ∃ Q : State → Prop, Q = MQ below (qiW rr D (cMod Y oM mMz tkz) A) ([.ref (oM 0), .int i1] : List Value).toArray s 0 0 A := ⟨_, rfl⟩
  rw [← hQQ]
  unfold MX5_isFeud at hM
  suffices hI : ∀ (H : Heap) (locs : List Loc), va_P D vwCl (cMod Y oM mM tk) H → va_S A s.heap H locs → W p l e (headSpec wsX5_isFeud rmX5_isFeud).room s m ([.ref (oM 0), .int i1] : List Value).toArray below meth c H locs 0 0 QQ (F0 m 0 ls []) from hI _ _ hP hS
  clear hP hS
  intro H locs hP hS
  refine lv_aload_n hx hb dX5_isFeud_0 rfl (lv_at hl 0 rfl) ?_
  refine va_get hx hb hts hi5 hown hK hP 0 rfl rfl 24 (by decide) (hts (.fieldLink RX5 152 "NightPlotsModel" "readFeuds" "I") (List.mem_of_getElem? (i := 1) rfl)) (fun _ h9 => h9) rfl dX5_isFeud_1 ?_
  refine lv_bipush (v := (6 : Int32)) hx hb dX5_isFeud_4 (by decide) ?_
  refine lv_icmp_ne (tgt := 14) hx hb dX5_isFeud_6 (by decide) (fun c1 => ?_) (fun c1 => ?_)
  · replace hM := if_at_neg hM c1
    refine lv_aload_n hx hb dX5_isFeud_14 rfl (lv_at hl 0 rfl) ?_
    refine lv_dup hx hb dX5_isFeud_15 rfl ?_
    refine va_get hx hb hts hi5 hown hK hP 0 rfl rfl 24 (by decide) (hts (.fieldLink RX5 152 "NightPlotsModel" "readFeuds" "I") (List.mem_of_getElem? (i := 1) rfl)) (fun _ h9 => h9) rfl dX5_isFeud_16 ?_
    refine lv_iconst (v := (1 : Int32)) hx hb dX5_isFeud_19 (by decide) ?_
    refine lv_iadd hx hb dX5_isFeud_20 ?_
    refine lv_topi (fun x2 ex2 => ?_)
    replace hM := nm_at hM ex2
    refine va_put (ty := .int) hx hb hts hi5 tyX5 tyX5_ok nmX5 hown hK hP (hD.same rfl) hS 0 rfl rfl 24 (by decide) (hts (.fieldLink RX5 152 "NightPlotsModel" "readFeuds" "I") (List.mem_of_getElem? (i := 1) rfl)) (fun _ h9 => h9) rfl (by decide +kernel) rfl rfl (Nat.le_of_ble_eq_true rfl) dX5_isFeud_21 (fun H locs hP _ hS => ?_)
    obtain ⟨mM_3, emM_3⟩ : ∃ z : GS, z = (up2 mM 0 24 x2) := ⟨_, rfl⟩
    have hP : va_P D vwCl (cMod Y oM mM_3 tk) H := by rw [emM_3]; exact hP
    replace hM := nm_at hM emM_3
    refine lv_aload_n hx hb dX5_isFeud_24 rfl (lv_at hl 0 rfl) ?_
    refine lv_iload_n hx hb dX5_isFeud_25 rfl (lv_at hl 1 rfl) ?_
    refine lv_aload_n hx hb dX5_isFeud_26 rfl (lv_at hl 0 rfl) ?_
    refine va_get hx hb hts hi5 hown hK hP 0 rfl rfl 21 (by decide) (hts (.fieldLink RX5 143 "NightPlotsModel" "readHouses" "I") (List.mem_of_getElem? (i := 2) rfl)) (fun _ h9 => h9) rfl dX5_isFeud_27 ?_
    refine lv_iconst (v := (1 : Int32)) hx hb dX5_isFeud_30 (by decide) ?_
    refine lv_isub hx hb dX5_isFeud_31 ?_
    obtain ⟨r4, mM_5, tk_6, hc7, hM⟩ := bnd3_at hM
    refine co_i (va_runV (As := [.int i1, .int ((mM_3 0 21) - (1 : Int32))]) (rest := []) ⟨hx, hb, hml, hown, hts⟩ (ctX5_areUnlike l D Y oM H.size mM_3 tk i1 ((mM_3 0 21) - (1 : Int32)) r4 mM_5 tk_6 hc7) (cwV 2 hts gX5_isFeud_X5_areUnlike rfl rfl rfl (by decide +kernel) ⟨Nat.le_of_ble_eq_true rfl, Nat.le_of_ble_eq_true rfl⟩) (pcW_V0 (ci := 5) (q0 := 0) hK hP (hD.same rfl) rfl rfl) rfl rfl hl.1 rfl (lv_room (Nat.le_of_ble_eq_true rfl)) dX5_isFeud_32 ⟨Nat.zero_le _, Nat.zero_le _⟩) (hD.same rfl) hS hA (fun H locs hP hS => ?_)
    obtain ⟨hz8, hM⟩ := chkB_at hM
    cases hM
    rw [hQQ]
    exact W.zret (ty := .boolean) hx hb hr hz8 (fun t ht hW => ⟨⟨_, (), rfl, rfl, by show va_P D vwCl _ t.heap; rw [ht]; exact hP⟩, hS.F ht⟩) hS.2.2 dX5_isFeud_35
  · replace hM := if_at_pos hM c1
    refine lv_aload_n hx hb dX5_isFeud_9 rfl (lv_at hl 0 rfl) ?_
    obtain ⟨r9, mM_10, hc11, hM⟩ := bnd2_at hM
    refine co_i (va_runV (As := []) (rest := []) ⟨hx, hb, hml, hown, hts⟩ (ctX5_fails l D Y oM H.size mM tk r9 mM_10 hc11) (cwV 0 hts gX5_isFeud_X5_fails rfl rfl rfl (by decide +kernel) ⟨Nat.le_of_ble_eq_true rfl, Nat.le_of_ble_eq_true rfl⟩) (pcW_V0 (ci := 5) (q0 := 0) hK hP (hD.same rfl) rfl rfl) rfl rfl hl.1 rfl (lv_room (Nat.le_of_ble_eq_true rfl)) dX5_isFeud_10 ⟨Nat.zero_le _, Nat.zero_le _⟩) (hD.same rfl) hS hA (fun H locs hP hS => ?_)
    obtain ⟨hz12, hM⟩ := chkB_at hM
    cases hM
    rw [hQQ]
    exact W.zret (ty := .boolean) hx hb hr hz12 (fun t ht hW => ⟨⟨_, (), rfl, rfl, by show va_P D vwCl _ t.heap; rw [ht]; exact hP⟩, hS.F ht⟩) hS.2.2 dX5_isFeud_13
