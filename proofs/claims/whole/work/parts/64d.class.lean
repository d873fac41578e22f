noncomputable def BX4_brings_37 (i2 : Int32) (k12 : Int32 → GS → (Nat → Int32) → Option (Int32 × GS × (Nat → Int32))) (tT : GS) (i1 : Int32) (rec17 : Int32 → Int32 → GS → (Nat → Int32) → Option (Int32 × GS × (Nat → Int32))) (x13 : Int32) (x14 : Int32) (gA_15 : GS) (fA_16 : Nat → Int32) : Option (Int32 × GS × (Nat → Int32)) := if i2 ≤ x14 then (k12 x13 gA_15 fA_16) else (bnd1 (MX1_cropUnder gA_15 tT i1) fun (r19 : Int32) => nm (x13 + r19) fun (x21 : Int32) => bnd2 (MX1_passNight gA_15 fA_16 tT (tT 0 4)) fun (gS_22 : GS) (fW_23 : Nat → Int32) => nm (x14 + 1) fun (x25 : Int32) => rec17 x21 x25 gS_22 fW_23)
noncomputable def MX4_brings (tT : GS) (gN : GS) (gA : GS) (fA : Nat → Int32) (i1 : Int32) (i2 : Int32) : Option (Int32 × GS × (Nat → Int32)) := bnd1 (MX4_isHouse tT i1) fun (r1 : Int32) => if r1 = 0 then (some ((-2 : Int32), gA, fA)) else (bnd1 (MX4_areDays i2) fun (r4 : Int32) => if r4 = 0 then (some ((-3 : Int32), gA, fA)) else (bnd1 (MX1_copyFrom gA gN) fun (gS_7 : GS) => jn3 (fun (x9 : Int32) (gA_10 : GS) (fA_11 : Nat → Int32) => some (x9, gA_10, fA_11)) (fun k12 => lq4 (BX4_brings_37 i2 k12 tT i1) FU (0 : Int32) (0 : Int32) gS_7 fA)))
abbrev rmX4_brings : Room := { frames := 6, cells := 0, slots := 0, locals := 240 }
set_option maxHeartbeats 4000000 in
set_option maxRecDepth 100000 in
theorem ctX4_brings (l : Launch) (D : va_G) (Y : Nat → ClassId) (nN : Nat → Nat) (hT : Nat → Nat) (aN : Nat → Nat) (aA : Nat → Nat) (vA : Nat) (uD : Nat) (uX : Nat) (uZ : Nat) (uW : Nat) (uP : Nat) (uK : Nat) (uL : Nat) (vN : Nat) (sz : Nat) (nS : GS) (tT : GS) (gN : GS) (gA : GS) (fA : Nat → Int32) (i1 : Int32) (i2 : Int32) (rr : Int32) (gAz : GS) (fAz : Nat → Int32) (hM : MX4_brings tT gN gA fA i1 i2 = some (rr, gAz, fAz)) : Met l yX4_brings wsX4_brings rmX4_brings (pcW [.ref (nN 0), .int i1, .int i2] sz D Y (cMain Y nN (hT 0) uD uX (aN 0) (aA 0) uZ uW uP uK uL nS ++ cTold Y hT tT ++ cStand Y aN (hT 0) vN gN ++ cStand Y aA (hT 0) vA gA ++ cRow Y vA 8 fA)) (qiW rr D (cMain Y nN (hT 0) uD uX (aN 0) (aA 0) uZ uW uP uK uL nS ++ cTold Y hT tT ++ cStand Y aN (hT 0) vN gN ++ cStand Y aA (hT 0) vA gAz ++ cRow Y vA 8 fAz) (va_A (cMain Y nN (hT 0) uD uX (aN 0) (aA 0) uZ uW uP uK uL nS ++ cTold Y hT tT ++ cStand Y aN (hT 0) vN gN ++ cStand Y aA (hT 0) vA gA ++ cRow Y vA 8 fA) sz)) 0 0 (va_A (cMain Y nN (hT 0) uD uX (aN 0) (aA 0) uZ uW uP uK uL nS ++ cTold Y hT tT ++ cStand Y aN (hT 0) vN gN ++ cStand Y aA (hT 0) vA gA ++ cRow Y vA 8 fA) sz) := by
  refine Met.ofW (cc := cX4_brings) (maxL := 5) (ret := (some .int)) (by decide) rfl ?_
  intro p e s m args below meth c s₁ B hml hv
  obtain ⟨rfl, hsz, hP, hK, hD0⟩ := hv
  have hx := B.exec
  have hb := B.bytes
  have hr := B.returns
  have hts := atoms_spec (ws := wsX4_brings) B.pre
  have hown : s.vm.findClass RX4 = some m.cls := findClass_of_methodNamed B.named
  have hlocks := B.notSynchronized
  subst hsz
  have hD := hD0.self (sz := s.heap.size)
  generalize hAe : va_A (cMain Y nN (hT 0) uD uX (aN 0) (aA 0) uZ uW uP uK uL nS ++ cTold Y hT tT ++ cStand Y aN (hT 0) vN gN ++ cStand Y aA (hT 0) vA gA ++ cRow Y vA 8 fA) s.heap.size = A at hD ⊢
  have hA : ∀ q : Nat, s.heap.size ≤ q → A q := fun q h => by rw [← hAe]; exact Or.inr h
  have hS : va_S A s.heap s.heap [] := va_S.rf
  have hi3 : ∀ w ∈ wsX30, w ∈ wsX4_brings := fun w h => List.mem_cons_of_mem _ (List.mem_append_left _ (List.mem_append_right _ h))
  have hi4 : ∀ w ∈ wsX40, w ∈ wsX4_brings := fun w h => List.mem_cons_of_mem _ (List.mem_append_left _ (List.mem_append_left _ (List.mem_append_right _ h)))
  have hl := lv_entry ([.ref (nN 0), .int i1, .int i2]) (n := 5) (Nat.le_of_ble_eq_true rfl)
  rw [lg_entry_eq]
  generalize (lg_sl ([.ref (nN 0), .int i1, .int i2]) ++ List.replicate (5 - (lg_sl ([.ref (nN 0), .int i1, .int i2])).length) Slot.unset).toArray = ls at hl ⊢
  have hl : lv_has ls 5 [(0, .ref (nN 0)), (1, .int i1), (2, .int i2)] := hl
  obtain ⟨QQ, hQQ⟩ : ∃ Q : State → Prop, Q = MQ below (qiW rr D (cMain Y nN (hT 0) uD uX (aN 0) (aA 0) uZ uW uP uK uL nS ++ cTold Y hT tT ++ cStand Y aN (hT 0) vN gN ++ cStand Y aA (hT 0) vA gAz ++ cRow Y vA 8 fAz) A) ([.ref (nN 0), .int i1, .int i2] : List Value).toArray s 0 0 A := ⟨_, rfl⟩
  rw [← hQQ]
  unfold MX4_brings at hM
  suffices hI : ∀ (H : Heap) (locs : List Loc), va_P D vwCl (cMain Y nN (hT 0) uD uX (aN 0) (aA 0) uZ uW uP uK uL nS ++ cTold Y hT tT ++ cStand Y aN (hT 0) vN gN ++ cStand Y aA (hT 0) vA gA ++ cRow Y vA 8 fA) H → va_S A s.heap H locs → W p l e (headSpec wsX4_brings rmX4_brings).room s m ([.ref (nN 0), .int i1, .int i2] : List Value).toArray below meth c H locs 0 0 QQ (F0 m 0 ls []) from hI _ _ hP hS
  clear hP hS
  intro H locs hP hS
  refine lv_aload_n hx hb dX4_brings_0 rfl (lv_at hl 0 rfl) ?_
  refine lv_iload_n hx hb dX4_brings_1 rfl (lv_at hl 1 rfl) ?_
  obtain ⟨r1, hc2, hM⟩ := bnd1_at hM
  refine cm_i (w2 := (cMain Y nN (hT 0) uD uX (aN 0) (aA 0) uZ uW uP uK uL nS ++ cTold Y hT tT ++ cStand Y aN (hT 0) vN gN ++ cStand Y aA (hT 0) vA gA ++ cRow Y vA 8 fA)) (va_runV (As := [.int i1]) (rest := []) ⟨hx, hb, hml, hown, hts⟩ (ctX4_isHouse l D Y nN hT uD uX (aN 0) (aA 0) uZ uW uP uK uL H.size nS tT i1 r1 hc2) (cwV 1 hts gX4_brings_X4_isHouse rfl rfl rfl (by decide +kernel) ⟨Nat.le_of_ble_eq_true rfl, Nat.le_of_ble_eq_true rfl⟩) (pcW_V (ci := 4) (q0 := 0) hK hP (hD.same rfl) [0, 1, 2, 3, 4, 5, 6, 7, 8, 9, 10, 11, 12, 13] rfl (pc_map (pc_cons rfl (pc_cons rfl (pc_cons rfl (pc_cons rfl (pc_cons rfl (pc_cons rfl (pc_cons rfl (pc_cons rfl (pc_cons rfl (pc_cons rfl (pc_cons rfl (pc_cons rfl (pc_cons rfl (pc_cons rfl pc_nil))))))))))))))) rfl rfl) rfl rfl hl.1 rfl (lv_room (Nat.le_of_ble_eq_true rfl)) dX4_brings_2 ⟨Nat.zero_le _, Nat.zero_le _⟩) hP (hD.same rfl) hS hA [0, 1, 2, 3, 4, 5, 6, 7, 8, 9, 10, 11, 12, 13] (pc_map (pc_cons rfl (pc_cons rfl (pc_cons rfl (pc_cons rfl (pc_cons rfl (pc_cons rfl (pc_cons rfl (pc_cons rfl (pc_cons rfl (pc_cons rfl (pc_cons rfl (pc_cons rfl (pc_cons rfl (pc_cons rfl pc_nil))))))))))))))) (up_new 0 rfl (up_new 1 rfl (up_new 2 rfl (up_new 3 rfl (up_new 4 rfl (up_new 5 rfl (up_new 6 rfl (up_new 7 rfl (up_new 8 rfl (up_new 9 rfl (up_new 10 rfl (up_new 11 rfl (up_new 12 rfl (up_new 13 rfl (up_old rfl rfl (up_old rfl rfl (up_old rfl rfl (up_old rfl rfl (up_old rfl rfl (up_old rfl rfl (up_old rfl rfl up_nil))))))))))))))))))))) (fun H locs hP hS => ?_)
  refine lv_if_ne (tgt := 11) hx hb dX4_brings_5 (by decide) (fun c3 => ?_) (fun c3 => ?_)
  · replace hM := if_at_neg hM c3
    refine lv_iload_n hx hb dX4_brings_11 rfl (lv_at hl 2 rfl) ?_
    obtain ⟨r4, hc5, hM⟩ := bnd1_at hM
    refine cm_i (w2 := (cMain Y nN (hT 0) uD uX (aN 0) (aA 0) uZ uW uP uK uL nS ++ cTold Y hT tT ++ cStand Y aN (hT 0) vN gN ++ cStand Y aA (hT 0) vA gA ++ cRow Y vA 8 fA)) (va_runS (As := [.int i2]) (rest := []) ⟨hx, hb, hml, hown, hts⟩ (ctX4_areDays l D Y H.size i2 r4 hc5) (cwS 1 hts gX4_brings_X4_areDays rfl rfl rfl (by decide +kernel) ⟨Nat.le_of_ble_eq_true rfl, Nat.le_of_ble_eq_true rfl⟩) (pcW_S hK hP (hD.same rfl) [] rfl (pc_map pc_nil)) rfl rfl hl.1 rfl (lv_room (Nat.le_of_ble_eq_true rfl)) dX4_brings_12 ⟨Nat.zero_le _, Nat.zero_le _⟩) hP (hD.same rfl) hS hA [] (pc_map pc_nil) (up_old rfl rfl (up_old rfl rfl (up_old rfl rfl (up_old rfl rfl (up_old rfl rfl (up_old rfl rfl (up_old rfl rfl (up_old rfl rfl (up_old rfl rfl (up_old rfl rfl (up_old rfl rfl (up_old rfl rfl (up_old rfl rfl (up_old rfl rfl (up_old rfl rfl (up_old rfl rfl (up_old rfl rfl (up_old rfl rfl (up_old rfl rfl (up_old rfl rfl (up_old rfl rfl up_nil))))))))))))))))))))) (fun H locs hP hS => ?_)
    refine lv_if_ne (tgt := 21) hx hb dX4_brings_15 (by decide) (fun c6 => ?_) (fun c6 => ?_)
    · replace hM := if_at_neg hM c6
      refine lv_iconst (v := (0 : Int32)) hx hb dX4_brings_21 (by decide) ?_
      refine lv_istore_n (lv' := [(3, .int (0 : Int32)), (0, .ref (nN 0)), (1, .int i1), (2, .int i2)]) hx hb dX4_brings_22 rfl hl (by decide) rfl (fun ls hl => ?_)
      refine lv_aload_n hx hb dX4_brings_23 rfl (lv_at hl 1 rfl) ?_
      refine va_get hx hb hts hi4 hown hK hP 0 rfl rfl 4 (by decide) (hts (.fieldLink RX4 35 "NightPlots" "ahead" "LNightPlots$Standing;") (List.mem_of_getElem? (i := 1) rfl)) (fun _ h9 => h9) rfl dX4_brings_24 ?_
      refine lv_aload_n hx hb dX4_brings_27 rfl (lv_at hl 1 rfl) ?_
      refine va_get hx hb hts hi4 hown hK hP 0 rfl rfl 3 (by decide) (hts (.fieldLink RX4 31 "NightPlots" "now" "LNightPlots$Standing;") (List.mem_of_getElem? (i := 2) rfl)) (fun _ h9 => h9) rfl dX4_brings_28 ?_
      obtain ⟨gS_7, hc8, hM⟩ := bnd1_at hM
      refine cm_v (w2 := (cMain Y nN (hT 0) uD uX (aN 0) (aA 0) uZ uW uP uK uL nS ++ cTold Y hT tT ++ cStand Y aN (hT 0) vN gN ++ cStand Y aA (hT 0) vA gS_7 ++ cRow Y vA 8 fA)) (va_runV (As := [.ref (aN 0)]) (rest := []) ⟨hx, hb, hml, hown, hts⟩ (ctX1_copyFrom l D Y aA aN (hT 0) vA (hT 0) vN H.size gA gN gS_7 hc8) (cwV 1 hts gX4_brings_X1_copyFrom rfl rfl rfl (by decide +kernel) ⟨Nat.le_of_ble_eq_true rfl, Nat.le_of_ble_eq_true rfl⟩) (pcW_V (ci := 1) (q0 := 17) hK hP (hD.same rfl) [17, 18, 19, 14, 15, 16] rfl (pc_map (pc_cons rfl (pc_cons rfl (pc_cons rfl (pc_cons rfl (pc_cons rfl (pc_cons rfl pc_nil))))))) rfl rfl) rfl rfl hl.1 rfl (lv_room (Nat.le_of_ble_eq_true rfl)) dX4_brings_31 ⟨Nat.zero_le _, Nat.zero_le _⟩) hP (hD.same rfl) hS hA [17, 18, 19, 14, 15, 16] (pc_map (pc_cons rfl (pc_cons rfl (pc_cons rfl (pc_cons rfl (pc_cons rfl (pc_cons rfl pc_nil))))))) (up_old rfl rfl (up_old rfl rfl (up_old rfl rfl (up_old rfl rfl (up_old rfl rfl (up_old rfl rfl (up_old rfl rfl (up_old rfl rfl (up_old rfl rfl (up_old rfl rfl (up_old rfl rfl (up_old rfl rfl (up_old rfl rfl (up_old rfl rfl (up_new 3 rfl (up_new 4 rfl (up_new 5 rfl (up_new 0 rfl (up_new 1 rfl (up_new 2 rfl (up_old rfl rfl up_nil))))))))))))))))))))) (fun H locs hP hS => ?_)
      refine lv_iconst (v := (0 : Int32)) hx hb dX4_brings_34 (by decide) ?_
      refine lv_istore (lv' := [(4, .int (0 : Int32)), (3, .int (0 : Int32)), (0, .ref (nN 0)), (1, .int i1), (2, .int i2)]) hx hb dX4_brings_35 hl (by decide) rfl (fun ls hl => ?_)
      refine jn3_at (fun (x9 : Int32) (gA_10 : GS) (fA_11 : Nat → Int32) => ∀ (H : Heap) (locs : List Loc) (ls : Array Slot), va_P D vwCl (cMain Y nN (hT 0) uD uX (aN 0) (aA 0) uZ uW uP uK uL nS ++ cTold Y hT tT ++ cStand Y aN (hT 0) vN gN ++ cStand Y aA (hT 0) vA gA_10 ++ cRow Y vA 8 fA_11) H → va_S A s.heap H locs → lv_has ls 5 [(3, .int x9)] → W p l e (headSpec wsX4_brings rmX4_brings).room s m ([.ref (nN 0), .int i1, .int i2] : List Value).toArray below meth c H locs 0 0 QQ (F0 m 74 ls [])) hM (fun x9 gA_10 fA_11 hM H locs ls hP hS hl => ?_) (fun k12 hJ12 hM => ?_)
      · refine lv_iload_n hx hb dX4_brings_74 rfl (lv_at hl 0 rfl) ?_
        cases hM
        rw [hQQ]
        exact W.iret hx hb hr (fun t ht hW => ⟨⟨_, (), rfl, rfl, by show va_P D vwCl _ t.heap; rw [ht]; exact hP⟩, hS.F ht⟩) hS.2.2 dX4_brings_75
      · refine lq4_at (fun (x13 : Int32) (x14 : Int32) (gA_15 : GS) (fA_16 : Nat → Int32) => ∀ (H : Heap) (locs : List Loc) (ls : Array Slot), va_P D vwCl (cMain Y nN (hT 0) uD uX (aN 0) (aA 0) uZ uW uP uK uL nS ++ cTold Y hT tT ++ cStand Y aN (hT 0) vN gN ++ cStand Y aA (hT 0) vA gA_15 ++ cRow Y vA 8 fA_16) H → va_S A s.heap H locs → lv_has ls 5 [(0, .ref (nN 0)), (1, .int i1), (2, .int i2), (3, .int x13), (4, .int x14)] → W p l e (headSpec wsX4_brings rmX4_brings).room s m ([.ref (nN 0), .int i1, .int i2] : List Value).toArray below meth c H locs 0 0 QQ (F0 m 37 ls [])) (fun rec17 x13 x14 gA_15 fA_16 ih17 hM H locs ls hP hS hl => ?_) FU (0 : Int32) (0 : Int32) gS_7 fA hM H locs ls hP hS (lv_sub hl [2, 3, 4, 1, 0] rfl)
        unfold BX4_brings_37 at hM
        refine lv_iload hx hb dX4_brings_37 (lv_at hl 4 rfl) ?_
        refine lv_iload_n hx hb dX4_brings_39 rfl (lv_at hl 2 rfl) ?_
        refine lv_icmp_ge (tgt := 74) hx hb dX4_brings_40 (by decide) (fun c18 => ?_) (fun c18 => ?_)
        · replace hM := if_at_pos hM c18
          exact hJ12 x13 gA_15 fA_16 hM H locs ls hP hS (lv_sub hl [3] rfl)
        · replace hM := if_at_neg hM c18
          refine lv_iload_n hx hb dX4_brings_43 rfl (lv_at hl 3 rfl) ?_
          refine lv_aload_n hx hb dX4_brings_44 rfl (lv_at hl 0 rfl) ?_
          refine va_get hx hb hts hi4 hown hK hP 0 rfl rfl 4 (by decide) (hts (.fieldLink RX4 35 "NightPlots" "ahead" "LNightPlots$Standing;") (List.mem_of_getElem? (i := 1) rfl)) (fun _ h9 => h9) rfl dX4_brings_45 ?_
          refine lv_iload_n hx hb dX4_brings_48 rfl (lv_at hl 1 rfl) ?_
          obtain ⟨r19, hc20, hM⟩ := bnd1_at hM
          refine cm_i (w2 := (cMain Y nN (hT 0) uD uX (aN 0) (aA 0) uZ uW uP uK uL nS ++ cTold Y hT tT ++ cStand Y aN (hT 0) vN gN ++ cStand Y aA (hT 0) vA gA_15 ++ cRow Y vA 8 fA_16)) (va_runV (As := [.int i1]) (rest := [.int x13]) ⟨hx, hb, hml, hown, hts⟩ (ctX1_cropUnder l D Y aA hT vA H.size gA_15 tT i1 r19 hc20) (cwV 1 hts gX4_brings_X1_cropUnder rfl rfl rfl (by decide +kernel) ⟨Nat.le_of_ble_eq_true rfl, Nat.le_of_ble_eq_true rfl⟩) (pcW_V (ci := 1) (q0 := 17) hK hP (hD.same rfl) [17, 18, 19, 6, 7, 8, 9, 10, 11, 12, 13] rfl (pc_map (pc_cons rfl (pc_cons rfl (pc_cons rfl (pc_cons rfl (pc_cons rfl (pc_cons rfl (pc_cons rfl (pc_cons rfl (pc_cons rfl (pc_cons rfl (pc_cons rfl pc_nil)))))))))))) rfl rfl) rfl rfl hl.1 rfl (lv_room (Nat.le_of_ble_eq_true rfl)) dX4_brings_49 ⟨Nat.zero_le _, Nat.zero_le _⟩) hP (hD.same rfl) hS hA [17, 18, 19, 6, 7, 8, 9, 10, 11, 12, 13] (pc_map (pc_cons rfl (pc_cons rfl (pc_cons rfl (pc_cons rfl (pc_cons rfl (pc_cons rfl (pc_cons rfl (pc_cons rfl (pc_cons rfl (pc_cons rfl (pc_cons rfl pc_nil)))))))))))) (up_old rfl rfl (up_old rfl rfl (up_old rfl rfl (up_old rfl rfl (up_old rfl rfl (up_old rfl rfl (up_new 3 rfl (up_new 4 rfl (up_new 5 rfl (up_new 6 rfl (up_new 7 rfl (up_new 8 rfl (up_new 9 rfl (up_new 10 rfl (up_old rfl rfl (up_old rfl rfl (up_old rfl rfl (up_new 0 rfl (up_new 1 rfl (up_new 2 rfl (up_old rfl rfl up_nil))))))))))))))))))))) (fun H locs hP hS => ?_)
          refine lv_iadd hx hb dX4_brings_52 ?_
          refine lv_topi (fun x21 ex21 => ?_)
          replace hM := nm_at hM ex21
          refine lv_istore_n (lv' := [(3, .int x21), (0, .ref (nN 0)), (1, .int i1), (2, .int i2), (4, .int x14)]) hx hb dX4_brings_53 rfl hl (by decide) rfl (fun ls hl => ?_)
          refine lv_aload_n hx hb dX4_brings_54 rfl (lv_at hl 1 rfl) ?_
          refine va_get hx hb hts hi4 hown hK hP 0 rfl rfl 4 (by decide) (hts (.fieldLink RX4 35 "NightPlots" "ahead" "LNightPlots$Standing;") (List.mem_of_getElem? (i := 1) rfl)) (fun _ h9 => h9) rfl dX4_brings_55 ?_
          refine lv_aload_n hx hb dX4_brings_58 rfl (lv_at hl 1 rfl) ?_
          refine va_get hx hb hts hi4 hown hK hP 0 rfl rfl 0 (by decide) (hts (.fieldLink RX4 12 "NightPlots" "told" "LNightPlots$Told;") (List.mem_of_getElem? (i := 3) rfl)) (fun _ h9 => h9) rfl dX4_brings_59 ?_
          refine va_get hx hb hts hi3 hown hK hP 6 rfl rfl 4 (by decide) (hts (.fieldLink RX4 130 "NightPlots$Told" "law" "I") (List.mem_of_getElem? (i := 4) rfl)) (fun _ h9 => h9) rfl dX4_brings_62 ?_
          obtain ⟨gS_22, fW_23, hc24, hM⟩ := bnd2_at hM
          refine cm_v (w2 := (cMain Y nN (hT 0) uD uX (aN 0) (aA 0) uZ uW uP uK uL nS ++ cTold Y hT tT ++ cStand Y aN (hT 0) vN gN ++ cStand Y aA (hT 0) vA gS_22 ++ cRow Y vA 8 fW_23)) (va_runV (As := [.int (tT 0 4)]) (rest := []) ⟨hx, hb, hml, hown, hts⟩ (ctX1_passNight l D Y aA vA hT H.size gA_15 fA_16 tT (tT 0 4) gS_22 fW_23 hc24) (cwV 1 hts gX4_brings_X1_passNight rfl rfl rfl (by decide +kernel) ⟨Nat.le_of_ble_eq_true rfl, Nat.le_of_ble_eq_true rfl⟩) (pcW_V (ci := 1) (q0 := 17) hK hP (hD.same rfl) [17, 18, 19, 20, 6, 7, 8, 9, 10, 11, 12, 13] rfl (pc_map (pc_cons rfl (pc_cons rfl (pc_cons rfl (pc_cons rfl (pc_cons rfl (pc_cons rfl (pc_cons rfl (pc_cons rfl (pc_cons rfl (pc_cons rfl (pc_cons rfl (pc_cons rfl pc_nil))))))))))))) rfl rfl) rfl rfl hl.1 rfl (lv_room (Nat.le_of_ble_eq_true rfl)) dX4_brings_65 ⟨Nat.zero_le _, Nat.zero_le _⟩) hP (hD.same rfl) hS hA [17, 18, 19, 20, 6, 7, 8, 9, 10, 11, 12, 13] (pc_map (pc_cons rfl (pc_cons rfl (pc_cons rfl (pc_cons rfl (pc_cons rfl (pc_cons rfl (pc_cons rfl (pc_cons rfl (pc_cons rfl (pc_cons rfl (pc_cons rfl (pc_cons rfl pc_nil))))))))))))) (up_old rfl rfl (up_old rfl rfl (up_old rfl rfl (up_old rfl rfl (up_old rfl rfl (up_old rfl rfl (up_new 4 rfl (up_new 5 rfl (up_new 6 rfl (up_new 7 rfl (up_new 8 rfl (up_new 9 rfl (up_new 10 rfl (up_new 11 rfl (up_old rfl rfl (up_old rfl rfl (up_old rfl rfl (up_new 0 rfl (up_new 1 rfl (up_new 2 rfl (up_new 3 rfl up_nil))))))))))))))))))))) (fun H locs hP hS => ?_)
          obtain ⟨x25, ex25⟩ : ∃ z : Int32, z = (x14 + 1) := ⟨_, rfl⟩
          replace hM := nm_at hM ex25
          refine lv_iinc (v := x25) (lv' := [(4, .int x25), (3, .int x21), (0, .ref (nN 0)), (1, .int i1), (2, .int i2)]) hx hb dX4_brings_68 hl (k := 4) rfl (by rw [ex25]; rfl) (by decide) rfl (fun ls hl => ?_)
          refine lv_goto (tgt := 37) hx hb dX4_brings_71 (by decide) ?_
          exact ih17 x21 x25 gS_22 fW_23 hM H locs ls hP hS (lv_sub hl [2, 3, 4, 1, 0] rfl)
    · replace hM := if_at_pos hM c6
      refine lv_bipush (v := (-3 : Int32)) hx hb dX4_brings_18 (by decide) ?_
      cases hM
      rw [hQQ]
      exact W.iret hx hb hr (fun t ht hW => ⟨⟨_, (), rfl, rfl, by show va_P D vwCl _ t.heap; rw [ht]; exact hP⟩, hS.F ht⟩) hS.2.2 dX4_brings_20
  · replace hM := if_at_pos hM c3
    refine lv_bipush (v := (-2 : Int32)) hx hb dX4_brings_8 (by decide) ?_
    cases hM
    rw [hQQ]
    exact W.iret hx hb hr (fun t ht hW => ⟨⟨_, (), rfl, rfl, by show va_P D vwCl _ t.heap; rw [ht]; exact hP⟩, hS.F ht⟩) hS.2.2 dX4_brings_10
noncomputable def BX4_feuding_25 (i1 : Int32) (k9 : Int32 → GS → (Nat → Int32) → Option (Int32 × GS × (Nat → Int32))) (tT : GS) (rec14 : Int32 → Int32 → GS → (Nat → Int32) → Option (Int32 × GS × (Nat → Int32))) (x10 : Int32) (x11 : Int32) (gA_12 : GS) (fA_13 : Nat → Int32) : Option (Int32 × GS × (Nat → Int32)) := if i1 ≤ x11 then (k9 x10 gA_12 fA_13) else (bnd1 (MX1_hasFeudBeside gA_12 tT) fun (r16 : Int32) => jn1 (fun (x18 : Int32) => bnd2 (MX1_passNight gA_12 fA_13 tT (tT 0 4)) fun (gS_20 : GS) (fW_21 : Nat → Int32) => nm (x11 + 1) fun (x23 : Int32) => rec14 x18 x23 gS_20 fW_21) (fun k19 => if r16 = 0 then (k19 x10) else (nm (x10 + 1) fun (x25 : Int32) => k19 x25)))
noncomputable def MX4_feuding (tT : GS) (gN : GS) (gA : GS) (fA : Nat → Int32) (i1 : Int32) : Option (Int32 × GS × (Nat → Int32)) := bnd1 (MX4_areDays i1) fun (r1 : Int32) => if r1 = 0 then (some ((-3 : Int32), gA, fA)) else (bnd1 (MX1_copyFrom gA gN) fun (gS_4 : GS) => jn3 (fun (x6 : Int32) (gA_7 : GS) (fA_8 : Nat → Int32) => some (x6, gA_7, fA_8)) (fun k9 => lq4 (BX4_feuding_25 i1 k9 tT) FU (0 : Int32) (0 : Int32) gS_4 fA))
abbrev rmX4_feuding : Room := { frames := 6, cells := 0, slots := 0, locals := 240 }
set_option maxHeartbeats 4000000 in
set_option maxRecDepth 100000 in
theorem ctX4_feuding (l : Launch) (D : va_G) (Y : Nat → ClassId) (nN : Nat → Nat) (hT : Nat → Nat) (aN : Nat → Nat) (aA : Nat → Nat) (vA : Nat) (uD : Nat) (uX : Nat) (uZ : Nat) (uW : Nat) (uP : Nat) (uK : Nat) (uL : Nat) (vN : Nat) (sz : Nat) (nS : GS) (tT : GS) (gN : GS) (gA : GS) (fA : Nat → Int32) (i1 : Int32) (rr : Int32) (gAz : GS) (fAz : Nat → Int32) (hM : MX4_feuding tT gN gA fA i1 = some (rr, gAz, fAz)) : Met l yX4_feuding wsX4_feuding rmX4_feuding (pcW [.ref (nN 0), .int i1] sz D Y (cMain Y nN (hT 0) uD uX (aN 0) (aA 0) uZ uW uP uK uL nS ++ cTold Y hT tT ++ cStand Y aN (hT 0) vN gN ++ cStand Y aA (hT 0) vA gA ++ cRow Y vA 8 fA)) (qiW rr D (cMain Y nN (hT 0) uD uX (aN 0) (aA 0) uZ uW uP uK uL nS ++ cTold Y hT tT ++ cStand Y aN (hT 0) vN gN ++ cStand Y aA (hT 0) vA gAz ++ cRow Y vA 8 fAz) (va_A (cMain Y nN (hT 0) uD uX (aN 0) (aA 0) uZ uW uP uK uL nS ++ cTold Y hT tT ++ cStand Y aN (hT 0) vN gN ++ cStand Y aA (hT 0) vA gA ++ cRow Y vA 8 fA) sz)) 0 0 (va_A (cMain Y nN (hT 0) uD uX (aN 0) (aA 0) uZ uW uP uK uL nS ++ cTold Y hT tT ++ cStand Y aN (hT 0) vN gN ++ cStand Y aA (hT 0) vA gA ++ cRow Y vA 8 fA) sz) := by
  refine Met.ofW (cc := cX4_feuding) (maxL := 4) (ret := (some .int)) (by decide) rfl ?_
  intro p e s m args below meth c s₁ B hml hv
  obtain ⟨rfl, hsz, hP, hK, hD0⟩ := hv
  have hx := B.exec
  have hb := B.bytes
  have hr := B.returns
  have hts := atoms_spec (ws := wsX4_feuding) B.pre
  have hown : s.vm.findClass RX4 = some m.cls := findClass_of_methodNamed B.named
  have hlocks := B.notSynchronized
  subst hsz
  have hD := hD0.self (sz := s.heap.size)
  generalize hAe : va_A (cMain Y nN (hT 0) uD uX (aN 0) (aA 0) uZ uW uP uK uL nS ++ cTold Y hT tT ++ cStand Y aN (hT 0) vN gN ++ cStand Y aA (hT 0) vA gA ++ cRow Y vA 8 fA) s.heap.size = A at hD ⊢
  have hA : ∀ q : Nat, s.heap.size ≤ q → A q := fun q h => by rw [← hAe]; exact Or.inr h
  have hS : va_S A s.heap s.heap [] := va_S.rf
  have hi3 : ∀ w ∈ wsX30, w ∈ wsX4_feuding := fun w h => List.mem_cons_of_mem _ (List.mem_append_left _ (List.mem_append_right _ h))
  have hi4 : ∀ w ∈ wsX40, w ∈ wsX4_feuding := fun w h => List.mem_cons_of_mem _ (List.mem_append_left _ (List.mem_append_left _ (List.mem_append_right _ h)))
  have hl := lv_entry ([.ref (nN 0), .int i1]) (n := 4) (Nat.le_of_ble_eq_true rfl)
  rw [lg_entry_eq]
  generalize (lg_sl ([.ref (nN 0), .int i1]) ++ List.replicate (4 - (lg_sl ([.ref (nN 0), .int i1])).length) Slot.unset).toArray = ls at hl ⊢
  have hl : lv_has ls 4 [(0, .ref (nN 0)), (1, .int i1)] := hl
  obtain ⟨QQ, hQQ⟩ : ∃ Q : State → Prop, Q = MQ below (qiW rr D (cMain Y nN (hT 0) uD uX (aN 0) (aA 0) uZ uW uP uK uL nS ++ cTold Y hT tT ++ cStand Y aN (hT 0) vN gN ++ cStand Y aA (hT 0) vA gAz ++ cRow Y vA 8 fAz) A) ([.ref (nN 0), .int i1] : List Value).toArray s 0 0 A := ⟨_, rfl⟩
  rw [← hQQ]
  unfold MX4_feuding at hM
  suffices hI : ∀ (H : Heap) (locs : List Loc), va_P D vwCl (cMain Y nN (hT 0) uD uX (aN 0) (aA 0) uZ uW uP uK uL nS ++ cTold Y hT tT ++ cStand Y aN (hT 0) vN gN ++ cStand Y aA (hT 0) vA gA ++ cRow Y vA 8 fA) H → va_S A s.heap H locs → W p l e (headSpec wsX4_feuding rmX4_feuding).room s m ([.ref (nN 0), .int i1] : List Value).toArray below meth c H locs 0 0 QQ (F0 m 0 ls []) from hI _ _ hP hS
  clear hP hS
  intro H locs hP hS
  refine lv_iload_n hx hb dX4_feuding_0 rfl (lv_at hl 1 rfl) ?_
  obtain ⟨r1, hc2, hM⟩ := bnd1_at hM
  refine cm_i (w2 := (cMain Y nN (hT 0) uD uX (aN 0) (aA 0) uZ uW uP uK uL nS ++ cTold Y hT tT ++ cStand Y aN (hT 0) vN gN ++ cStand Y aA (hT 0) vA gA ++ cRow Y vA 8 fA)) (va_runS (As := [.int i1]) (rest := []) ⟨hx, hb, hml, hown, hts⟩ (ctX4_areDays l D Y H.size i1 r1 hc2) (cwS 1 hts gX4_feuding_X4_areDays rfl rfl rfl (by decide +kernel) ⟨Nat.le_of_ble_eq_true rfl, Nat.le_of_ble_eq_true rfl⟩) (pcW_S hK hP (hD.same rfl) [] rfl (pc_map pc_nil)) rfl rfl hl.1 rfl (lv_room (Nat.le_of_ble_eq_true rfl)) dX4_feuding_1 ⟨Nat.zero_le _, Nat.zero_le _⟩) hP (hD.same rfl) hS hA [] (pc_map pc_nil) (up_old rfl rfl (up_old rfl rfl (up_old rfl rfl (up_old rfl rfl (up_old rfl rfl (up_old rfl rfl (up_old rfl rfl (up_old rfl rfl (up_old rfl rfl (up_old rfl rfl (up_old rfl rfl (up_old rfl rfl (up_old rfl rfl (up_old rfl rfl (up_old rfl rfl (up_old rfl rfl (up_old rfl rfl (up_old rfl rfl (up_old rfl rfl (up_old rfl rfl (up_old rfl rfl up_nil))))))))))))))))))))) (fun H locs hP hS => ?_)
  refine lv_if_ne (tgt := 10) hx hb dX4_feuding_4 (by decide) (fun c3 => ?_) (fun c3 => ?_)
  · replace hM := if_at_neg hM c3
    refine lv_iconst (v := (0 : Int32)) hx hb dX4_feuding_10 (by decide) ?_
    refine lv_istore_n (lv' := [(2, .int (0 : Int32)), (0, .ref (nN 0)), (1, .int i1)]) hx hb dX4_feuding_11 rfl hl (by decide) rfl (fun ls hl => ?_)
    refine lv_aload_n hx hb dX4_feuding_12 rfl (lv_at hl 1 rfl) ?_
    refine va_get hx hb hts hi4 hown hK hP 0 rfl rfl 4 (by decide) (hts (.fieldLink RX4 35 "NightPlots" "ahead" "LNightPlots$Standing;") (List.mem_of_getElem? (i := 1) rfl)) (fun _ h9 => h9) rfl dX4_feuding_13 ?_
    refine lv_aload_n hx hb dX4_feuding_16 rfl (lv_at hl 1 rfl) ?_
    refine va_get hx hb hts hi4 hown hK hP 0 rfl rfl 3 (by decide) (hts (.fieldLink RX4 31 "NightPlots" "now" "LNightPlots$Standing;") (List.mem_of_getElem? (i := 2) rfl)) (fun _ h9 => h9) rfl dX4_feuding_17 ?_
    obtain ⟨gS_4, hc5, hM⟩ := bnd1_at hM
    refine cm_v (w2 := (cMain Y nN (hT 0) uD uX (aN 0) (aA 0) uZ uW uP uK uL nS ++ cTold Y hT tT ++ cStand Y aN (hT 0) vN gN ++ cStand Y aA (hT 0) vA gS_4 ++ cRow Y vA 8 fA)) (va_runV (As := [.ref (aN 0)]) (rest := []) ⟨hx, hb, hml, hown, hts⟩ (ctX1_copyFrom l D Y aA aN (hT 0) vA (hT 0) vN H.size gA gN gS_4 hc5) (cwV 1 hts gX4_feuding_X1_copyFrom rfl rfl rfl (by decide +kernel) ⟨Nat.le_of_ble_eq_true rfl, Nat.le_of_ble_eq_true rfl⟩) (pcW_V (ci := 1) (q0 := 17) hK hP (hD.same rfl) [17, 18, 19, 14, 15, 16] rfl (pc_map (pc_cons rfl (pc_cons rfl (pc_cons rfl (pc_cons rfl (pc_cons rfl (pc_cons rfl pc_nil))))))) rfl rfl) rfl rfl hl.1 rfl (lv_room (Nat.le_of_ble_eq_true rfl)) dX4_feuding_20 ⟨Nat.zero_le _, Nat.zero_le _⟩) hP (hD.same rfl) hS hA [17, 18, 19, 14, 15, 16] (pc_map (pc_cons rfl (pc_cons rfl (pc_cons rfl (pc_cons rfl (pc_cons rfl (pc_cons rfl pc_nil))))))) (up_old rfl rfl (up_old rfl rfl (up_old rfl rfl (up_old rfl rfl (up_old rfl rfl (up_old rfl rfl (up_old rfl rfl (up_old rfl rfl (up_old rfl rfl (up_old rfl rfl (up_old rfl rfl (up_old rfl rfl (up_old rfl rfl (up_old rfl rfl (up_new 3 rfl (up_new 4 rfl (up_new 5 rfl (up_new 0 rfl (up_new 1 rfl (up_new 2 rfl (up_old rfl rfl up_nil))))))))))))))))))))) (fun H locs hP hS => ?_)
    refine lv_iconst (v := (0 : Int32)) hx hb dX4_feuding_23 (by decide) ?_
    refine lv_istore_n (lv' := [(3, .int (0 : Int32)), (2, .int (0 : Int32)), (0, .ref (nN 0)), (1, .int i1)]) hx hb dX4_feuding_24 rfl hl (by decide) rfl (fun ls hl => ?_)
    refine jn3_at (fun (x6 : Int32) (gA_7 : GS) (fA_8 : Nat → Int32) => ∀ (H : Heap) (locs : List Loc) (ls : Array Slot), va_P D vwCl (cMain Y nN (hT 0) uD uX (aN 0) (aA 0) uZ uW uP uK uL nS ++ cTold Y hT tT ++ cStand Y aN (hT 0) vN gN ++ cStand Y aA (hT 0) vA gA_7 ++ cRow Y vA 8 fA_8) H → va_S A s.heap H locs → lv_has ls 4 [(2, .int x6)] → W p l e (headSpec wsX4_feuding rmX4_feuding).room s m ([.ref (nN 0), .int i1] : List Value).toArray below meth c H locs 0 0 QQ (F0 m 63 ls [])) hM (fun x6 gA_7 fA_8 hM H locs ls hP hS hl => ?_) (fun k9 hJ9 hM => ?_)
    · refine lv_iload_n hx hb dX4_feuding_63 rfl (lv_at hl 0 rfl) ?_
      cases hM
      rw [hQQ]
      exact W.iret hx hb hr (fun t ht hW => ⟨⟨_, (), rfl, rfl, by show va_P D vwCl _ t.heap; rw [ht]; exact hP⟩, hS.F ht⟩) hS.2.2 dX4_feuding_64
    · refine lq4_at (fun (x10 : Int32) (x11 : Int32) (gA_12 : GS) (fA_13 : Nat → Int32) => ∀ (H : Heap) (locs : List Loc) (ls : Array Slot), va_P D vwCl (cMain Y nN (hT 0) uD uX (aN 0) (aA 0) uZ uW uP uK uL nS ++ cTold Y hT tT ++ cStand Y aN (hT 0) vN gN ++ cStand Y aA (hT 0) vA gA_12 ++ cRow Y vA 8 fA_13) H → va_S A s.heap H locs → lv_has ls 4 [(0, .ref (nN 0)), (1, .int i1), (2, .int x10), (3, .int x11)] → W p l e (headSpec wsX4_feuding rmX4_feuding).room s m ([.ref (nN 0), .int i1] : List Value).toArray below meth c H locs 0 0 QQ (F0 m 25 ls [])) (fun rec14 x10 x11 gA_12 fA_13 ih14 hM H locs ls hP hS hl => ?_) FU (0 : Int32) (0 : Int32) gS_4 fA hM H locs ls hP hS (lv_sub hl [2, 3, 1, 0] rfl)
      unfold BX4_feuding_25 at hM
      refine lv_iload_n hx hb dX4_feuding_25 rfl (lv_at hl 3 rfl) ?_
      refine lv_iload_n hx hb dX4_feuding_26 rfl (lv_at hl 1 rfl) ?_
      refine lv_icmp_ge (tgt := 63) hx hb dX4_feuding_27 (by decide) (fun c15 => ?_) (fun c15 => ?_)
      · replace hM := if_at_pos hM c15
        exact hJ9 x10 gA_12 fA_13 hM H locs ls hP hS (lv_sub hl [2] rfl)
      · replace hM := if_at_neg hM c15
        refine lv_aload_n hx hb dX4_feuding_30 rfl (lv_at hl 0 rfl) ?_
        refine va_get hx hb hts hi4 hown hK hP 0 rfl rfl 4 (by decide) (hts (.fieldLink RX4 35 "NightPlots" "ahead" "LNightPlots$Standing;") (List.mem_of_getElem? (i := 1) rfl)) (fun _ h9 => h9) rfl dX4_feuding_31 ?_
        obtain ⟨r16, hc17, hM⟩ := bnd1_at hM
        refine cm_i (w2 := (cMain Y nN (hT 0) uD uX (aN 0) (aA 0) uZ uW uP uK uL nS ++ cTold Y hT tT ++ cStand Y aN (hT 0) vN gN ++ cStand Y aA (hT 0) vA gA_12 ++ cRow Y vA 8 fA_13)) (va_runV (As := []) (rest := []) ⟨hx, hb, hml, hown, hts⟩ (ctX1_hasFeudBeside l D Y aA hT vA H.size gA_12 tT r16 hc17) (cwV 0 hts gX4_feuding_X1_hasFeudBeside rfl rfl rfl (by decide +kernel) ⟨Nat.le_of_ble_eq_true rfl, Nat.le_of_ble_eq_true rfl⟩) (pcW_V (ci := 1) (q0 := 17) hK hP (hD.same rfl) [17, 18, 19, 6, 7, 8, 9, 10, 11, 12, 13] rfl (pc_map (pc_cons rfl (pc_cons rfl (pc_cons rfl (pc_cons rfl (pc_cons rfl (pc_cons rfl (pc_cons rfl (pc_cons rfl (pc_cons rfl (pc_cons rfl (pc_cons rfl pc_nil)))))))))))) rfl rfl) rfl rfl hl.1 rfl (lv_room (Nat.le_of_ble_eq_true rfl)) dX4_feuding_34 ⟨Nat.zero_le _, Nat.zero_le _⟩) hP (hD.same rfl) hS hA [17, 18, 19, 6, 7, 8, 9, 10, 11, 12, 13] (pc_map (pc_cons rfl (pc_cons rfl (pc_cons rfl (pc_cons rfl (pc_cons rfl (pc_cons rfl (pc_cons rfl (pc_cons rfl (pc_cons rfl (pc_cons rfl (pc_cons rfl pc_nil)))))))))))) (up_old rfl rfl (up_old rfl rfl (up_old rfl rfl (up_old rfl rfl (up_old rfl rfl (up_old rfl rfl (up_new 3 rfl (up_new 4 rfl (up_new 5 rfl (up_new 6 rfl (up_new 7 rfl (up_new 8 rfl (up_new 9 rfl (up_new 10 rfl (up_old rfl rfl (up_old rfl rfl (up_old rfl rfl (up_new 0 rfl (up_new 1 rfl (up_new 2 rfl (up_old rfl rfl up_nil))))))))))))))))))))) (fun H locs hP hS => ?_)
        refine jn1_at (fun (x18 : Int32) => ∀ (H : Heap) (locs : List Loc) (ls : Array Slot), va_P D vwCl (cMain Y nN (hT 0) uD uX (aN 0) (aA 0) uZ uW uP uK uL nS ++ cTold Y hT tT ++ cStand Y aN (hT 0) vN gN ++ cStand Y aA (hT 0) vA gA_12 ++ cRow Y vA 8 fA_13) H → va_S A s.heap H locs → lv_has ls 4 [(0, .ref (nN 0)), (1, .int i1), (2, .int x18), (3, .int x11)] → W p l e (headSpec wsX4_feuding rmX4_feuding).room s m ([.ref (nN 0), .int i1] : List Value).toArray below meth c H locs 0 0 QQ (F0 m 43 ls [])) hM (fun x18 hM H locs ls hP hS hl => ?_) (fun k19 hJ19 hM => ?_)
        · refine lv_aload_n hx hb dX4_feuding_43 rfl (lv_at hl 0 rfl) ?_
          refine va_get hx hb hts hi4 hown hK hP 0 rfl rfl 4 (by decide) (hts (.fieldLink RX4 35 "NightPlots" "ahead" "LNightPlots$Standing;") (List.mem_of_getElem? (i := 1) rfl)) (fun _ h9 => h9) rfl dX4_feuding_44 ?_
          refine lv_aload_n hx hb dX4_feuding_47 rfl (lv_at hl 0 rfl) ?_
          refine va_get hx hb hts hi4 hown hK hP 0 rfl rfl 0 (by decide) (hts (.fieldLink RX4 12 "NightPlots" "told" "LNightPlots$Told;") (List.mem_of_getElem? (i := 3) rfl)) (fun _ h9 => h9) rfl dX4_feuding_48 ?_
          refine va_get hx hb hts hi3 hown hK hP 6 rfl rfl 4 (by decide) (hts (.fieldLink RX4 130 "NightPlots$Told" "law" "I") (List.mem_of_getElem? (i := 4) rfl)) (fun _ h9 => h9) rfl dX4_feuding_51 ?_
          obtain ⟨gS_20, fW_21, hc22, hM⟩ := bnd2_at hM
          refine cm_v (w2 := (cMain Y nN (hT 0) uD uX (aN 0) (aA 0) uZ uW uP uK uL nS ++ cTold Y hT tT ++ cStand Y aN (hT 0) vN gN ++ cStand Y aA (hT 0) vA gS_20 ++ cRow Y vA 8 fW_21)) (va_runV (As := [.int (tT 0 4)]) (rest := []) ⟨hx, hb, hml, hown, hts⟩ (ctX1_passNight l D Y aA vA hT H.size gA_12 fA_13 tT (tT 0 4) gS_20 fW_21 hc22) (cwV 1 hts gX4_feuding_X1_passNight rfl rfl rfl (by decide +kernel) ⟨Nat.le_of_ble_eq_true rfl, Nat.le_of_ble_eq_true rfl⟩) (pcW_V (ci := 1) (q0 := 17) hK hP (hD.same rfl) [17, 18, 19, 20, 6, 7, 8, 9, 10, 11, 12, 13] rfl (pc_map (pc_cons rfl (pc_cons rfl (pc_cons rfl (pc_cons rfl (pc_cons rfl (pc_cons rfl (pc_cons rfl (pc_cons rfl (pc_cons rfl (pc_cons rfl (pc_cons rfl (pc_cons rfl pc_nil))))))))))))) rfl rfl) rfl rfl hl.1 rfl (lv_room (Nat.le_of_ble_eq_true rfl)) dX4_feuding_54 ⟨Nat.zero_le _, Nat.zero_le _⟩) hP (hD.same rfl) hS hA [17, 18, 19, 20, 6, 7, 8, 9, 10, 11, 12, 13] (pc_map (pc_cons rfl (pc_cons rfl (pc_cons rfl (pc_cons rfl (pc_cons rfl (pc_cons rfl (pc_cons rfl (pc_cons rfl (pc_cons rfl (pc_cons rfl (pc_cons rfl (pc_cons rfl pc_nil))))))))))))) (up_old rfl rfl (up_old rfl rfl (up_old rfl rfl (up_old rfl rfl (up_old rfl rfl (up_old rfl rfl (up_new 4 rfl (up_new 5 rfl (up_new 6 rfl (up_new 7 rfl (up_new 8 rfl (up_new 9 rfl (up_new 10 rfl (up_new 11 rfl (up_old rfl rfl (up_old rfl rfl (up_old rfl rfl (up_new 0 rfl (up_new 1 rfl (up_new 2 rfl (up_new 3 rfl up_nil))))))))))))))))))))) (fun H locs hP hS => ?_)
          obtain ⟨x23, ex23⟩ : ∃ z : Int32, z = (x11 + 1) := ⟨_, rfl⟩
          replace hM := nm_at hM ex23
          refine lv_iinc (v := x23) (lv' := [(3, .int x23), (0, .ref (nN 0)), (1, .int i1), (2, .int x18)]) hx hb dX4_feuding_57 hl (k := 3) rfl (by rw [ex23]; rfl) (by decide) rfl (fun ls hl => ?_)
          refine lv_goto (tgt := 25) hx hb dX4_feuding_60 (by decide) ?_
          exact ih14 x18 x23 gS_20 fW_21 hM H locs ls hP hS (lv_sub hl [1, 2, 3, 0] rfl)
        · refine lv_if_eq (tgt := 43) hx hb dX4_feuding_37 (by decide) (fun c24 => ?_) (fun c24 => ?_)
          · replace hM := if_at_pos hM c24
            exact hJ19 x10 hM H locs ls hP hS (lv_sub hl [0, 1, 2, 3] rfl)
          · replace hM := if_at_neg hM c24
            obtain ⟨x25, ex25⟩ : ∃ z : Int32, z = (x10 + 1) := ⟨_, rfl⟩
            replace hM := nm_at hM ex25
            refine lv_iinc (v := x25) (lv' := [(2, .int x25), (0, .ref (nN 0)), (1, .int i1), (3, .int x11)]) hx hb dX4_feuding_40 hl (k := 2) rfl (by rw [ex25]; rfl) (by decide) rfl (fun ls hl => ?_)
            exact hJ19 x25 hM H locs ls hP hS (lv_sub hl [1, 2, 0, 3] rfl)
  · replace hM := if_at_pos hM c3
    refine lv_bipush (v := (-3 : Int32)) hx hb dX4_feuding_7 (by decide) ?_
    cases hM
    rw [hQQ]
    exact W.iret hx hb hr (fun t ht hW => ⟨⟨_, (), rfl, rfl, by show va_P D vwCl _ t.heap; rw [ht]; exact hP⟩, hS.F ht⟩) hS.2.2 dX4_feuding_9
noncomputable def BX4_nearest_62 (k15 : GS → GS → (Nat → Int64) → Option (Int32 × GS × GS × (Nat → Int64))) (tT : GS) (k20 : Int32 → GS → GS → (Nat → Int64) → Option (Int32 × GS × GS × (Nat → Int64))) (rec28 : Int32 → GS → GS → (Nat → Int64) → Option (Int32 × GS × GS × (Nat → Int64))) (x24 : Int32) (gA_25 : GS) (zZ_26 : GS) (lZ_27 : Nat → Int64) : Option (Int32 × GS × GS × (Nat → Int64)) := if (5 : Int32) < x24 then (k15 gA_25 zZ_26 lZ_27) else (bnd4 (MX0_reaches zZ_26 lZ_27 gA_25 tT x24) fun (r30 : Int32) (zZ_31 : GS) (lZ_32 : Nat → Int64) (gS_33 : GS) => if r30 = 0 then (nm (x24 + 1) fun (x36 : Int32) => rec28 x36 gS_33 zZ_31 lZ_32) else (k20 x24 gS_33 zZ_31 lZ_32))
noncomputable def MX4_nearest (tT : GS) (gN : GS) (gA : GS) (zZ : GS) (lZ : Nat → Int64) (i1 : Int32) (i2 : Int32) (i3 : Int32) : Option (Int32 × GS × GS × (Nat → Int64)) := bnd1 (MX4_refusePair tT i1 i2 i3) fun (r1 : Int32) => if r1 = 0 then (bnd1 (MX1_areBeside gN tT i1 i2) fun (r4 : Int32) => if r4 = 0 then (bnd1 (MX1_copyFrom gA gN) fun (gS_7 : GS) => bnd2 (MX0_prepare zZ lZ i1 i2) fun (zZ_9 : GS) (lZ_10 : Nat → Int64) => jn3 (fun (gA_12 : GS) (zZ_13 : GS) (lZ_14 : Nat → Int64) => some ((-1 : Int32), gA_12, zZ_13, lZ_14)) (fun k15 => jn4 (fun (x16 : Int32) (gA_17 : GS) (zZ_18 : GS) (lZ_19 : Nat → Int64) => jn1 (fun (x21 : Int32) => some (x21, gA_17, zZ_18, lZ_19)) (fun k22 => if i3 = 0 then (k22 x16) else (k22 (zZ_18 0 5)))) (fun k20 => lq4 (BX4_nearest_62 k15 tT k20) FU (1 : Int32) gS_7 zZ_9 lZ_10))) else (jn1 (fun (x37 : Int32) => some (x37, gA, zZ, lZ)) (fun k38 => if i3 = 0 then (k38 (0 : Int32)) else (k38 (-1 : Int32))))) else (some (r1, gA, zZ, lZ))
abbrev rmX4_nearest : Room := { frames := 15, cells := 0, slots := 0, locals := 600 }
set_option maxHeartbeats 4000000 in
set_option maxRecDepth 100000 in
theorem ctX4_nearest (l : Launch) (D : va_G) (Y : Nat → ClassId) (nN : Nat → Nat) (hT : Nat → Nat) (aN : Nat → Nat) (aA : Nat → Nat) (zA : Nat → Nat) (uD : Nat) (uX : Nat) (uW : Nat) (uP : Nat) (uK : Nat) (uL : Nat) (vN : Nat) (vA : Nat) (sz : Nat) (nS : GS) (tT : GS) (gN : GS) (gA : GS) (zZ : GS) (lZ : Nat → Int64) (i1 : Int32) (i2 : Int32) (i3 : Int32) (rr : Int32) (gAz : GS) (zZz : GS) (lZz : Nat → Int64) (hM : MX4_nearest tT gN gA zZ lZ i1 i2 i3 = some (rr, gAz, zZz, lZz)) : Met l yX4_nearest wsX4_nearest rmX4_nearest (pcM [.ref (nN 0), .int i1, .int i2, .int i3] sz D Y (cMain Y nN (hT 0) uD uX (aN 0) (aA 0) (zA 0) uW uP uK uL nS ++ cTold Y hT tT ++ cStand Y aN (hT 0) vN gN ++ cStand Y aA (hT 0) vA gA ++ cSearch Y zA (aA 0) zZ lZ)) (qiW rr D (cMain Y nN (hT 0) uD uX (aN 0) (aA 0) (zA 0) uW uP uK uL nS ++ cTold Y hT tT ++ cStand Y aN (hT 0) vN gN ++ cStand Y aA (hT 0) vA gAz ++ cSearch Y zA (aA 0) zZz lZz) (va_A (cMain Y nN (hT 0) uD uX (aN 0) (aA 0) (zA 0) uW uP uK uL nS ++ cTold Y hT tT ++ cStand Y aN (hT 0) vN gN ++ cStand Y aA (hT 0) vA gA ++ cSearch Y zA (aA 0) zZ lZ) sz)) 0 0 (va_A (cMain Y nN (hT 0) uD uX (aN 0) (aA 0) (zA 0) uW uP uK uL nS ++ cTold Y hT tT ++ cStand Y aN (hT 0) vN gN ++ cStand Y aA (hT 0) vA gA ++ cSearch Y zA (aA 0) zZ lZ) sz) := by
  refine Met.ofW (cc := cX4_nearest) (maxL := 6) (ret := (some .int)) (by decide) rfl ?_
  intro p e s m args below meth c s₁ B hml hv
  obtain ⟨⟨rfl, hsz, hP, hK, hD0⟩, hNF, hNM⟩ := hv
  have hx := B.exec
  have hb := B.bytes
  have hr := B.returns
  have hts := atoms_spec (ws := wsX4_nearest) B.pre
  have hown : s.vm.findClass RX4 = some m.cls := findClass_of_methodNamed B.named
  have hlocks := B.notSynchronized
  subst hsz
  have hD := hD0.self (sz := s.heap.size)
  generalize hAe : va_A (cMain Y nN (hT 0) uD uX (aN 0) (aA 0) (zA 0) uW uP uK uL nS ++ cTold Y hT tT ++ cStand Y aN (hT 0) vN gN ++ cStand Y aA (hT 0) vA gA ++ cSearch Y zA (aA 0) zZ lZ) s.heap.size = A at hD ⊢
  have hA : ∀ q : Nat, s.heap.size ≤ q → A q := fun q h => by rw [← hAe]; exact Or.inr h
  have hS : va_S A s.heap s.heap [] := va_S.rf
  have hi0 : ∀ w ∈ wsX00, w ∈ wsX4_nearest := fun w h => List.mem_cons_of_mem _ (List.mem_append_left _ (List.mem_append_left _ (List.mem_append_right _ h)))
  have hi4 : ∀ w ∈ wsX40, w ∈ wsX4_nearest := fun w h => List.mem_cons_of_mem _ (List.mem_append_left _ (List.mem_append_left _ (List.mem_append_left _ (List.mem_append_right _ h))))
  have hl := lv_entry ([.ref (nN 0), .int i1, .int i2, .int i3]) (n := 6) (Nat.le_of_ble_eq_true rfl)
  rw [lg_entry_eq]
  generalize (lg_sl ([.ref (nN 0), .int i1, .int i2, .int i3]) ++ List.replicate (6 - (lg_sl ([.ref (nN 0), .int i1, .int i2, .int i3])).length) Slot.unset).toArray = ls at hl ⊢
  have hl : lv_has ls 6 [(0, .ref (nN 0)), (1, .int i1), (2, .int i2), (3, .int i3)] := hl
  obtain ⟨QQ, hQQ⟩ : ∃ Q : State → Prop, Q = MQ below (qiW rr D (cMain Y nN (hT 0) uD uX (aN 0) (aA 0) (zA 0) uW uP uK uL nS ++ cTold Y hT tT ++ cStand Y aN (hT 0) vN gN ++ cStand Y aA (hT 0) vA gAz ++ cSearch Y zA (aA 0) zZz lZz) A) ([.ref (nN 0), .int i1, .int i2, .int i3] : List Value).toArray s 0 0 A := ⟨_, rfl⟩
  rw [← hQQ]
  unfold MX4_nearest at hM
  suffices hI : ∀ (H : Heap) (locs : List Loc), va_P D vwCl (cMain Y nN (hT 0) uD uX (aN 0) (aA 0) (zA 0) uW uP uK uL nS ++ cTold Y hT tT ++ cStand Y aN (hT 0) vN gN ++ cStand Y aA (hT 0) vA gA ++ cSearch Y zA (aA 0) zZ lZ) H → va_S A s.heap H locs → W p l e (headSpec wsX4_nearest rmX4_nearest).room s m ([.ref (nN 0), .int i1, .int i2, .int i3] : List Value).toArray below meth c H locs 0 0 QQ (F0 m 0 ls []) from hI _ _ hP hS
  clear hP hS
  intro H locs hP hS
  refine lv_aload_n hx hb dX4_nearest_0 rfl (lv_at hl 0 rfl) ?_
  refine lv_iload_n hx hb dX4_nearest_1 rfl (lv_at hl 1 rfl) ?_
  refine lv_iload_n hx hb dX4_nearest_2 rfl (lv_at hl 2 rfl) ?_
  refine lv_iload_n hx hb dX4_nearest_3 rfl (lv_at hl 3 rfl) ?_
  obtain ⟨r1, hc2, hM⟩ := bnd1_at hM
  refine cm_i (w2 := (cMain Y nN (hT 0) uD uX (aN 0) (aA 0) (zA 0) uW uP uK uL nS ++ cTold Y hT tT ++ cStand Y aN (hT 0) vN gN ++ cStand Y aA (hT 0) vA gA ++ cSearch Y zA (aA 0) zZ lZ)) (va_runV (As := [.int i1, .int i2, .int i3]) (rest := []) ⟨hx, hb, hml, hown, hts⟩ (ctX4_refusePair l D Y nN hT uD uX (aN 0) (aA 0) (zA 0) uW uP uK uL H.size nS tT i1 i2 i3 r1 hc2) (cwV 3 hts gX4_nearest_X4_refusePair rfl rfl rfl (by decide +kernel) ⟨Nat.le_of_ble_eq_true rfl, Nat.le_of_ble_eq_true rfl⟩) (pcW_V (ci := 4) (q0 := 0) hK hP (hD.same rfl) [0, 1, 2, 3, 4, 5, 6, 7, 8, 9, 10, 11, 12, 13] rfl (pc_map (pc_cons rfl (pc_cons rfl (pc_cons rfl (pc_cons rfl (pc_cons rfl (pc_cons rfl (pc_cons rfl (pc_cons rfl (pc_cons rfl (pc_cons rfl (pc_cons rfl (pc_cons rfl (pc_cons rfl (pc_cons rfl pc_nil))))))))))))))) rfl rfl) rfl rfl hl.1 rfl (lv_room (Nat.le_of_ble_eq_true rfl)) dX4_nearest_4 ⟨Nat.zero_le _, Nat.zero_le _⟩) hP (hD.same rfl) hS hA [0, 1, 2, 3, 4, 5, 6, 7, 8, 9, 10, 11, 12, 13] (pc_map (pc_cons rfl (pc_cons rfl (pc_cons rfl (pc_cons rfl (pc_cons rfl (pc_cons rfl (pc_cons rfl (pc_cons rfl (pc_cons rfl (pc_cons rfl (pc_cons rfl (pc_cons rfl (pc_cons rfl (pc_cons rfl pc_nil))))))))))))))) (up_new 0 rfl (up_new 1 rfl (up_new 2 rfl (up_new 3 rfl (up_new 4 rfl (up_new 5 rfl (up_new 6 rfl (up_new 7 rfl (up_new 8 rfl (up_new 9 rfl (up_new 10 rfl (up_new 11 rfl (up_new 12 rfl (up_new 13 rfl (up_old rfl rfl (up_old rfl rfl (up_old rfl rfl (up_old rfl rfl (up_old rfl rfl (up_old rfl rfl (up_old rfl rfl (up_old rfl rfl (up_old rfl rfl (up_old rfl rfl (up_old rfl rfl (up_old rfl rfl (up_old rfl rfl (up_old rfl rfl (up_old rfl rfl up_nil))))))))))))))))))))))))))))) (fun H locs hP hS => ?_)
  refine lv_istore (lv' := [(4, .int r1), (0, .ref (nN 0)), (1, .int i1), (2, .int i2), (3, .int i3)]) hx hb dX4_nearest_7 hl (by decide) rfl (fun ls hl => ?_)
  refine lv_iload hx hb dX4_nearest_9 (lv_at hl 0 rfl) ?_
  refine lv_if_eq (tgt := 17) hx hb dX4_nearest_11 (by decide) (fun c3 => ?_) (fun c3 => ?_)
  · replace hM := if_at_pos hM c3
    refine lv_aload_n hx hb dX4_nearest_17 rfl (lv_at hl 1 rfl) ?_
    refine va_get hx hb hts hi4 hown hK hP 0 rfl rfl 3 (by decide) (hts (.fieldLink RX4 31 "NightPlots" "now" "LNightPlots$Standing;") (List.mem_of_getElem? (i := 1) rfl)) (fun _ h9 => h9) rfl dX4_nearest_18 ?_
    refine lv_iload_n hx hb dX4_nearest_21 rfl (lv_at hl 2 rfl) ?_
    refine lv_iload_n hx hb dX4_nearest_22 rfl (lv_at hl 3 rfl) ?_
    obtain ⟨r4, hc5, hM⟩ := bnd1_at hM
    refine cm_i (w2 := (cMain Y nN (hT 0) uD uX (aN 0) (aA 0) (zA 0) uW uP uK uL nS ++ cTold Y hT tT ++ cStand Y aN (hT 0) vN gN ++ cStand Y aA (hT 0) vA gA ++ cSearch Y zA (aA 0) zZ lZ)) (va_runV (As := [.int i1, .int i2]) (rest := []) ⟨hx, hb, hml, hown, hts⟩ (ctX1_areBeside l D Y aN hT vN H.size gN tT i1 i2 r4 hc5) (cwV 2 hts gX4_nearest_X1_areBeside rfl rfl rfl (by decide +kernel) ⟨Nat.le_of_ble_eq_true rfl, Nat.le_of_ble_eq_true rfl⟩) (pcW_V (ci := 1) (q0 := 14) hK hP (hD.same rfl) [14, 15, 16, 6, 7, 8, 9, 10, 11, 12, 13] rfl (pc_map (pc_cons rfl (pc_cons rfl (pc_cons rfl (pc_cons rfl (pc_cons rfl (pc_cons rfl (pc_cons rfl (pc_cons rfl (pc_cons rfl (pc_cons rfl (pc_cons rfl pc_nil)))))))))))) rfl rfl) rfl rfl hl.1 rfl (lv_room (Nat.le_of_ble_eq_true rfl)) dX4_nearest_23 ⟨Nat.zero_le _, Nat.zero_le _⟩) hP (hD.same rfl) hS hA [14, 15, 16, 6, 7, 8, 9, 10, 11, 12, 13] (pc_map (pc_cons rfl (pc_cons rfl (pc_cons rfl (pc_cons rfl (pc_cons rfl (pc_cons rfl (pc_cons rfl (pc_cons rfl (pc_cons rfl (pc_cons rfl (pc_cons rfl pc_nil)))))))))))) (up_old rfl rfl (up_old rfl rfl (up_old rfl rfl (up_old rfl rfl (up_old rfl rfl (up_old rfl rfl (up_new 3 rfl (up_new 4 rfl (up_new 5 rfl (up_new 6 rfl (up_new 7 rfl (up_new 8 rfl (up_new 9 rfl (up_new 10 rfl (up_new 0 rfl (up_new 1 rfl (up_new 2 rfl (up_old rfl rfl (up_old rfl rfl (up_old rfl rfl (up_old rfl rfl (up_old rfl rfl (up_old rfl rfl (up_old rfl rfl (up_old rfl rfl (up_old rfl rfl (up_old rfl rfl (up_old rfl rfl (up_old rfl rfl up_nil))))))))))))))))))))))))))))) (fun H locs hP hS => ?_)
    refine lv_if_eq (tgt := 39) hx hb dX4_nearest_26 (by decide) (fun c6 => ?_) (fun c6 => ?_)
    · replace hM := if_at_pos hM c6
      refine lv_aload_n hx hb dX4_nearest_39 rfl (lv_at hl 1 rfl) ?_
      refine va_get hx hb hts hi4 hown hK hP 0 rfl rfl 4 (by decide) (hts (.fieldLink RX4 35 "NightPlots" "ahead" "LNightPlots$Standing;") (List.mem_of_getElem? (i := 2) rfl)) (fun _ h9 => h9) rfl dX4_nearest_40 ?_
      refine lv_aload_n hx hb dX4_nearest_43 rfl (lv_at hl 1 rfl) ?_
      refine va_get hx hb hts hi4 hown hK hP 0 rfl rfl 3 (by decide) (hts (.fieldLink RX4 31 "NightPlots" "now" "LNightPlots$Standing;") (List.mem_of_getElem? (i := 1) rfl)) (fun _ h9 => h9) rfl dX4_nearest_44 ?_
      obtain ⟨gS_7, hc8, hM⟩ := bnd1_at hM
      refine cm_v (w2 := (cMain Y nN (hT 0) uD uX (aN 0) (aA 0) (zA 0) uW uP uK uL nS ++ cTold Y hT tT ++ cStand Y aN (hT 0) vN gN ++ cStand Y aA (hT 0) vA gS_7 ++ cSearch Y zA (aA 0) zZ lZ)) (va_runV (As := [.ref (aN 0)]) (rest := []) ⟨hx, hb, hml, hown, hts⟩ (ctX1_copyFrom l D Y aA aN (hT 0) vA (hT 0) vN H.size gA gN gS_7 hc8) (cwV 1 hts gX4_nearest_X1_copyFrom rfl rfl rfl (by decide +kernel) ⟨Nat.le_of_ble_eq_true rfl, Nat.le_of_ble_eq_true rfl⟩) (pcW_V (ci := 1) (q0 := 17) hK hP (hD.same rfl) [17, 18, 19, 14, 15, 16] rfl (pc_map (pc_cons rfl (pc_cons rfl (pc_cons rfl (pc_cons rfl (pc_cons rfl (pc_cons rfl pc_nil))))))) rfl rfl) rfl rfl hl.1 rfl (lv_room (Nat.le_of_ble_eq_true rfl)) dX4_nearest_47 ⟨Nat.zero_le _, Nat.zero_le _⟩) hP (hD.same rfl) hS hA [17, 18, 19, 14, 15, 16] (pc_map (pc_cons rfl (pc_cons rfl (pc_cons rfl (pc_cons rfl (pc_cons rfl (pc_cons rfl pc_nil))))))) (up_old rfl rfl (up_old rfl rfl (up_old rfl rfl (up_old rfl rfl (up_old rfl rfl (up_old rfl rfl (up_old rfl rfl (up_old rfl rfl (up_old rfl rfl (up_old rfl rfl (up_old rfl rfl (up_old rfl rfl (up_old rfl rfl (up_old rfl rfl (up_new 3 rfl (up_new 4 rfl (up_new 5 rfl (up_new 0 rfl (up_new 1 rfl (up_new 2 rfl (up_old rfl rfl (up_old rfl rfl (up_old rfl rfl (up_old rfl rfl (up_old rfl rfl (up_old rfl rfl (up_old rfl rfl (up_old rfl rfl (up_old rfl rfl up_nil))))))))))))))))))))))))))))) (fun H locs hP hS => ?_)
      refine lv_aload_n hx hb dX4_nearest_50 rfl (lv_at hl 1 rfl) ?_
      refine va_get hx hb hts hi4 hown hK hP 0 rfl rfl 7 (by decide) (hts (.fieldLink RX4 51 "NightPlots" "search" "LNightPlots$Search;") (List.mem_of_getElem? (i := 3) rfl)) (fun _ h9 => h9) rfl dX4_nearest_51 ?_
      refine lv_iload_n hx hb dX4_nearest_54 rfl (lv_at hl 2 rfl) ?_
      refine lv_iload_n hx hb dX4_nearest_55 rfl (lv_at hl 3 rfl) ?_
      obtain ⟨zZ_9, lZ_10, hc11, hM⟩ := bnd2_at hM
      refine cm_v (w2 := (cMain Y nN (hT 0) uD uX (aN 0) (aA 0) (zA 0) uW uP uK uL nS ++ cTold Y hT tT ++ cStand Y aN (hT 0) vN gN ++ cStand Y aA (hT 0) vA gS_7 ++ cSearch Y zA (aA 0) zZ_9 lZ_10)) (va_runV (As := [.int i1, .int i2]) (rest := []) ⟨hx, hb, hml, hown, hts⟩ (ctX0_prepare l D Y zA (aA 0) H.size zZ lZ i1 i2 zZ_9 lZ_10 hc11) (cwV 2 hts gX4_nearest_X0_prepare rfl rfl rfl (by decide +kernel) ⟨Nat.le_of_ble_eq_true rfl, Nat.le_of_ble_eq_true rfl⟩) (pcW_V (ci := 0) (q0 := 20) hK hP (hD.same rfl) [20, 21, 22, 23, 24, 25, 26, 27, 28] rfl (pc_map (pc_cons rfl (pc_cons rfl (pc_cons rfl (pc_cons rfl (pc_cons rfl (pc_cons rfl (pc_cons rfl (pc_cons rfl (pc_cons rfl pc_nil)))))))))) rfl rfl) rfl rfl hl.1 rfl (lv_room (Nat.le_of_ble_eq_true rfl)) dX4_nearest_56 ⟨Nat.zero_le _, Nat.zero_le _⟩) hP (hD.same rfl) hS hA [20, 21, 22, 23, 24, 25, 26, 27, 28] (pc_map (pc_cons rfl (pc_cons rfl (pc_cons rfl (pc_cons rfl (pc_cons rfl (pc_cons rfl (pc_cons rfl (pc_cons rfl (pc_cons rfl pc_nil)))))))))) (up_old rfl rfl (up_old rfl rfl (up_old rfl rfl (up_old rfl rfl (up_old rfl rfl (up_old rfl rfl (up_old rfl rfl (up_old rfl rfl (up_old rfl rfl (up_old rfl rfl (up_old rfl rfl (up_old rfl rfl (up_old rfl rfl (up_old rfl rfl (up_old rfl rfl (up_old rfl rfl (up_old rfl rfl (up_old rfl rfl (up_old rfl rfl (up_old rfl rfl (up_new 0 rfl (up_new 1 rfl (up_new 2 rfl (up_new 3 rfl (up_new 4 rfl (up_new 5 rfl (up_new 6 rfl (up_new 7 rfl (up_new 8 rfl up_nil))))))))))))))))))))))))))))) (fun H locs hP hS => ?_)
      refine lv_iconst (v := (1 : Int32)) hx hb dX4_nearest_59 (by decide) ?_
      refine lv_istore (lv' := [(5, .int (1 : Int32)), (4, .int r1), (0, .ref (nN 0)), (1, .int i1), (2, .int i2), (3, .int i3)]) hx hb dX4_nearest_60 hl (by decide) rfl (fun ls hl => ?_)
      refine jn3_at (fun (gA_12 : GS) (zZ_13 : GS) (lZ_14 : Nat → Int64) => ∀ (H : Heap) (locs : List Loc) (ls : Array Slot), va_P D vwCl (cMain Y nN (hT 0) uD uX (aN 0) (aA 0) (zA 0) uW uP uK uL nS ++ cTold Y hT tT ++ cStand Y aN (hT 0) vN gN ++ cStand Y aA (hT 0) vA gA_12 ++ cSearch Y zA (aA 0) zZ_13 lZ_14) H → va_S A s.heap H locs → lv_has ls 6 [] → W p l e (headSpec wsX4_nearest rmX4_nearest).room s m ([.ref (nN 0), .int i1, .int i2, .int i3] : List Value).toArray below meth c H locs 0 0 QQ (F0 m 103 ls [])) hM (fun gA_12 zZ_13 lZ_14 hM H locs ls hP hS hl => ?_) (fun k15 hJ15 hM => ?_)
      · refine lv_iconst (v := (-1 : Int32)) hx hb dX4_nearest_103 (by decide) ?_
        cases hM
        rw [hQQ]
        exact W.iret hx hb hr (fun t ht hW => ⟨⟨_, (), rfl, rfl, by show va_P D vwCl _ t.heap; rw [ht]; exact hP⟩, hS.F ht⟩) hS.2.2 dX4_nearest_104
      · refine jn4_at (fun (x16 : Int32) (gA_17 : GS) (zZ_18 : GS) (lZ_19 : Nat → Int64) => ∀ (H : Heap) (locs : List Loc) (ls : Array Slot), va_P D vwCl (cMain Y nN (hT 0) uD uX (aN 0) (aA 0) (zA 0) uW uP uK uL nS ++ cTold Y hT tT ++ cStand Y aN (hT 0) vN gN ++ cStand Y aA (hT 0) vA gA_17 ++ cSearch Y zA (aA 0) zZ_18 lZ_19) H → va_S A s.heap H locs → lv_has ls 6 [(0, .ref (nN 0)), (3, .int i3), (5, .int x16)] → W p l e (headSpec wsX4_nearest rmX4_nearest).room s m ([.ref (nN 0), .int i1, .int i2, .int i3] : List Value).toArray below meth c H locs 0 0 QQ (F0 m 80 ls [])) hM (fun x16 gA_17 zZ_18 lZ_19 hM H locs ls hP hS hl => ?_) (fun k20 hJ20 hM => ?_)
        · refine lv_iload_n hx hb dX4_nearest_80 rfl (lv_at hl 1 rfl) ?_
          refine jn1_at (fun (x21 : Int32) => ∀ (H : Heap) (locs : List Loc) (ls : Array Slot), va_P D vwCl (cMain Y nN (hT 0) uD uX (aN 0) (aA 0) (zA 0) uW uP uK uL nS ++ cTold Y hT tT ++ cStand Y aN (hT 0) vN gN ++ cStand Y aA (hT 0) vA gA_17 ++ cSearch Y zA (aA 0) zZ_18 lZ_19) H → va_S A s.heap H locs → lv_has ls 6 [] → W p l e (headSpec wsX4_nearest rmX4_nearest).room s m ([.ref (nN 0), .int i1, .int i2, .int i3] : List Value).toArray below meth c H locs 0 0 QQ (F0 m 96 ls [.int x21])) hM (fun x21 hM H locs ls hP hS hl => ?_) (fun k22 hJ22 hM => ?_)
          · cases hM
            rw [hQQ]
            exact W.iret hx hb hr (fun t ht hW => ⟨⟨_, (), rfl, rfl, by show va_P D vwCl _ t.heap; rw [ht]; exact hP⟩, hS.F ht⟩) hS.2.2 dX4_nearest_96
          · refine lv_if_ne (tgt := 89) hx hb dX4_nearest_81 (by decide) (fun c23 => ?_) (fun c23 => ?_)
            · replace hM := if_at_neg hM c23
              refine lv_aload_n hx hb dX4_nearest_89 rfl (lv_at hl 0 rfl) ?_
              refine va_get hx hb hts hi4 hown hK hP 0 rfl rfl 7 (by decide) (hts (.fieldLink RX4 51 "NightPlots" "search" "LNightPlots$Search;") (List.mem_of_getElem? (i := 3) rfl)) (fun _ h9 => h9) rfl dX4_nearest_90 ?_
              refine va_get hx hb hts hi0 hown hK hP 20 rfl rfl 5 (by decide) (hts (.fieldLink RX4 187 "NightPlots$Search" "firstRoll" "I") (List.mem_of_getElem? (i := 4) rfl)) (fun _ h9 => h9) rfl dX4_nearest_93 ?_
              exact hJ22 (zZ_18 0 5) hM H locs ls hP hS (lv_sub hl [] rfl)
            · replace hM := if_at_pos hM c23
              refine lv_iload hx hb dX4_nearest_84 (lv_at hl 2 rfl) ?_
              refine lv_goto (tgt := 96) hx hb dX4_nearest_86 (by decide) ?_
              exact hJ22 x16 hM H locs ls hP hS (lv_sub hl [] rfl)
        · refine lq4_at (fun (x24 : Int32) (gA_25 : GS) (zZ_26 : GS) (lZ_27 : Nat → Int64) => ∀ (H : Heap) (locs : List Loc) (ls : Array Slot), va_P D vwCl (cMain Y nN (hT 0) uD uX (aN 0) (aA 0) (zA 0) uW uP uK uL nS ++ cTold Y hT tT ++ cStand Y aN (hT 0) vN gN ++ cStand Y aA (hT 0) vA gA_25 ++ cSearch Y zA (aA 0) zZ_26 lZ_27) H → va_S A s.heap H locs → lv_has ls 6 [(0, .ref (nN 0)), (3, .int i3), (5, .int x24)] → W p l e (headSpec wsX4_nearest rmX4_nearest).room s m ([.ref (nN 0), .int i1, .int i2, .int i3] : List Value).toArray below meth c H locs 0 0 QQ (F0 m 62 ls [])) (fun rec28 x24 gA_25 zZ_26 lZ_27 ih28 hM H locs ls hP hS hl => ?_) FU (1 : Int32) gS_7 zZ_9 lZ_10 hM H locs ls hP hS (lv_sub hl [2, 5, 0] rfl)
          unfold BX4_nearest_62 at hM
          refine lv_iload hx hb dX4_nearest_62 (lv_at hl 2 rfl) ?_
          refine lv_iconst (v := (5 : Int32)) hx hb dX4_nearest_64 (by decide) ?_
          refine lv_icmp_gt (tgt := 103) hx hb dX4_nearest_65 (by decide) (fun c29 => ?_) (fun c29 => ?_)
          · replace hM := if_at_pos hM c29
            exact hJ15 gA_25 zZ_26 lZ_27 hM H locs ls hP hS (lv_sub hl [] rfl)
          · replace hM := if_at_neg hM c29
            refine lv_aload_n hx hb dX4_nearest_68 rfl (lv_at hl 0 rfl) ?_
            refine va_get hx hb hts hi4 hown hK hP 0 rfl rfl 7 (by decide) (hts (.fieldLink RX4 51 "NightPlots" "search" "LNightPlots$Search;") (List.mem_of_getElem? (i := 3) rfl)) (fun _ h9 => h9) rfl dX4_nearest_69 ?_
            refine lv_iload hx hb dX4_nearest_72 (lv_at hl 2 rfl) ?_
            obtain ⟨r30, zZ_31, lZ_32, gS_33, hc34, hM⟩ := bnd4_at hM
            refine cm_i (w2 := (cMain Y nN (hT 0) uD uX (aN 0) (aA 0) (zA 0) uW uP uK uL nS ++ cTold Y hT tT ++ cStand Y aN (hT 0) vN gN ++ cStand Y aA (hT 0) vA gS_33 ++ cSearch Y zA (aA 0) zZ_31 lZ_32)) (va_runSN (As := [.ref (zA 0), .int x24]) (rest := []) ⟨hx, hb, hml, hown, hts⟩ (ctX0_reaches l D Y zA aA hT vA H.size zZ_26 lZ_27 gA_25 tT x24 r30 zZ_31 lZ_32 gS_33 hc34) ⟨va_cnB 2 hts ggX4_nearest_X0_reaches rfl rfl rfl hNM (hts (.initialized RX0) (List.mem_of_getElem? (i := 63) rfl)) (by decide +kernel) ⟨Nat.le_of_ble_eq_true rfl, Nat.le_of_ble_eq_true rfl⟩, (hts (.static yX0_reaches) (List.mem_of_getElem? (i := 73) rfl)), trivial⟩ (pcN_S hNF (pcW_S hK hP (hD.same rfl) [20, 21, 22, 23, 24, 25, 26, 27, 28, 17, 18, 19, 6, 7, 8, 9, 10, 11, 12, 13] rfl (pc_map (pc_cons rfl (pc_cons rfl (pc_cons rfl (pc_cons rfl (pc_cons rfl (pc_cons rfl (pc_cons rfl (pc_cons rfl (pc_cons rfl (pc_cons rfl (pc_cons rfl (pc_cons rfl (pc_cons rfl (pc_cons rfl (pc_cons rfl (pc_cons rfl (pc_cons rfl (pc_cons rfl (pc_cons rfl (pc_cons rfl pc_nil))))))))))))))))))))))) rfl rfl hl.1 rfl (lv_room (Nat.le_of_ble_eq_true rfl)) dX4_nearest_74 ⟨Nat.zero_le _, Nat.zero_le _⟩) hP (hD.same rfl) hS hA [20, 21, 22, 23, 24, 25, 26, 27, 28, 17, 18, 19, 6, 7, 8, 9, 10, 11, 12, 13] (pc_map (pc_cons rfl (pc_cons rfl (pc_cons rfl (pc_cons rfl (pc_cons rfl (pc_cons rfl (pc_cons rfl (pc_cons rfl (pc_cons rfl (pc_cons rfl (pc_cons rfl (pc_cons rfl (pc_cons rfl (pc_cons rfl (pc_cons rfl (pc_cons rfl (pc_cons rfl (pc_cons rfl (pc_cons rfl (pc_cons rfl pc_nil))))))))))))))))))))) (up_old rfl rfl (up_old rfl rfl (up_old rfl rfl (up_old rfl rfl (up_old rfl rfl (up_old rfl rfl (up_new 12 rfl (up_new 13 rfl (up_new 14 rfl (up_new 15 rfl (up_new 16 rfl (up_new 17 rfl (up_new 18 rfl (up_new 19 rfl (up_old rfl rfl (up_old rfl rfl (up_old rfl rfl (up_new 9 rfl (up_new 10 rfl (up_new 11 rfl (up_new 0 rfl (up_new 1 rfl (up_new 2 rfl (up_new 3 rfl (up_new 4 rfl (up_new 5 rfl (up_new 6 rfl (up_new 7 rfl (up_new 8 rfl up_nil))))))))))))))))))))))))))))) (fun H locs hP hS => ?_)
            refine lv_if_eq (tgt := 97) hx hb dX4_nearest_77 (by decide) (fun c35 => ?_) (fun c35 => ?_)
            · replace hM := if_at_pos hM c35
              obtain ⟨x36, ex36⟩ : ∃ z : Int32, z = (x24 + 1) := ⟨_, rfl⟩
              replace hM := nm_at hM ex36
              refine lv_iinc (v := x36) (lv' := [(5, .int x36), (0, .ref (nN 0)), (3, .int i3)]) hx hb dX4_nearest_97 hl (k := 2) rfl (by rw [ex36]; rfl) (by decide) rfl (fun ls hl => ?_)
              refine lv_goto (tgt := 62) hx hb dX4_nearest_100 (by decide) ?_
              exact ih28 x36 gS_33 zZ_31 lZ_32 hM H locs ls hP hS (lv_sub hl [1, 2, 0] rfl)
            · replace hM := if_at_neg hM c35
              exact hJ20 x24 gS_33 zZ_31 lZ_32 hM H locs ls hP hS (lv_sub hl [0, 1, 2] rfl)
    · replace hM := if_at_neg hM c6
      refine lv_iload_n hx hb dX4_nearest_29 rfl (lv_at hl 4 rfl) ?_
      refine jn1_at (fun (x37 : Int32) => ∀ (H : Heap) (locs : List Loc) (ls : Array Slot), va_P D vwCl (cMain Y nN (hT 0) uD uX (aN 0) (aA 0) (zA 0) uW uP uK uL nS ++ cTold Y hT tT ++ cStand Y aN (hT 0) vN gN ++ cStand Y aA (hT 0) vA gA ++ cSearch Y zA (aA 0) zZ lZ) H → va_S A s.heap H locs → lv_has ls 6 [] → W p l e (headSpec wsX4_nearest rmX4_nearest).room s m ([.ref (nN 0), .int i1, .int i2, .int i3] : List Value).toArray below meth c H locs 0 0 QQ (F0 m 38 ls [.int x37])) hM (fun x37 hM H locs ls hP hS hl => ?_) (fun k38 hJ38 hM => ?_)
      · cases hM
        rw [hQQ]
        exact W.iret hx hb hr (fun t ht hW => ⟨⟨_, (), rfl, rfl, by show va_P D vwCl _ t.heap; rw [ht]; exact hP⟩, hS.F ht⟩) hS.2.2 dX4_nearest_38
      · refine lv_if_ne (tgt := 37) hx hb dX4_nearest_30 (by decide) (fun c39 => ?_) (fun c39 => ?_)
        · replace hM := if_at_neg hM c39
          refine lv_iconst (v := (-1 : Int32)) hx hb dX4_nearest_37 (by decide) ?_
          exact hJ38 (-1 : Int32) hM H locs ls hP hS (lv_sub hl [] rfl)
        · replace hM := if_at_pos hM c39
          refine lv_iconst (v := (0 : Int32)) hx hb dX4_nearest_33 (by decide) ?_
          refine lv_goto (tgt := 38) hx hb dX4_nearest_34 (by decide) ?_
          exact hJ38 (0 : Int32) hM H locs ls hP hS (lv_sub hl [] rfl)
  · replace hM := if_at_neg hM c3
    refine lv_iload hx hb dX4_nearest_14 (lv_at hl 0 rfl) ?_
    cases hM
    rw [hQQ]
    exact W.iret hx hb hr (fun t ht hW => ⟨⟨_, (), rfl, rfl, by show va_P D vwCl _ t.heap; rw [ht]; exact hP⟩, hS.F ht⟩) hS.2.2 dX4_nearest_16
noncomputable def BX4_costOf_4 (k2 : Int32 → Option (Int32)) (i1 : Int32) (rec5 : Int32 → Int32 → Option (Int32)) (x3 : Int32) (x4 : Int32) : Option (Int32) := if (8 : Int32) ≤ x4 then (k2 x3) else (jn1 (fun (x7 : Int32) => nm (x4 + 1) fun (x9 : Int32) => rec5 x7 x9) (fun k8 => if ((i1 >>> (x4 &&& 31)) &&& (1 : Int32)) = 0 then (k8 x3) else (nm (x3 + ((1 : Int32) + x4)) fun (x11 : Int32) => k8 x11)))
noncomputable def MX4_costOf (i1 : Int32) : Option (Int32) := jn1 (fun (x1 : Int32) => some (x1)) (fun k2 => lq2 (BX4_costOf_4 k2 i1) FU (0 : Int32) (0 : Int32))
abbrev rmX4_costOf : Room := { frames := 1, cells := 0, slots := 0, locals := 40 }
set_option maxHeartbeats 4000000 in
set_option maxRecDepth 100000 in
theorem ctX4_costOf (l : Launch) (D : va_G) (Y : Nat → ClassId) (sz : Nat) (i1 : Int32) (rr : Int32) (hM : MX4_costOf i1 = some (rr)) : Met l yX4_costOf wsX4_costOf rmX4_costOf (pcW [.int i1] sz D Y (([] : va_W))) (qiW rr D (([] : va_W)) (va_A (([] : va_W)) sz)) 0 0 (va_A (([] : va_W)) sz) := by
  refine Met.ofW (cc := cX4_costOf) (maxL := 3) (ret := (some .int)) (by decide) rfl ?_
  intro p e s m args below meth c s₁ B hml hv
  obtain ⟨rfl, hsz, hP, hK, hD0⟩ := hv
  have hx := B.exec
  have hb := B.bytes
  have hr := B.returns
  have hts := atoms_spec (ws := wsX4_costOf) B.pre
  have hown : s.vm.findClass RX4 = some m.cls := findClass_of_methodNamed B.named
  have hlocks := B.notSynchronized
  subst hsz
  have hD := hD0.self (sz := s.heap.size)
  generalize hAe : va_A (([] : va_W)) s.heap.size = A at hD ⊢
  have hA : ∀ q : Nat, s.heap.size ≤ q → A q := fun q h => by rw [← hAe]; exact Or.inr h
  have hS : va_S A s.heap s.heap [] := va_S.rf
  have hl := lv_entry ([.int i1]) (n := 3) (Nat.le_of_ble_eq_true rfl)
  rw [lg_entry_eq]
  generalize (lg_sl ([.int i1]) ++ List.replicate (3 - (lg_sl ([.int i1])).length) Slot.unset).toArray = ls at hl ⊢
  have hl : lv_has ls 3 [(0, .int i1)] := hl
  obtain ⟨QQ, hQQ⟩ : ∃ Q : State → Prop, Q = MQ below (qiW rr D (([] : va_W)) A) ([.int i1] : List Value).toArray s 0 0 A := ⟨_, rfl⟩
  rw [← hQQ]
  unfold MX4_costOf at hM
  suffices hI : ∀ (H : Heap) (locs : List Loc), va_P D vwCl (([] : va_W)) H → va_S A s.heap H locs → W p l e (headSpec wsX4_costOf rmX4_costOf).room s m ([.int i1] : List Value).toArray below meth c H locs 0 0 QQ (F0 m 0 ls []) from hI _ _ hP hS
  clear hP hS
  intro H locs hP hS
  refine lv_iconst (v := (0 : Int32)) hx hb dX4_costOf_0 (by decide) ?_
  refine lv_istore_n (lv' := [(1, .int (0 : Int32)), (0, .int i1)]) hx hb dX4_costOf_1 rfl hl (by decide) rfl (fun ls hl => ?_)
  refine lv_iconst (v := (0 : Int32)) hx hb dX4_costOf_2 (by decide) ?_
  refine lv_istore_n (lv' := [(2, .int (0 : Int32)), (1, .int (0 : Int32)), (0, .int i1)]) hx hb dX4_costOf_3 rfl hl (by decide) rfl (fun ls hl => ?_)
  refine jn1_at (fun (x1 : Int32) => ∀ (H : Heap) (locs : List Loc) (ls : Array Slot), va_P D vwCl (([] : va_W)) H → va_S A s.heap H locs → lv_has ls 3 [(1, .int x1)] → W p l e (headSpec wsX4_costOf rmX4_costOf).room s m ([.int i1] : List Value).toArray below meth c H locs 0 0 QQ (F0 m 30 ls [])) hM (fun x1 hM H locs ls hP hS hl => ?_) (fun k2 hJ2 hM => ?_)
  · refine lv_iload_n hx hb dX4_costOf_30 rfl (lv_at hl 0 rfl) ?_
    cases hM
    rw [hQQ]
    exact W.iret hx hb hr (fun t ht hW => ⟨⟨_, (), rfl, rfl, by show va_P D vwCl _ t.heap; rw [ht]; exact hP⟩, hS.F ht⟩) hS.2.2 dX4_costOf_31
  · refine lq2_at (fun (x3 : Int32) (x4 : Int32) => ∀ (H : Heap) (locs : List Loc) (ls : Array Slot), va_P D vwCl (([] : va_W)) H → va_S A s.heap H locs → lv_has ls 3 [(0, .int i1), (1, .int x3), (2, .int x4)] → W p l e (headSpec wsX4_costOf rmX4_costOf).room s m ([.int i1] : List Value).toArray below meth c H locs 0 0 QQ (F0 m 4 ls [])) (fun rec5 x3 x4 ih5 hM H locs ls hP hS hl => ?_) FU (0 : Int32) (0 : Int32) hM H locs ls hP hS (lv_sub hl [2, 1, 0] rfl)
    unfold BX4_costOf_4 at hM
    refine lv_iload_n hx hb dX4_costOf_4 rfl (lv_at hl 2 rfl) ?_
    refine lv_bipush (v := (8 : Int32)) hx hb dX4_costOf_5 (by decide) ?_
    refine lv_icmp_ge (tgt := 30) hx hb dX4_costOf_7 (by decide) (fun c6 => ?_) (fun c6 => ?_)
    · replace hM := if_at_pos hM c6
      exact hJ2 x3 hM H locs ls hP hS (lv_sub hl [1] rfl)
    · replace hM := if_at_neg hM c6
      refine lv_iload_n hx hb dX4_costOf_10 rfl (lv_at hl 0 rfl) ?_
      refine lv_iload_n hx hb dX4_costOf_11 rfl (lv_at hl 2 rfl) ?_
      refine lv_ishr hx hb dX4_costOf_12 ?_
      refine lv_iconst (v := (1 : Int32)) hx hb dX4_costOf_13 (by decide) ?_
      refine lv_iand hx hb dX4_costOf_14 ?_
      refine jn1_at (fun (x7 : Int32) => ∀ (H : Heap) (locs : List Loc) (ls : Array Slot), va_P D vwCl (([] : va_W)) H → va_S A s.heap H locs → lv_has ls 3 [(0, .int i1), (1, .int x7), (2, .int x4)] → W p l e (headSpec wsX4_costOf rmX4_costOf).room s m ([.int i1] : List Value).toArray below meth c H locs 0 0 QQ (F0 m 24 ls [])) hM (fun x7 hM H locs ls hP hS hl => ?_) (fun k8 hJ8 hM => ?_)
      · obtain ⟨x9, ex9⟩ : ∃ z : Int32, z = (x4 + 1) := ⟨_, rfl⟩
        replace hM := nm_at hM ex9
        refine lv_iinc (v := x9) (lv' := [(2, .int x9), (0, .int i1), (1, .int x7)]) hx hb dX4_costOf_24 hl (k := 2) rfl (by rw [ex9]; rfl) (by decide) rfl (fun ls hl => ?_)
        refine lv_goto (tgt := 4) hx hb dX4_costOf_27 (by decide) ?_
        exact ih5 x7 x9 hM H locs ls hP hS (lv_sub hl [1, 2, 0] rfl)
      · refine lv_if_eq (tgt := 24) hx hb dX4_costOf_15 (by decide) (fun c10 => ?_) (fun c10 => ?_)
        · replace hM := if_at_pos hM c10
          exact hJ8 x3 hM H locs ls hP hS (lv_sub hl [0, 1, 2] rfl)
        · replace hM := if_at_neg hM c10
          refine lv_iload_n hx hb dX4_costOf_18 rfl (lv_at hl 1 rfl) ?_
          refine lv_iconst (v := (1 : Int32)) hx hb dX4_costOf_19 (by decide) ?_
          refine lv_iload_n hx hb dX4_costOf_20 rfl (lv_at hl 2 rfl) ?_
          refine lv_iadd hx hb dX4_costOf_21 ?_
          refine lv_iadd hx hb dX4_costOf_22 ?_
          refine lv_topi (fun x11 ex11 => ?_)
          replace hM := nm_at hM ex11
          refine lv_istore_n (lv' := [(1, .int x11), (0, .int i1), (2, .int x4)]) hx hb dX4_costOf_23 rfl hl (by decide) rfl (fun ls hl => ?_)
          exact hJ8 x11 hM H locs ls hP hS (lv_sub hl [1, 0, 2] rfl)
noncomputable def BX4_mends_49 (k13 : Int32 → Int32 → GS → (Nat → Int32) → Option (Int32 × GS × (Nat → Int32))) (r7 : Int32) (gN : GS) (tT : GS) (i1 : Int32) (i2 : Int32) (i3 : Int32) (rec22 : Int32 → Int32 → Int32 → GS → (Nat → Int32) → Option (Int32 × GS × (Nat → Int32))) (x17 : Int32) (x18 : Int32) (x19 : Int32) (gA_20 : GS) (fA_21 : Nat → Int32) : Option (Int32 × GS × (Nat → Int32)) := if (256 : Int32) ≤ x19 then (k13 x17 x18 gA_20 fA_21) else (bnd1 (MX4_costOf x19) fun (r24 : Int32) => jn1 (fun (x26 : Int32) => jn4 (fun (x28 : Int32) (x29 : Int32) (gA_30 : GS) (fA_31 : Nat → Int32) => nm (x19 + 1) fun (x33 : Int32) => rec22 x28 x29 x33 gA_30 fA_31) (fun k32 => if (x19 &&& (r7 ^^^ (-1 : Int32))) = 0 then (if x26 = 0 then (k32 x17 x18 gA_20 fA_21) else (bnd1 (MX1_copyFrom gA_20 gN) fun (gS_36 : GS) => nm (up2 gS_36 0 8 x19) fun (gA_38 : GS) => bnd3 (MX4_firstMeeting tT gA_38 fA_21 i1 i2 (0 : Int32) i3) fun (r39 : Int32) (gA_40 : GS) (fA_41 : Nat → Int32) => if r39 = (-1 : Int32) then (k32 x17 x18 gA_40 fA_41) else (k32 x19 r24 gA_40 fA_41))) else (k32 x17 x18 gA_20 fA_21))) (fun k27 => jn0 (k27 (1 : Int32)) (fun k44 => if x17 = (-1 : Int32) then (k44) else (if x18 ≤ r24 then (k27 (0 : Int32)) else (k44)))))
noncomputable def MX4_mends (tT : GS) (gN : GS) (gA : GS) (fA : Nat → Int32) (i1 : Int32) (i2 : Int32) (i3 : Int32) (i4 : Int32) : Option (Int32 × GS × (Nat → Int32)) := bnd1 (MX4_refusePair tT i1 i2 i4) fun (r1 : Int32) => if r1 = 0 then (jn0 (some ((-3 : Int32), gA, fA)) (fun k4 => if i3 < 0 then (k4) else (if i3 ≤ (99 : Int32) then (bnd1 (MX3_stuckOnes tT) fun (r7 : Int32) => jn4 (fun (x9 : Int32) (x10 : Int32) (gA_11 : GS) (fA_12 : Nat → Int32) => jn1 (fun (x14 : Int32) => some (x14, gA_11, fA_12)) (fun k15 => if i4 = 0 then (k15 x10) else (k15 x9))) (fun k13 => lq5 (BX4_mends_49 k13 r7 gN tT i1 i2 i3) FU (-1 : Int32) (-1 : Int32) (0 : Int32) gA fA)) else (k4)))) else (some (r1, gA, fA))
abbrev rmX4_mends : Room := { frames := 7, cells := 0, slots := 0, locals := 280 }
set_option maxHeartbeats 4000000 in
set_option maxRecDepth 100000 in
theorem ctX4_mends (l : Launch) (D : va_G) (Y : Nat → ClassId) (nN : Nat → Nat) (hT : Nat → Nat) (aN : Nat → Nat) (aA : Nat → Nat) (vA : Nat) (uD : Nat) (uX : Nat) (uZ : Nat) (uW : Nat) (uP : Nat) (uK : Nat) (uL : Nat) (vN : Nat) (sz : Nat) (nS : GS) (tT : GS) (gN : GS) (gA : GS) (fA : Nat → Int32) (i1 : Int32) (i2 : Int32) (i3 : Int32) (i4 : Int32) (rr : Int32) (gAz : GS) (fAz : Nat → Int32) (hM : MX4_mends tT gN gA fA i1 i2 i3 i4 = some (rr, gAz, fAz)) : Met l yX4_mends wsX4_mends rmX4_mends (pcW [.ref (nN 0), .int i1, .int i2, .int i3, .int i4] sz D Y (cMain Y nN (hT 0) uD uX (aN 0) (aA 0) uZ uW uP uK uL nS ++ cTold Y hT tT ++ cStand Y aN (hT 0) vN gN ++ cStand Y aA (hT 0) vA gA ++ cRow Y vA 8 fA)) (qiW rr D (cMain Y nN (hT 0) uD uX (aN 0) (aA 0) uZ uW uP uK uL nS ++ cTold Y hT tT ++ cStand Y aN (hT 0) vN gN ++ cStand Y aA (hT 0) vA gAz ++ cRow Y vA 8 fAz) (va_A (cMain Y nN (hT 0) uD uX (aN 0) (aA 0) uZ uW uP uK uL nS ++ cTold Y hT tT ++ cStand Y aN (hT 0) vN gN ++ cStand Y aA (hT 0) vA gA ++ cRow Y vA 8 fA) sz)) 0 0 (va_A (cMain Y nN (hT 0) uD uX (aN 0) (aA 0) uZ uW uP uK uL nS ++ cTold Y hT tT ++ cStand Y aN (hT 0) vN gN ++ cStand Y aA (hT 0) vA gA ++ cRow Y vA 8 fA) sz) := by
  refine Met.ofW (cc := cX4_mends) (maxL := 12) (ret := (some .int)) (by decide) rfl ?_
  intro p e s m args below meth c s₁ B hml hv
  obtain ⟨rfl, hsz, hP, hK, hD0⟩ := hv
  have hx := B.exec
  have hb := B.bytes
  have hr := B.returns
  have hts := atoms_spec (ws := wsX4_mends) B.pre
  have hown : s.vm.findClass RX4 = some m.cls := findClass_of_methodNamed B.named
  have hlocks := B.notSynchronized
  subst hsz
  have hD := hD0.self (sz := s.heap.size)
  generalize hAe : va_A (cMain Y nN (hT 0) uD uX (aN 0) (aA 0) uZ uW uP uK uL nS ++ cTold Y hT tT ++ cStand Y aN (hT 0) vN gN ++ cStand Y aA (hT 0) vA gA ++ cRow Y vA 8 fA) s.heap.size = A at hD ⊢
  have hA : ∀ q : Nat, s.heap.size ≤ q → A q := fun q h => by rw [← hAe]; exact Or.inr h
  have hS : va_S A s.heap s.heap [] := va_S.rf
  have hi1 : ∀ w ∈ wsX10, w ∈ wsX4_mends := fun w h => List.mem_cons_of_mem _ (List.mem_append_left _ (List.mem_append_right _ h))
  have hi4 : ∀ w ∈ wsX40, w ∈ wsX4_mends := fun w h => List.mem_cons_of_mem _ (List.mem_append_left _ (List.mem_append_left _ (List.mem_append_right _ h)))
  have hl := lv_entry ([.ref (nN 0), .int i1, .int i2, .int i3, .int i4]) (n := 12) (Nat.le_of_ble_eq_true rfl)
  rw [lg_entry_eq]
  generalize (lg_sl ([.ref (nN 0), .int i1, .int i2, .int i3, .int i4]) ++ List.replicate (12 - (lg_sl ([.ref (nN 0), .int i1, .int i2, .int i3, .int i4])).length) Slot.unset).toArray = ls at hl ⊢
  have hl : lv_has ls 12 [(0, .ref (nN 0)), (1, .int i1), (2, .int i2), (3, .int i3), (4, .int i4)] := hl
  obtain ⟨QQ, hQQ⟩ : ∃ Q : State → Prop, Q = MQ below (qiW rr D (cMain Y nN (hT 0) uD uX (aN 0) (aA 0) uZ uW uP uK uL nS ++ cTold Y hT tT ++ cStand Y aN (hT 0) vN gN ++ cStand Y aA (hT 0) vA gAz ++ cRow Y vA 8 fAz) A) ([.ref (nN 0), .int i1, .int i2, .int i3, .int i4] : List Value).toArray s 0 0 A := ⟨_, rfl⟩
  rw [← hQQ]
  unfold MX4_mends at hM
  suffices hI : ∀ (H : Heap) (locs : List Loc), va_P D vwCl (cMain Y nN (hT 0) uD uX (aN 0) (aA 0) uZ uW uP uK uL nS ++ cTold Y hT tT ++ cStand Y aN (hT 0) vN gN ++ cStand Y aA (hT 0) vA gA ++ cRow Y vA 8 fA) H → va_S A s.heap H locs → W p l e (headSpec wsX4_mends rmX4_mends).room s m ([.ref (nN 0), .int i1, .int i2, .int i3, .int i4] : List Value).toArray below meth c H locs 0 0 QQ (F0 m 0 ls []) from hI _ _ hP hS
  clear hP hS
  intro H locs hP hS
  refine lv_aload_n hx hb dX4_mends_0 rfl (lv_at hl 0 rfl) ?_
  refine lv_iload_n hx hb dX4_mends_1 rfl (lv_at hl 1 rfl) ?_
  refine lv_iload_n hx hb dX4_mends_2 rfl (lv_at hl 2 rfl) ?_
  refine lv_iload hx hb dX4_mends_3 (lv_at hl 4 rfl) ?_
  obtain ⟨r1, hc2, hM⟩ := bnd1_at hM
  refine cm_i (w2 := (cMain Y nN (hT 0) uD uX (aN 0) (aA 0) uZ uW uP uK uL nS ++ cTold Y hT tT ++ cStand Y aN (hT 0) vN gN ++ cStand Y aA (hT 0) vA gA ++ cRow Y vA 8 fA)) (va_runV (As := [.int i1, .int i2, .int i4]) (rest := []) ⟨hx, hb, hml, hown, hts⟩ (ctX4_refusePair l D Y nN hT uD uX (aN 0) (aA 0) uZ uW uP uK uL H.size nS tT i1 i2 i4 r1 hc2) (cwV 3 hts gX4_mends_X4_refusePair rfl rfl rfl (by decide +kernel) ⟨Nat.le_of_ble_eq_true rfl, Nat.le_of_ble_eq_true rfl⟩) (pcW_V (ci := 4) (q0 := 0) hK hP (hD.same rfl) [0, 1, 2, 3, 4, 5, 6, 7, 8, 9, 10, 11, 12, 13] rfl (pc_map (pc_cons rfl (pc_cons rfl (pc_cons rfl (pc_cons rfl (pc_cons rfl (pc_cons rfl (pc_cons rfl (pc_cons rfl (pc_cons rfl (pc_cons rfl (pc_cons rfl (pc_cons rfl (pc_cons rfl (pc_cons rfl pc_nil))))))))))))))) rfl rfl) rfl rfl hl.1 rfl (lv_room (Nat.le_of_ble_eq_true rfl)) dX4_mends_5 ⟨Nat.zero_le _, Nat.zero_le _⟩) hP (hD.same rfl) hS hA [0, 1, 2, 3, 4, 5, 6, 7, 8, 9, 10, 11, 12, 13] (pc_map (pc_cons rfl (pc_cons rfl (pc_cons rfl (pc_cons rfl (pc_cons rfl (pc_cons rfl (pc_cons rfl (pc_cons rfl (pc_cons rfl (pc_cons rfl (pc_cons rfl (pc_cons rfl (pc_cons rfl (pc_cons rfl pc_nil))))))))))))))) (up_new 0 rfl (up_new 1 rfl (up_new 2 rfl (up_new 3 rfl (up_new 4 rfl (up_new 5 rfl (up_new 6 rfl (up_new 7 rfl (up_new 8 rfl (up_new 9 rfl (up_new 10 rfl (up_new 11 rfl (up_new 12 rfl (up_new 13 rfl (up_old rfl rfl (up_old rfl rfl (up_old rfl rfl (up_old rfl rfl (up_old rfl rfl (up_old rfl rfl (up_old rfl rfl up_nil))))))))))))))))))))) (fun H locs hP hS => ?_)
  refine lv_istore (lv' := [(5, .int r1), (0, .ref (nN 0)), (1, .int i1), (2, .int i2), (3, .int i3), (4, .int i4)]) hx hb dX4_mends_8 hl (by decide) rfl (fun ls hl => ?_)
  refine lv_iload hx hb dX4_mends_10 (lv_at hl 0 rfl) ?_
  refine lv_if_eq (tgt := 18) hx hb dX4_mends_12 (by decide) (fun c3 => ?_) (fun c3 => ?_)
  · replace hM := if_at_pos hM c3
    refine lv_iload_n hx hb dX4_mends_18 rfl (lv_at hl 4 rfl) ?_
    refine jn0_at (∀ (H : Heap) (locs : List Loc) (ls : Array Slot), va_P D vwCl (cMain Y nN (hT 0) uD uX (aN 0) (aA 0) uZ uW uP uK uL nS ++ cTold Y hT tT ++ cStand Y aN (hT 0) vN gN ++ cStand Y aA (hT 0) vA gA ++ cRow Y vA 8 fA) H → va_S A s.heap H locs → lv_has ls 12 [] → W p l e (headSpec wsX4_mends rmX4_mends).room s m ([.ref (nN 0), .int i1, .int i2, .int i3, .int i4] : List Value).toArray below meth c H locs 0 0 QQ (F0 m 28 ls [])) hM (fun  hM H locs ls hP hS hl => ?_) (fun k4 hJ4 hM => ?_)
    · refine lv_bipush (v := (-3 : Int32)) hx hb dX4_mends_28 (by decide) ?_
      cases hM
      rw [hQQ]
      exact W.iret hx hb hr (fun t ht hW => ⟨⟨_, (), rfl, rfl, by show va_P D vwCl _ t.heap; rw [ht]; exact hP⟩, hS.F ht⟩) hS.2.2 dX4_mends_30
    · refine lv_if_lt (tgt := 28) hx hb dX4_mends_19 (by decide) (fun c5 => ?_) (fun c5 => ?_)
      · replace hM := if_at_pos hM c5
        exact hJ4 hM H locs ls hP hS (lv_sub hl [] rfl)
      · replace hM := if_at_neg hM c5
        refine lv_iload_n hx hb dX4_mends_22 rfl (lv_at hl 4 rfl) ?_
        refine lv_bipush (v := (99 : Int32)) hx hb dX4_mends_23 (by decide) ?_
        refine lv_icmp_le (tgt := 31) hx hb dX4_mends_25 (by decide) (fun c6 => ?_) (fun c6 => ?_)
        · replace hM := if_at_pos hM c6
          refine lv_aload_n hx hb dX4_mends_31 rfl (lv_at hl 1 rfl) ?_
          refine va_get hx hb hts hi4 hown hK hP 0 rfl rfl 0 (by decide) (hts (.fieldLink RX4 12 "NightPlots" "told" "LNightPlots$Told;") (List.mem_of_getElem? (i := 1) rfl)) (fun _ h9 => h9) rfl dX4_mends_32 ?_
          obtain ⟨r7, hc8, hM⟩ := bnd1_at hM
          refine cm_i (w2 := (cMain Y nN (hT 0) uD uX (aN 0) (aA 0) uZ uW uP uK uL nS ++ cTold Y hT tT ++ cStand Y aN (hT 0) vN gN ++ cStand Y aA (hT 0) vA gA ++ cRow Y vA 8 fA)) (va_runV (As := []) (rest := []) ⟨hx, hb, hml, hown, hts⟩ (ctX3_stuckOnes l D Y hT H.size tT r7 hc8) (cwV 0 hts gX4_mends_X3_stuckOnes rfl rfl rfl (by decide +kernel) ⟨Nat.le_of_ble_eq_true rfl, Nat.le_of_ble_eq_true rfl⟩) (pcW_V (ci := 3) (q0 := 6) hK hP (hD.same rfl) [6, 7, 8, 9, 10, 11, 12, 13] rfl (pc_map (pc_cons rfl (pc_cons rfl (pc_cons rfl (pc_cons rfl (pc_cons rfl (pc_cons rfl (pc_cons rfl (pc_cons rfl pc_nil))))))))) rfl rfl) rfl rfl hl.1 rfl (lv_room (Nat.le_of_ble_eq_true rfl)) dX4_mends_35 ⟨Nat.zero_le _, Nat.zero_le _⟩) hP (hD.same rfl) hS hA [6, 7, 8, 9, 10, 11, 12, 13] (pc_map (pc_cons rfl (pc_cons rfl (pc_cons rfl (pc_cons rfl (pc_cons rfl (pc_cons rfl (pc_cons rfl (pc_cons rfl pc_nil))))))))) (up_old rfl rfl (up_old rfl rfl (up_old rfl rfl (up_old rfl rfl (up_old rfl rfl (up_old rfl rfl (up_new 0 rfl (up_new 1 rfl (up_new 2 rfl (up_new 3 rfl (up_new 4 rfl (up_new 5 rfl (up_new 6 rfl (up_new 7 rfl (up_old rfl rfl (up_old rfl rfl (up_old rfl rfl (up_old rfl rfl (up_old rfl rfl (up_old rfl rfl (up_old rfl rfl up_nil))))))))))))))))))))) (fun H locs hP hS => ?_)
          refine lv_istore (lv' := [(6, .int r7), (5, .int r1), (0, .ref (nN 0)), (1, .int i1), (2, .int i2), (3, .int i3), (4, .int i4)]) hx hb dX4_mends_38 hl (by decide) rfl (fun ls hl => ?_)
          refine lv_iconst (v := (-1 : Int32)) hx hb dX4_mends_40 (by decide) ?_
          refine lv_istore (lv' := [(7, .int (-1 : Int32)), (6, .int r7), (5, .int r1), (0, .ref (nN 0)), (1, .int i1), (2, .int i2), (3, .int i3), (4, .int i4)]) hx hb dX4_mends_41 hl (by decide) rfl (fun ls hl => ?_)
          refine lv_iconst (v := (-1 : Int32)) hx hb dX4_mends_43 (by decide) ?_
          refine lv_istore (lv' := [(8, .int (-1 : Int32)), (7, .int (-1 : Int32)), (6, .int r7), (5, .int r1), (0, .ref (nN 0)), (1, .int i1), (2, .int i2), (3, .int i3), (4, .int i4)]) hx hb dX4_mends_44 hl (by decide) rfl (fun ls hl => ?_)
          refine lv_iconst (v := (0 : Int32)) hx hb dX4_mends_46 (by decide) ?_
          refine lv_istore (lv' := [(9, .int (0 : Int32)), (8, .int (-1 : Int32)), (7, .int (-1 : Int32)), (6, .int r7), (5, .int r1), (0, .ref (nN 0)), (1, .int i1), (2, .int i2), (3, .int i3), (4, .int i4)]) hx hb dX4_mends_47 hl (by decide) rfl (fun ls hl => ?_)
          refine jn4_at (fun (x9 : Int32) (x10 : Int32) (gA_11 : GS) (fA_12 : Nat → Int32) => ∀ (H : Heap) (locs : List Loc) (ls : Array Slot), va_P D vwCl (cMain Y nN (hT 0) uD uX (aN 0) (aA 0) uZ uW uP uK uL nS ++ cTold Y hT tT ++ cStand Y aN (hT 0) vN gN ++ cStand Y aA (hT 0) vA gA_11 ++ cRow Y vA 8 fA_12) H → va_S A s.heap H locs → lv_has ls 12 [(4, .int i4), (7, .int x9), (8, .int x10)] → W p l e (headSpec wsX4_mends rmX4_mends).room s m ([.ref (nN 0), .int i1, .int i2, .int i3, .int i4] : List Value).toArray below meth c H locs 0 0 QQ (F0 m 148 ls [])) hM (fun x9 x10 gA_11 fA_12 hM H locs ls hP hS hl => ?_) (fun k13 hJ13 hM => ?_)
          · refine lv_iload hx hb dX4_mends_148 (lv_at hl 0 rfl) ?_
            refine jn1_at (fun (x14 : Int32) => ∀ (H : Heap) (locs : List Loc) (ls : Array Slot), va_P D vwCl (cMain Y nN (hT 0) uD uX (aN 0) (aA 0) uZ uW uP uK uL nS ++ cTold Y hT tT ++ cStand Y aN (hT 0) vN gN ++ cStand Y aA (hT 0) vA gA_11 ++ cRow Y vA 8 fA_12) H → va_S A s.heap H locs → lv_has ls 12 [] → W p l e (headSpec wsX4_mends rmX4_mends).room s m ([.ref (nN 0), .int i1, .int i2, .int i3, .int i4] : List Value).toArray below meth c H locs 0 0 QQ (F0 m 160 ls [.int x14])) hM (fun x14 hM H locs ls hP hS hl => ?_) (fun k15 hJ15 hM => ?_)
            · cases hM
              rw [hQQ]
              exact W.iret hx hb hr (fun t ht hW => ⟨⟨_, (), rfl, rfl, by show va_P D vwCl _ t.heap; rw [ht]; exact hP⟩, hS.F ht⟩) hS.2.2 dX4_mends_160
            · refine lv_if_ne (tgt := 158) hx hb dX4_mends_150 (by decide) (fun c16 => ?_) (fun c16 => ?_)
              · replace hM := if_at_neg hM c16
                refine lv_iload hx hb dX4_mends_158 (lv_at hl 1 rfl) ?_
                exact hJ15 x9 hM H locs ls hP hS (lv_sub hl [] rfl)
              · replace hM := if_at_pos hM c16
                refine lv_iload hx hb dX4_mends_153 (lv_at hl 2 rfl) ?_
                refine lv_goto (tgt := 160) hx hb dX4_mends_155 (by decide) ?_
                exact hJ15 x10 hM H locs ls hP hS (lv_sub hl [] rfl)
          · refine lq5_at (fun (x17 : Int32) (x18 : Int32) (x19 : Int32) (gA_20 : GS) (fA_21 : Nat → Int32) => ∀ (H : Heap) (locs : List Loc) (ls : Array Slot), va_P D vwCl (cMain Y nN (hT 0) uD uX (aN 0) (aA 0) uZ uW uP uK uL nS ++ cTold Y hT tT ++ cStand Y aN (hT 0) vN gN ++ cStand Y aA (hT 0) vA gA_20 ++ cRow Y vA 8 fA_21) H → va_S A s.heap H locs → lv_has ls 12 [(0, .ref (nN 0)), (1, .int i1), (2, .int i2), (3, .int i3), (4, .int i4), (6, .int r7), (7, .int x17), (8, .int x18), (9, .int x19)] → W p l e (headSpec wsX4_mends rmX4_mends).room s m ([.ref (nN 0), .int i1, .int i2, .int i3, .int i4] : List Value).toArray below meth c H locs 0 0 QQ (F0 m 49 ls [])) (fun rec22 x17 x18 x19 gA_20 fA_21 ih22 hM H locs ls hP hS hl => ?_) FU (-1 : Int32) (-1 : Int32) (0 : Int32) gA fA hM H locs ls hP hS (lv_sub hl [5, 6, 7, 8, 9, 3, 2, 1, 0] rfl)
            unfold BX4_mends_49 at hM
            refine lv_iload hx hb dX4_mends_49 (lv_at hl 8 rfl) ?_
            refine lv_sipush (v := (256 : Int32)) hx hb dX4_mends_51 (by decide) ?_
            refine lv_icmp_ge (tgt := 148) hx hb dX4_mends_54 (by decide) (fun c23 => ?_) (fun c23 => ?_)
            · replace hM := if_at_pos hM c23
              exact hJ13 x17 x18 gA_20 fA_21 hM H locs ls hP hS (lv_sub hl [4, 6, 7] rfl)
            · replace hM := if_at_neg hM c23
              refine lv_iload hx hb dX4_mends_57 (lv_at hl 8 rfl) ?_
              obtain ⟨r24, hc25, hM⟩ := bnd1_at hM
              refine cm_i (w2 := (cMain Y nN (hT 0) uD uX (aN 0) (aA 0) uZ uW uP uK uL nS ++ cTold Y hT tT ++ cStand Y aN (hT 0) vN gN ++ cStand Y aA (hT 0) vA gA_20 ++ cRow Y vA 8 fA_21)) (va_runS (As := [.int x19]) (rest := []) ⟨hx, hb, hml, hown, hts⟩ (ctX4_costOf l D Y H.size x19 r24 hc25) (cwS 1 hts gX4_mends_X4_costOf rfl rfl rfl (by decide +kernel) ⟨Nat.le_of_ble_eq_true rfl, Nat.le_of_ble_eq_true rfl⟩) (pcW_S hK hP (hD.same rfl) [] rfl (pc_map pc_nil)) rfl rfl hl.1 rfl (lv_room (Nat.le_of_ble_eq_true rfl)) dX4_mends_59 ⟨Nat.zero_le _, Nat.zero_le _⟩) hP (hD.same rfl) hS hA [] (pc_map pc_nil) (up_old rfl rfl (up_old rfl rfl (up_old rfl rfl (up_old rfl rfl (up_old rfl rfl (up_old rfl rfl (up_old rfl rfl (up_old rfl rfl (up_old rfl rfl (up_old rfl rfl (up_old rfl rfl (up_old rfl rfl (up_old rfl rfl (up_old rfl rfl (up_old rfl rfl (up_old rfl rfl (up_old rfl rfl (up_old rfl rfl (up_old rfl rfl (up_old rfl rfl (up_old rfl rfl up_nil))))))))))))))))))))) (fun H locs hP hS => ?_)
              refine lv_istore (lv' := [(10, .int r24), (0, .ref (nN 0)), (1, .int i1), (2, .int i2), (3, .int i3), (4, .int i4), (6, .int r7), (7, .int x17), (8, .int x18), (9, .int x19)]) hx hb dX4_mends_62 hl (by decide) rfl (fun ls hl => ?_)
              refine lv_iload hx hb dX4_mends_64 (lv_at hl 7 rfl) ?_
              refine lv_iconst (v := (-1 : Int32)) hx hb dX4_mends_66 (by decide) ?_
              refine jn1_at (fun (x26 : Int32) => ∀ (H : Heap) (locs : List Loc) (ls : Array Slot), va_P D vwCl (cMain Y nN (hT 0) uD uX (aN 0) (aA 0) uZ uW uP uK uL nS ++ cTold Y hT tT ++ cStand Y aN (hT 0) vN gN ++ cStand Y aA (hT 0) vA gA_20 ++ cRow Y vA 8 fA_21) H → va_S A s.heap H locs → lv_has ls 12 [(0, .ref (nN 0)), (1, .int i1), (2, .int i2), (3, .int i3), (4, .int i4), (6, .int r7), (7, .int x17), (8, .int x18), (9, .int x19), (10, .int r24)] → W p l e (headSpec wsX4_mends rmX4_mends).room s m ([.ref (nN 0), .int i1, .int i2, .int i3, .int i4] : List Value).toArray below meth c H locs 0 0 QQ (F0 m 82 ls [.int x26])) hM (fun x26 hM H locs ls hP hS hl => ?_) (fun k27 hJ27 hM => ?_)
              · refine lv_istore (lv' := [(11, .int x26), (0, .ref (nN 0)), (1, .int i1), (2, .int i2), (3, .int i3), (4, .int i4), (6, .int r7), (7, .int x17), (8, .int x18), (9, .int x19), (10, .int r24)]) hx hb dX4_mends_82 hl (by decide) rfl (fun ls hl => ?_)
                refine lv_iload hx hb dX4_mends_84 (lv_at hl 9 rfl) ?_
                refine lv_iload hx hb dX4_mends_86 (lv_at hl 6 rfl) ?_
                refine lv_iconst (v := (-1 : Int32)) hx hb dX4_mends_88 (by decide) ?_
                refine lv_ixor hx hb dX4_mends_89 ?_
                refine lv_iand hx hb dX4_mends_90 ?_
                refine jn4_at (fun (x28 : Int32) (x29 : Int32) (gA_30 : GS) (fA_31 : Nat → Int32) => ∀ (H : Heap) (locs : List Loc) (ls : Array Slot), va_P D vwCl (cMain Y nN (hT 0) uD uX (aN 0) (aA 0) uZ uW uP uK uL nS ++ cTold Y hT tT ++ cStand Y aN (hT 0) vN gN ++ cStand Y aA (hT 0) vA gA_30 ++ cRow Y vA 8 fA_31) H → va_S A s.heap H locs → lv_has ls 12 [(0, .ref (nN 0)), (1, .int i1), (2, .int i2), (3, .int i3), (4, .int i4), (6, .int r7), (7, .int x28), (8, .int x29), (9, .int x19)] → W p l e (headSpec wsX4_mends rmX4_mends).room s m ([.ref (nN 0), .int i1, .int i2, .int i3, .int i4] : List Value).toArray below meth c H locs 0 0 QQ (F0 m 142 ls [])) hM (fun x28 x29 gA_30 fA_31 hM H locs ls hP hS hl => ?_) (fun k32 hJ32 hM => ?_)
                · obtain ⟨x33, ex33⟩ : ∃ z : Int32, z = (x19 + 1) := ⟨_, rfl⟩
                  replace hM := nm_at hM ex33
                  refine lv_iinc (v := x33) (lv' := [(9, .int x33), (0, .ref (nN 0)), (1, .int i1), (2, .int i2), (3, .int i3), (4, .int i4), (6, .int r7), (7, .int x28), (8, .int x29)]) hx hb dX4_mends_142 hl (k := 8) rfl (by rw [ex33]; rfl) (by decide) rfl (fun ls hl => ?_)
                  refine lv_goto (tgt := 49) hx hb dX4_mends_145 (by decide) ?_
                  exact ih22 x28 x29 x33 gA_30 fA_31 hM H locs ls hP hS (lv_sub hl [1, 2, 3, 4, 5, 6, 7, 8, 0] rfl)
                · refine lv_if_ne (tgt := 142) hx hb dX4_mends_91 (by decide) (fun c34 => ?_) (fun c34 => ?_)
                  · replace hM := if_at_neg hM c34
                    exact hJ32 x17 x18 gA_20 fA_21 hM H locs ls hP hS (lv_sub hl [1, 2, 3, 4, 5, 6, 7, 8, 9] rfl)
                  · replace hM := if_at_pos hM c34
                    refine lv_iload hx hb dX4_mends_94 (lv_at hl 0 rfl) ?_
                    refine lv_if_ne (tgt := 102) hx hb dX4_mends_96 (by decide) (fun c35 => ?_) (fun c35 => ?_)
                    · replace hM := if_at_neg hM c35
                      refine lv_aload_n hx hb dX4_mends_102 rfl (lv_at hl 1 rfl) ?_
                      refine va_get hx hb hts hi4 hown hK hP 0 rfl rfl 4 (by decide) (hts (.fieldLink RX4 35 "NightPlots" "ahead" "LNightPlots$Standing;") (List.mem_of_getElem? (i := 2) rfl)) (fun _ h9 => h9) rfl dX4_mends_103 ?_
                      refine lv_aload_n hx hb dX4_mends_106 rfl (lv_at hl 1 rfl) ?_
                      refine va_get hx hb hts hi4 hown hK hP 0 rfl rfl 3 (by decide) (hts (.fieldLink RX4 31 "NightPlots" "now" "LNightPlots$Standing;") (List.mem_of_getElem? (i := 3) rfl)) (fun _ h9 => h9) rfl dX4_mends_107 ?_
                      obtain ⟨gS_36, hc37, hM⟩ := bnd1_at hM
                      refine cm_v (w2 := (cMain Y nN (hT 0) uD uX (aN 0) (aA 0) uZ uW uP uK uL nS ++ cTold Y hT tT ++ cStand Y aN (hT 0) vN gN ++ cStand Y aA (hT 0) vA gS_36 ++ cRow Y vA 8 fA_21)) (va_runV (As := [.ref (aN 0)]) (rest := []) ⟨hx, hb, hml, hown, hts⟩ (ctX1_copyFrom l D Y aA aN (hT 0) vA (hT 0) vN H.size gA_20 gN gS_36 hc37) (cwV 1 hts gX4_mends_X1_copyFrom rfl rfl rfl (by decide +kernel) ⟨Nat.le_of_ble_eq_true rfl, Nat.le_of_ble_eq_true rfl⟩) (pcW_V (ci := 1) (q0 := 17) hK hP (hD.same rfl) [17, 18, 19, 14, 15, 16] rfl (pc_map (pc_cons rfl (pc_cons rfl (pc_cons rfl (pc_cons rfl (pc_cons rfl (pc_cons rfl pc_nil))))))) rfl rfl) rfl rfl hl.1 rfl (lv_room (Nat.le_of_ble_eq_true rfl)) dX4_mends_110 ⟨Nat.zero_le _, Nat.zero_le _⟩) hP (hD.same rfl) hS hA [17, 18, 19, 14, 15, 16] (pc_map (pc_cons rfl (pc_cons rfl (pc_cons rfl (pc_cons rfl (pc_cons rfl (pc_cons rfl pc_nil))))))) (up_old rfl rfl (up_old rfl rfl (up_old rfl rfl (up_old rfl rfl (up_old rfl rfl (up_old rfl rfl (up_old rfl rfl (up_old rfl rfl (up_old rfl rfl (up_old rfl rfl (up_old rfl rfl (up_old rfl rfl (up_old rfl rfl (up_old rfl rfl (up_new 3 rfl (up_new 4 rfl (up_new 5 rfl (up_new 0 rfl (up_new 1 rfl (up_new 2 rfl (up_old rfl rfl up_nil))))))))))))))))))))) (fun H locs hP hS => ?_)
                      refine lv_aload_n hx hb dX4_mends_113 rfl (lv_at hl 1 rfl) ?_
                      refine va_get hx hb hts hi4 hown hK hP 0 rfl rfl 4 (by decide) (hts (.fieldLink RX4 35 "NightPlots" "ahead" "LNightPlots$Standing;") (List.mem_of_getElem? (i := 2) rfl)) (fun _ h9 => h9) rfl dX4_mends_114 ?_
                      refine lv_iload hx hb dX4_mends_117 (lv_at hl 9 rfl) ?_
                      refine va_put (ty := .int) hx hb hts hi1 tyX1 tyX1_ok nmX1 hown hK hP (hD.same rfl) hS 17 rfl rfl 8 (by decide) (hts (.fieldLink RX4 197 "NightPlots$Standing" "mended" "I") (List.mem_of_getElem? (i := 4) rfl)) (fun _ h9 => h9) rfl (by decide +kernel) rfl rfl (Nat.le_of_ble_eq_true rfl) dX4_mends_119 (fun H locs hP _ hS => ?_)
                      obtain ⟨gA_38, egA_38⟩ : ∃ z : GS, z = (up2 gS_36 0 8 x19) := ⟨_, rfl⟩
                      have hP : va_P D vwCl (cMain Y nN (hT 0) uD uX (aN 0) (aA 0) uZ uW uP uK uL nS ++ cTold Y hT tT ++ cStand Y aN (hT 0) vN gN ++ cStand Y aA (hT 0) vA gA_38 ++ cRow Y vA 8 fA_21) H := by rw [egA_38]; exact hP
                      replace hM := nm_at hM egA_38
                      refine lv_aload_n hx hb dX4_mends_122 rfl (lv_at hl 1 rfl) ?_
                      refine lv_iload_n hx hb dX4_mends_123 rfl (lv_at hl 2 rfl) ?_
                      refine lv_iload_n hx hb dX4_mends_124 rfl (lv_at hl 3 rfl) ?_
                      refine lv_iconst (v := (0 : Int32)) hx hb dX4_mends_125 (by decide) ?_
                      refine lv_iload_n hx hb dX4_mends_126 rfl (lv_at hl 4 rfl) ?_
                      obtain ⟨r39, gA_40, fA_41, hc42, hM⟩ := bnd3_at hM
                      refine cm_i (w2 := (cMain Y nN (hT 0) uD uX (aN 0) (aA 0) uZ uW uP uK uL nS ++ cTold Y hT tT ++ cStand Y aN (hT 0) vN gN ++ cStand Y aA (hT 0) vA gA_40 ++ cRow Y vA 8 fA_41)) (va_runV (As := [.int i1, .int i2, .int (0 : Int32), .int i3]) (rest := []) ⟨hx, hb, hml, hown, hts⟩ (ctX4_firstMeeting l D Y nN hT aA vA uD uX (aN 0) uZ uW uP uK uL H.size nS tT gA_38 fA_21 i1 i2 (0 : Int32) i3 r39 gA_40 fA_41 hc42) (cwV 4 hts gX4_mends_X4_firstMeeting rfl rfl rfl (by decide +kernel) ⟨Nat.le_of_ble_eq_true rfl, Nat.le_of_ble_eq_true rfl⟩) (pcW_V (ci := 4) (q0 := 0) hK hP (hD.same rfl) [0, 1, 2, 3, 4, 5, 6, 7, 8, 9, 10, 11, 12, 13, 17, 18, 19, 20] rfl (pc_map (pc_cons rfl (pc_cons rfl (pc_cons rfl (pc_cons rfl (pc_cons rfl (pc_cons rfl (pc_cons rfl (pc_cons rfl (pc_cons rfl (pc_cons rfl (pc_cons rfl (pc_cons rfl (pc_cons rfl (pc_cons rfl (pc_cons rfl (pc_cons rfl (pc_cons rfl (pc_cons rfl pc_nil))))))))))))))))))) rfl rfl) rfl rfl hl.1 rfl (lv_room (Nat.le_of_ble_eq_true rfl)) dX4_mends_127 ⟨Nat.zero_le _, Nat.zero_le _⟩) hP (hD.same rfl) hS hA [0, 1, 2, 3, 4, 5, 6, 7, 8, 9, 10, 11, 12, 13, 17, 18, 19, 20] (pc_map (pc_cons rfl (pc_cons rfl (pc_cons rfl (pc_cons rfl (pc_cons rfl (pc_cons rfl (pc_cons rfl (pc_cons rfl (pc_cons rfl (pc_cons rfl (pc_cons rfl (pc_cons rfl (pc_cons rfl (pc_cons rfl (pc_cons rfl (pc_cons rfl (pc_cons rfl (pc_cons rfl pc_nil))))))))))))))))))) (up_new 0 rfl (up_new 1 rfl (up_new 2 rfl (up_new 3 rfl (up_new 4 rfl (up_new 5 rfl (up_new 6 rfl (up_new 7 rfl (up_new 8 rfl (up_new 9 rfl (up_new 10 rfl (up_new 11 rfl (up_new 12 rfl (up_new 13 rfl (up_old rfl rfl (up_old rfl rfl (up_old rfl rfl (up_new 14 rfl (up_new 15 rfl (up_new 16 rfl (up_new 17 rfl up_nil))))))))))))))))))))) (fun H locs hP hS => ?_)
                      refine lv_iconst (v := (-1 : Int32)) hx hb dX4_mends_130 (by decide) ?_
                      refine lv_icmp_eq (tgt := 142) hx hb dX4_mends_131 (by decide) (fun c43 => ?_) (fun c43 => ?_)
                      · replace hM := if_at_pos hM c43
                        exact hJ32 x17 x18 gA_40 fA_41 hM H locs ls hP hS (lv_sub hl [1, 2, 3, 4, 5, 6, 7, 8, 9] rfl)
                      · replace hM := if_at_neg hM c43
                        refine lv_iload hx hb dX4_mends_134 (lv_at hl 9 rfl) ?_
                        refine lv_istore (lv' := [(7, .int x19), (11, .int x26), (0, .ref (nN 0)), (1, .int i1), (2, .int i2), (3, .int i3), (4, .int i4), (6, .int r7), (8, .int x18), (9, .int x19), (10, .int r24)]) hx hb dX4_mends_136 hl (by decide) rfl (fun ls hl => ?_)
                        refine lv_iload hx hb dX4_mends_138 (lv_at hl 10 rfl) ?_
                        refine lv_istore (lv' := [(8, .int r24), (7, .int x19), (11, .int x26), (0, .ref (nN 0)), (1, .int i1), (2, .int i2), (3, .int i3), (4, .int i4), (6, .int r7), (9, .int x19), (10, .int r24)]) hx hb dX4_mends_140 hl (by decide) rfl (fun ls hl => ?_)
                        exact hJ32 x19 r24 gA_40 fA_41 hM H locs ls hP hS (lv_sub hl [3, 4, 5, 6, 7, 8, 1, 0, 9] rfl)
                    · replace hM := if_at_pos hM c35
                      refine lv_goto (tgt := 142) hx hb dX4_mends_99 (by decide) ?_
                      exact hJ32 x17 x18 gA_20 fA_21 hM H locs ls hP hS (lv_sub hl [1, 2, 3, 4, 5, 6, 7, 8, 9] rfl)
              · refine jn0_at (∀ (H : Heap) (locs : List Loc) (ls : Array Slot), va_P D vwCl (cMain Y nN (hT 0) uD uX (aN 0) (aA 0) uZ uW uP uK uL nS ++ cTold Y hT tT ++ cStand Y aN (hT 0) vN gN ++ cStand Y aA (hT 0) vA gA_20 ++ cRow Y vA 8 fA_21) H → va_S A s.heap H locs → lv_has ls 12 [(0, .ref (nN 0)), (1, .int i1), (2, .int i2), (3, .int i3), (4, .int i4), (6, .int r7), (7, .int x17), (8, .int x18), (9, .int x19), (10, .int r24)] → W p l e (headSpec wsX4_mends rmX4_mends).room s m ([.ref (nN 0), .int i1, .int i2, .int i3, .int i4] : List Value).toArray below meth c H locs 0 0 QQ (F0 m 77 ls [])) hM (fun  hM H locs ls hP hS hl => ?_) (fun k44 hJ44 hM => ?_)
                · refine lv_iconst (v := (1 : Int32)) hx hb dX4_mends_77 (by decide) ?_
                  refine lv_goto (tgt := 82) hx hb dX4_mends_78 (by decide) ?_
                  exact hJ27 (1 : Int32) hM H locs ls hP hS (lv_sub hl [0, 1, 2, 3, 4, 5, 6, 7, 8, 9] rfl)
                · refine lv_icmp_eq (tgt := 77) hx hb dX4_mends_67 (by decide) (fun c45 => ?_) (fun c45 => ?_)
                  · replace hM := if_at_pos hM c45
                    exact hJ44 hM H locs ls hP hS (lv_sub hl [1, 2, 3, 4, 5, 6, 7, 8, 9, 0] rfl)
                  · replace hM := if_at_neg hM c45
                    refine lv_iload hx hb dX4_mends_70 (lv_at hl 0 rfl) ?_
                    refine lv_iload hx hb dX4_mends_72 (lv_at hl 8 rfl) ?_
                    refine lv_icmp_ge (tgt := 81) hx hb dX4_mends_74 (by decide) (fun c46 => ?_) (fun c46 => ?_)
                    · replace hM := if_at_pos hM c46
                      refine lv_iconst (v := (0 : Int32)) hx hb dX4_mends_81 (by decide) ?_
                      exact hJ27 (0 : Int32) hM H locs ls hP hS (lv_sub hl [1, 2, 3, 4, 5, 6, 7, 8, 9, 0] rfl)
                    · replace hM := if_at_neg hM c46
                      exact hJ44 hM H locs ls hP hS (lv_sub hl [1, 2, 3, 4, 5, 6, 7, 8, 9, 0] rfl)
        · replace hM := if_at_neg hM c6
          exact hJ4 hM H locs ls hP hS (lv_sub hl [] rfl)
  · replace hM := if_at_neg hM c3
    refine lv_iload hx hb dX4_mends_15 (lv_at hl 0 rfl) ?_
    cases hM
    rw [hQQ]
    exact W.iret hx hb hr (fun t ht hW => ⟨⟨_, (), rfl, rfl, by show va_P D vwCl _ t.heap; rw [ht]; exact hP⟩, hS.F ht⟩) hS.2.2 dX4_mends_17
noncomputable def MX4_seen (nS : GS) (tT : GS) (i1 : Int32) (i2 : Int32) (i3 : Int32) : Option (Int32 × GS) := bnd1 (MX4_isHouse tT i1) fun (r1 : Int32) => jn0 (some ((-2 : Int32), nS)) (fun k3 => if r1 = 0 then (k3) else (bnd1 (MX4_isPlot tT i2) fun (r5 : Int32) => if r5 = 0 then (k3) else (jn0 (some ((-3 : Int32), nS)) (fun k8 => if i3 < 0 then (k8) else (if i3 ≤ (99 : Int32) then (if (nS 0 13) < (8 : Int32) then (chkI (nS 0 13) 8 (nm (upA nS 3 (upd (nS 3) (nS 0 13).toNatClampNeg i1)) fun (nS_13 : GS) => chkI (nS_13 0 13) 8 (nm (upA nS_13 4 (upd (nS_13 4) (nS_13 0 13).toNatClampNeg i2)) fun (nS_15 : GS) => chkI (nS_15 0 13) 8 (nm (upA nS_15 5 (upd (nS_15 5) (nS_15 0 13).toNatClampNeg i3)) fun (nS_17 : GS) => nm ((nS_17 0 13) + (1 : Int32)) fun (x18 : Int32) => nm (up2 nS_17 0 13 x18) fun (nS_19 : GS) => some ((nS_19 0 13), nS_19))))) else (some ((-5 : Int32), nS))) else (k8))))))
abbrev rmX4_seen : Room := { frames := 2, cells := 0, slots := 0, locals := 80 }
set_option maxHeartbeats 4000000 in
set_option maxRecDepth 100000 in
theorem ctX4_seen (l : Launch) (D : va_G) (Y : Nat → ClassId) (nN : Nat → Nat) (hT : Nat → Nat) (uD : Nat) (uX : Nat) (uN : Nat) (uA : Nat) (uZ : Nat) (uW : Nat) (uP : Nat) (uK : Nat) (uL : Nat) (sz : Nat) (nS : GS) (tT : GS) (i1 : Int32) (i2 : Int32) (i3 : Int32) (rr : Int32) (nSz : GS) (hM : MX4_seen nS tT i1 i2 i3 = some (rr, nSz)) : Met l yX4_seen wsX4_seen rmX4_seen (pcW [.ref (nN 0), .int i1, .int i2, .int i3] sz D Y (cMain Y nN (hT 0) uD uX uN uA uZ uW uP uK uL nS ++ cTold Y hT tT)) (qiW rr D (cMain Y nN (hT 0) uD uX uN uA uZ uW uP uK uL nSz ++ cTold Y hT tT) (va_A (cMain Y nN (hT 0) uD uX uN uA uZ uW uP uK uL nS ++ cTold Y hT tT) sz)) 0 0 (va_A (cMain Y nN (hT 0) uD uX uN uA uZ uW uP uK uL nS ++ cTold Y hT tT) sz) := by
  refine Met.ofW (cc := cX4_seen) (maxL := 4) (ret := (some .int)) (by decide) rfl ?_
  intro p e s m args below meth c s₁ B hml hv
  obtain ⟨rfl, hsz, hP, hK, hD0⟩ := hv
  have hx := B.exec
  have hb := B.bytes
  have hr := B.returns
  have hts := atoms_spec (ws := wsX4_seen) B.pre
  have hown : s.vm.findClass RX4 = some m.cls := findClass_of_methodNamed B.named
  have hlocks := B.notSynchronized
  subst hsz
  have hD := hD0.self (sz := s.heap.size)
  generalize hAe : va_A (cMain Y nN (hT 0) uD uX uN uA uZ uW uP uK uL nS ++ cTold Y hT tT) s.heap.size = A at hD ⊢
  have hA : ∀ q : Nat, s.heap.size ≤ q → A q := fun q h => by rw [← hAe]; exact Or.inr h
  have hS : va_S A s.heap s.heap [] := va_S.rf
  have hi4 : ∀ w ∈ wsX40, w ∈ wsX4_seen := fun w h => List.mem_cons_of_mem _ (List.mem_append_left _ (List.mem_append_right _ h))
  have hl := lv_entry ([.ref (nN 0), .int i1, .int i2, .int i3]) (n := 4) (Nat.le_of_ble_eq_true rfl)
  rw [lg_entry_eq]
  generalize (lg_sl ([.ref (nN 0), .int i1, .int i2, .int i3]) ++ List.replicate (4 - (lg_sl ([.ref (nN 0), .int i1, .int i2, .int i3])).length) Slot.unset).toArray = ls at hl ⊢
  have hl : lv_has ls 4 [(0, .ref (nN 0)), (1, .int i1), (2, .int i2), (3, .int i3)] := hl
  obtain ⟨QQ, hQQ⟩ : ∃ Q : State → Prop, Q = MQ below (qiW rr D (cMain Y nN (hT 0) uD uX uN uA uZ uW uP uK uL nSz ++ cTold Y hT tT) A) ([.ref (nN 0), .int i1, .int i2, .int i3] : List Value).toArray s 0 0 A := ⟨_, rfl⟩
  rw [← hQQ]
  unfold MX4_seen at hM
  suffices hI : ∀ (H : Heap) (locs : List Loc), va_P D vwCl (cMain Y nN (hT 0) uD uX uN uA uZ uW uP uK uL nS ++ cTold Y hT tT) H → va_S A s.heap H locs → W p l e (headSpec wsX4_seen rmX4_seen).room s m ([.ref (nN 0), .int i1, .int i2, .int i3] : List Value).toArray below meth c H locs 0 0 QQ (F0 m 0 ls []) from hI _ _ hP hS
  clear hP hS
  intro H locs hP hS
  refine lv_aload_n hx hb dX4_seen_0 rfl (lv_at hl 0 rfl) ?_
  refine lv_iload_n hx hb dX4_seen_1 rfl (lv_at hl 1 rfl) ?_
  obtain ⟨r1, hc2, hM⟩ := bnd1_at hM
  refine co_i (va_runV (As := [.int i1]) (rest := []) ⟨hx, hb, hml, hown, hts⟩ (ctX4_isHouse l D Y nN hT uD uX uN uA uZ uW uP uK uL H.size nS tT i1 r1 hc2) (cwV 1 hts gX4_seen_X4_isHouse rfl rfl rfl (by decide +kernel) ⟨Nat.le_of_ble_eq_true rfl, Nat.le_of_ble_eq_true rfl⟩) (pcW_V0 (ci := 4) (q0 := 0) hK hP (hD.same rfl) rfl rfl) rfl rfl hl.1 rfl (lv_room (Nat.le_of_ble_eq_true rfl)) dX4_seen_2 ⟨Nat.zero_le _, Nat.zero_le _⟩) (hD.same rfl) hS hA (fun H locs hP hS => ?_)
  refine jn0_at (∀ (H : Heap) (locs : List Loc) (ls : Array Slot), va_P D vwCl (cMain Y nN (hT 0) uD uX uN uA uZ uW uP uK uL nS ++ cTold Y hT tT) H → va_S A s.heap H locs → lv_has ls 4 [] → W p l e (headSpec wsX4_seen rmX4_seen).room s m ([.ref (nN 0), .int i1, .int i2, .int i3] : List Value).toArray below meth c H locs 0 0 QQ (F0 m 16 ls [])) hM (fun  hM H locs ls hP hS hl => ?_) (fun k3 hJ3 hM => ?_)
  · refine lv_bipush (v := (-2 : Int32)) hx hb dX4_seen_16 (by decide) ?_
    cases hM
    rw [hQQ]
    exact W.iret hx hb hr (fun t ht hW => ⟨⟨_, (), rfl, rfl, by show va_P D vwCl _ t.heap; rw [ht]; exact hP⟩, hS.F ht⟩) hS.2.2 dX4_seen_18
  · refine lv_if_eq (tgt := 16) hx hb dX4_seen_5 (by decide) (fun c4 => ?_) (fun c4 => ?_)
    · replace hM := if_at_pos hM c4
      exact hJ3 hM H locs ls hP hS (lv_sub hl [] rfl)
    · replace hM := if_at_neg hM c4
      refine lv_aload_n hx hb dX4_seen_8 rfl (lv_at hl 0 rfl) ?_
      refine lv_iload_n hx hb dX4_seen_9 rfl (lv_at hl 2 rfl) ?_
      obtain ⟨r5, hc6, hM⟩ := bnd1_at hM
      refine co_i (va_runV (As := [.int i2]) (rest := []) ⟨hx, hb, hml, hown, hts⟩ (ctX4_isPlot l D Y nN hT uD uX uN uA uZ uW uP uK uL H.size nS tT i2 r5 hc6) (cwV 1 hts gX4_seen_X4_isPlot rfl rfl rfl (by decide +kernel) ⟨Nat.le_of_ble_eq_true rfl, Nat.le_of_ble_eq_true rfl⟩) (pcW_V0 (ci := 4) (q0 := 0) hK hP (hD.same rfl) rfl rfl) rfl rfl hl.1 rfl (lv_room (Nat.le_of_ble_eq_true rfl)) dX4_seen_10 ⟨Nat.zero_le _, Nat.zero_le _⟩) (hD.same rfl) hS hA (fun H locs hP hS => ?_)
      refine lv_if_ne (tgt := 19) hx hb dX4_seen_13 (by decide) (fun c7 => ?_) (fun c7 => ?_)
      · replace hM := if_at_neg hM c7
        refine lv_iload_n hx hb dX4_seen_19 rfl (lv_at hl 3 rfl) ?_
        refine jn0_at (∀ (H : Heap) (locs : List Loc) (ls : Array Slot), va_P D vwCl (cMain Y nN (hT 0) uD uX uN uA uZ uW uP uK uL nS ++ cTold Y hT tT) H → va_S A s.heap H locs → lv_has ls 4 [] → W p l e (headSpec wsX4_seen rmX4_seen).room s m ([.ref (nN 0), .int i1, .int i2, .int i3] : List Value).toArray below meth c H locs 0 0 QQ (F0 m 29 ls [])) hM (fun  hM H locs ls hP hS hl => ?_) (fun k8 hJ8 hM => ?_)
        · refine lv_bipush (v := (-3 : Int32)) hx hb dX4_seen_29 (by decide) ?_
          cases hM
          rw [hQQ]
          exact W.iret hx hb hr (fun t ht hW => ⟨⟨_, (), rfl, rfl, by show va_P D vwCl _ t.heap; rw [ht]; exact hP⟩, hS.F ht⟩) hS.2.2 dX4_seen_31
        · refine lv_if_lt (tgt := 29) hx hb dX4_seen_20 (by decide) (fun c9 => ?_) (fun c9 => ?_)
          · replace hM := if_at_pos hM c9
            exact hJ8 hM H locs ls hP hS (lv_sub hl [] rfl)
          · replace hM := if_at_neg hM c9
            refine lv_iload_n hx hb dX4_seen_23 rfl (lv_at hl 3 rfl) ?_
            refine lv_bipush (v := (99 : Int32)) hx hb dX4_seen_24 (by decide) ?_
            refine lv_icmp_le (tgt := 32) hx hb dX4_seen_26 (by decide) (fun c10 => ?_) (fun c10 => ?_)
            · replace hM := if_at_pos hM c10
              refine lv_aload_n hx hb dX4_seen_32 rfl (lv_at hl 0 rfl) ?_
              refine va_get hx hb hts hi4 hown hK hP 0 rfl rfl 13 (by decide) (hts (.fieldLink RX4 90 "NightPlots" "seenSoFar" "I") (List.mem_of_getElem? (i := 1) rfl)) (fun _ h9 => h9) rfl dX4_seen_33 ?_
              refine lv_bipush (v := (8 : Int32)) hx hb dX4_seen_36 (by decide) ?_
              refine lv_icmp_lt (tgt := 44) hx hb dX4_seen_38 (by decide) (fun c11 => ?_) (fun c11 => ?_)
              · replace hM := if_at_pos hM c11
                refine lv_aload_n hx hb dX4_seen_44 rfl (lv_at hl 0 rfl) ?_
                refine va_get hx hb hts hi4 hown hK hP 0 rfl rfl 10 (by decide) (hts (.fieldLink RX4 63 "NightPlots" "seenHouse" "[I") (List.mem_of_getElem? (i := 2) rfl)) (fun _ h9 => h9) rfl dX4_seen_45 ?_
                refine lv_aload_n hx hb dX4_seen_48 rfl (lv_at hl 0 rfl) ?_
                refine va_get hx hb hts hi4 hown hK hP 0 rfl rfl 13 (by decide) (hts (.fieldLink RX4 90 "NightPlots" "seenSoFar" "I") (List.mem_of_getElem? (i := 1) rfl)) (fun _ h9 => h9) rfl dX4_seen_49 ?_
                refine lv_iload_n hx hb dX4_seen_52 rfl (lv_at hl 1 rfl) ?_
                obtain ⟨hi_12, hM⟩ := chkI_at hM
                refine va_iast hx hb hK hP (hD.same rfl) hS 3 0 rfl rfl hi_12 dX4_seen_53 (fun H locs hP _ hS => ?_)
                obtain ⟨nS_13, enS_13⟩ : ∃ z : GS, z = (upA nS 3 (upd (nS 3) (nS 0 13).toNatClampNeg i1)) := ⟨_, rfl⟩
                have hP : va_P D vwCl (cMain Y nN (hT 0) uD uX uN uA uZ uW uP uK uL nS_13 ++ cTold Y hT tT) H := by rw [enS_13]; exact hP
                replace hM := nm_at hM enS_13
                refine lv_aload_n hx hb dX4_seen_54 rfl (lv_at hl 0 rfl) ?_
                refine va_get hx hb hts hi4 hown hK hP 0 rfl rfl 11 (by decide) (hts (.fieldLink RX4 66 "NightPlots" "seenPlot" "[I") (List.mem_of_getElem? (i := 3) rfl)) (fun _ h9 => h9) rfl dX4_seen_55 ?_
                refine lv_aload_n hx hb dX4_seen_58 rfl (lv_at hl 0 rfl) ?_
                refine va_get hx hb hts hi4 hown hK hP 0 rfl rfl 13 (by decide) (hts (.fieldLink RX4 90 "NightPlots" "seenSoFar" "I") (List.mem_of_getElem? (i := 1) rfl)) (fun _ h9 => h9) rfl dX4_seen_59 ?_
                refine lv_iload_n hx hb dX4_seen_62 rfl (lv_at hl 2 rfl) ?_
                obtain ⟨hi_14, hM⟩ := chkI_at hM
                refine va_iast hx hb hK hP (hD.same rfl) hS 4 0 rfl rfl hi_14 dX4_seen_63 (fun H locs hP _ hS => ?_)
                obtain ⟨nS_15, enS_15⟩ : ∃ z : GS, z = (upA nS_13 4 (upd (nS_13 4) (nS_13 0 13).toNatClampNeg i2)) := ⟨_, rfl⟩
                have hP : va_P D vwCl (cMain Y nN (hT 0) uD uX uN uA uZ uW uP uK uL nS_15 ++ cTold Y hT tT) H := by rw [enS_15]; exact hP
                replace hM := nm_at hM enS_15
                refine lv_aload_n hx hb dX4_seen_64 rfl (lv_at hl 0 rfl) ?_
                refine va_get hx hb hts hi4 hown hK hP 0 rfl rfl 12 (by decide) (hts (.fieldLink RX4 69 "NightPlots" "seenNight" "[I") (List.mem_of_getElem? (i := 4) rfl)) (fun _ h9 => h9) rfl dX4_seen_65 ?_
                refine lv_aload_n hx hb dX4_seen_68 rfl (lv_at hl 0 rfl) ?_
                refine va_get hx hb hts hi4 hown hK hP 0 rfl rfl 13 (by decide) (hts (.fieldLink RX4 90 "NightPlots" "seenSoFar" "I") (List.mem_of_getElem? (i := 1) rfl)) (fun _ h9 => h9) rfl dX4_seen_69 ?_
                refine lv_iload_n hx hb dX4_seen_72 rfl (lv_at hl 3 rfl) ?_
                obtain ⟨hi_16, hM⟩ := chkI_at hM
                refine va_iast hx hb hK hP (hD.same rfl) hS 5 0 rfl rfl hi_16 dX4_seen_73 (fun H locs hP _ hS => ?_)
                obtain ⟨nS_17, enS_17⟩ : ∃ z : GS, z = (upA nS_15 5 (upd (nS_15 5) (nS_15 0 13).toNatClampNeg i3)) := ⟨_, rfl⟩
                have hP : va_P D vwCl (cMain Y nN (hT 0) uD uX uN uA uZ uW uP uK uL nS_17 ++ cTold Y hT tT) H := by rw [enS_17]; exact hP
                replace hM := nm_at hM enS_17
                refine lv_aload_n hx hb dX4_seen_74 rfl (lv_at hl 0 rfl) ?_
                refine lv_dup hx hb dX4_seen_75 rfl ?_
                refine va_get hx hb hts hi4 hown hK hP 0 rfl rfl 13 (by decide) (hts (.fieldLink RX4 90 "NightPlots" "seenSoFar" "I") (List.mem_of_getElem? (i := 1) rfl)) (fun _ h9 => h9) rfl dX4_seen_76 ?_
                refine lv_iconst (v := (1 : Int32)) hx hb dX4_seen_79 (by decide) ?_
                refine lv_iadd hx hb dX4_seen_80 ?_
                refine lv_topi (fun x18 ex18 => ?_)
                replace hM := nm_at hM ex18
                refine va_put (ty := .int) hx hb hts hi4 tyX4 tyX4_ok nmX4 hown hK hP (hD.same rfl) hS 0 rfl rfl 13 (by decide) (hts (.fieldLink RX4 90 "NightPlots" "seenSoFar" "I") (List.mem_of_getElem? (i := 1) rfl)) (fun _ h9 => h9) rfl (by decide +kernel) rfl rfl (Nat.le_of_ble_eq_true rfl) dX4_seen_81 (fun H locs hP _ hS => ?_)
                obtain ⟨nS_19, enS_19⟩ : ∃ z : GS, z = (up2 nS_17 0 13 x18) := ⟨_, rfl⟩
                have hP : va_P D vwCl (cMain Y nN (hT 0) uD uX uN uA uZ uW uP uK uL nS_19 ++ cTold Y hT tT) H := by rw [enS_19]; exact hP
                replace hM := nm_at hM enS_19
                refine lv_aload_n hx hb dX4_seen_84 rfl (lv_at hl 0 rfl) ?_
                refine va_get hx hb hts hi4 hown hK hP 0 rfl rfl 13 (by decide) (hts (.fieldLink RX4 90 "NightPlots" "seenSoFar" "I") (List.mem_of_getElem? (i := 1) rfl)) (fun _ h9 => h9) rfl dX4_seen_85 ?_
                cases hM
                rw [hQQ]
                exact W.iret hx hb hr (fun t ht hW => ⟨⟨_, (), rfl, rfl, by show va_P D vwCl _ t.heap; rw [ht]; exact hP⟩, hS.F ht⟩) hS.2.2 dX4_seen_88
              · replace hM := if_at_neg hM c11
                refine lv_bipush (v := (-5 : Int32)) hx hb dX4_seen_41 (by decide) ?_
                cases hM
                rw [hQQ]
                exact W.iret hx hb hr (fun t ht hW => ⟨⟨_, (), rfl, rfl, by show va_P D vwCl _ t.heap; rw [ht]; exact hP⟩, hS.F ht⟩) hS.2.2 dX4_seen_43
            · replace hM := if_at_neg hM c10
              exact hJ8 hM H locs ls hP hS (lv_sub hl [] rfl)
      · replace hM := if_at_pos hM c7
        exact hJ3 hM H locs ls hP hS (lv_sub hl [] rfl)
noncomputable def MX4_forget (nS : GS) : Option (Int32 × GS) := nm (nS 0 13) fun (x1 : Int32) => nm (up2 nS 0 13 (0 : Int32)) fun (nS_2 : GS) => some (x1, nS_2)
abbrev rmX4_forget : Room := { frames := 1, cells := 0, slots := 0, locals := 40 }
set_option maxHeartbeats 4000000 in
set_option maxRecDepth 100000 in
theorem ctX4_forget (l : Launch) (D : va_G) (Y : Nat → ClassId) (nN : Nat → Nat) (uT : Nat) (uD : Nat) (uX : Nat) (uN : Nat) (uA : Nat) (uZ : Nat) (uW : Nat) (uP : Nat) (uK : Nat) (uL : Nat) (sz : Nat) (nS : GS) (rr : Int32) (nSz : GS) (hM : MX4_forget nS = some (rr, nSz)) : Met l yX4_forget wsX4_forget rmX4_forget (pcW [.ref (nN 0)] sz D Y (cMain Y nN uT uD uX uN uA uZ uW uP uK uL nS)) (qiW rr D (cMain Y nN uT uD uX uN uA uZ uW uP uK uL nSz) (va_A (cMain Y nN uT uD uX uN uA uZ uW uP uK uL nS) sz)) 0 0 (va_A (cMain Y nN uT uD uX uN uA uZ uW uP uK uL nS) sz) := by
  refine Met.ofW (cc := cX4_forget) (maxL := 2) (ret := (some .int)) (by decide) rfl ?_
  intro p e s m args below meth c s₁ B hml hv
  obtain ⟨rfl, hsz, hP, hK, hD0⟩ := hv
  have hx := B.exec
  have hb := B.bytes
  have hr := B.returns
  have hts := atoms_spec (ws := wsX4_forget) B.pre
  have hown : s.vm.findClass RX4 = some m.cls := findClass_of_methodNamed B.named
  have hlocks := B.notSynchronized
  subst hsz
  have hD := hD0.self (sz := s.heap.size)
  generalize hAe : va_A (cMain Y nN uT uD uX uN uA uZ uW uP uK uL nS) s.heap.size = A at hD ⊢
  have hA : ∀ q : Nat, s.heap.size ≤ q → A q := fun q h => by rw [← hAe]; exact Or.inr h
  have hS : va_S A s.heap s.heap [] := va_S.rf
  have hi4 : ∀ w ∈ wsX40, w ∈ wsX4_forget := fun w h => List.mem_cons_of_mem _ (List.mem_append_right _ h)
  have hl := lv_entry ([.ref (nN 0)]) (n := 2) (Nat.le_of_ble_eq_true rfl)
  rw [lg_entry_eq]
  generalize (lg_sl ([.ref (nN 0)]) ++ List.replicate (2 - (lg_sl ([.ref (nN 0)])).length) Slot.unset).toArray = ls at hl ⊢
  have hl : lv_has ls 2 [(0, .ref (nN 0))] := hl
  obtain ⟨QQ, hQQ⟩ : ∃ Q : State → Prop, Q = MQ below (qiW rr D (cMain Y nN uT uD uX uN uA uZ uW uP uK uL nSz) A) ([.ref (nN 0)] : List Value).toArray s 0 0 A := ⟨_, rfl⟩
  rw [← hQQ]
  unfold MX4_forget at hM
  suffices hI : ∀ (H : Heap) (locs : List Loc), va_P D vwCl (cMain Y nN uT uD uX uN uA uZ uW uP uK uL nS) H → va_S A s.heap H locs → W p l e (headSpec wsX4_forget rmX4_forget).room s m ([.ref (nN 0)] : List Value).toArray below meth c H locs 0 0 QQ (F0 m 0 ls []) from hI _ _ hP hS
  clear hP hS
  intro H locs hP hS
  refine lv_aload_n hx hb dX4_forget_0 rfl (lv_at hl 0 rfl) ?_
  refine va_get hx hb hts hi4 hown hK hP 0 rfl rfl 13 (by decide) (hts (.fieldLink RX4 90 "NightPlots" "seenSoFar" "I") (List.mem_of_getElem? (i := 1) rfl)) (fun _ h9 => h9) rfl dX4_forget_1 ?_
  refine lv_topi (fun x1 ex1 => ?_)
  replace hM := nm_at hM ex1
  refine lv_istore_n (lv' := [(1, .int x1), (0, .ref (nN 0))]) hx hb dX4_forget_4 rfl hl (by decide) rfl (fun ls hl => ?_)
  refine lv_aload_n hx hb dX4_forget_5 rfl (lv_at hl 1 rfl) ?_
  refine lv_iconst (v := (0 : Int32)) hx hb dX4_forget_6 (by decide) ?_
  refine va_put (ty := .int) hx hb hts hi4 tyX4 tyX4_ok nmX4 hown hK hP (hD.same rfl) hS 0 rfl rfl 13 (by decide) (hts (.fieldLink RX4 90 "NightPlots" "seenSoFar" "I") (List.mem_of_getElem? (i := 1) rfl)) (fun _ h9 => h9) rfl (by decide +kernel) rfl rfl (Nat.le_of_ble_eq_true rfl) dX4_forget_7 (fun H locs hP _ hS => ?_)
  obtain ⟨nS_2, enS_2⟩ : ∃ z : GS, z = (up2 nS 0 13 (0 : Int32)) := ⟨_, rfl⟩
  have hP : va_P D vwCl (cMain Y nN uT uD uX uN uA uZ uW uP uK uL nS_2) H := by rw [enS_2]; exact hP
  replace hM := nm_at hM enS_2
  refine lv_iload_n hx hb dX4_forget_10 rfl (lv_at hl 0 rfl) ?_
  cases hM
  rw [hQQ]
  exact W.iret hx hb hr (fun t ht hW => ⟨⟨_, (), rfl, rfl, by show va_P D vwCl _ t.heap; rw [ht]; exact hP⟩, hS.F ht⟩) hS.2.2 dX4_forget_11
noncomputable def BX4_explainsNight_2 (nS : GS) (k1 : Option (Int32)) (i1 : Int32) (gA : GS) (k2 : Option (Int32)) (rec4 : Int32 → Option (Int32)) (x3 : Int32) : Option (Int32) := if (nS 0 13) ≤ x3 then (k1) else (chkI x3 8 (jn0 (nm (x3 + 1) fun (x8 : Int32) => rec4 x8) (fun k7 => if (nS 5 x3.toNatClampNeg) = i1 then (chkI x3 8 (chkI (nS 3 x3.toNatClampNeg) 8 (chkI x3 8 (if (gA 1 (nS 3 x3.toNatClampNeg).toNatClampNeg) = (nS 4 x3.toNatClampNeg) then (k7) else (k2))))) else (k7))))
noncomputable def MX4_explainsNight (nS : GS) (gA : GS) (i1 : Int32) : Option (Int32) := jn0 (some ((1 : Int32))) (fun k1 => jn0 (some ((0 : Int32))) (fun k2 => lq1 (BX4_explainsNight_2 nS k1 i1 gA k2) FU (0 : Int32)))
abbrev rmX4_explainsNight : Room := { frames := 1, cells := 0, slots := 0, locals := 40 }
set_option maxHeartbeats 4000000 in
set_option maxRecDepth 100000 in
theorem ctX4_explainsNight (l : Launch) (D : va_G) (Y : Nat → ClassId) (nN : Nat → Nat) (aA : Nat → Nat) (uT : Nat) (uD : Nat) (uX : Nat) (uN : Nat) (uZ : Nat) (uW : Nat) (uP : Nat) (uK : Nat) (uL : Nat) (vA : Nat) (sz : Nat) (nS : GS) (gA : GS) (i1 : Int32) (rr : Int32) (hM : MX4_explainsNight nS gA i1 = some (rr)) : Met l yX4_explainsNight wsX4_explainsNight rmX4_explainsNight (pcW [.ref (nN 0), .int i1] sz D Y (cMain Y nN uT uD uX uN (aA 0) uZ uW uP uK uL nS ++ cStand Y aA uT vA gA)) (qiW rr D (cMain Y nN uT uD uX uN (aA 0) uZ uW uP uK uL nS ++ cStand Y aA uT vA gA) (va_A (cMain Y nN uT uD uX uN (aA 0) uZ uW uP uK uL nS ++ cStand Y aA uT vA gA) sz)) 0 0 (va_A (cMain Y nN uT uD uX uN (aA 0) uZ uW uP uK uL nS ++ cStand Y aA uT vA gA) sz) := by
  refine Met.ofW (cc := cX4_explainsNight) (maxL := 3) (ret := (some .boolean)) (by decide) rfl ?_
  intro p e s m args below meth c s₁ B hml hv
  obtain ⟨rfl, hsz, hP, hK, hD0⟩ := hv
  have hx := B.exec
  have hb := B.bytes
  have hr := B.returns
  have hts := atoms_spec (ws := wsX4_explainsNight) B.pre
  have hown : s.vm.findClass RX4 = some m.cls := findClass_of_methodNamed B.named
  have hlocks := B.notSynchronized
  subst hsz
  have hD := hD0.self (sz := s.heap.size)
  generalize hAe : va_A (cMain Y nN uT uD uX uN (aA 0) uZ uW uP uK uL nS ++ cStand Y aA uT vA gA) s.heap.size = A at hD ⊢
  have hA : ∀ q : Nat, s.heap.size ≤ q → A q := fun q h => by rw [← hAe]; exact Or.inr h
  have hS : va_S A s.heap s.heap [] := va_S.rf
  have hi1 : ∀ w ∈ wsX10, w ∈ wsX4_explainsNight := fun w h => List.mem_cons_of_mem _ (List.mem_append_right _ h)
  have hi4 : ∀ w ∈ wsX40, w ∈ wsX4_explainsNight := fun w h => List.mem_cons_of_mem _ (List.mem_append_left _ (List.mem_append_right _ h))
  have hl := lv_entry ([.ref (nN 0), .int i1]) (n := 3) (Nat.le_of_ble_eq_true rfl)
  rw [lg_entry_eq]
  generalize (lg_sl ([.ref (nN 0), .int i1]) ++ List.replicate (3 - (lg_sl ([.ref (nN 0), .int i1])).length) Slot.unset).toArray = ls at hl ⊢
  have hl : lv_has ls 3 [(0, .ref (nN 0)), (1, .int i1)] := hl
  obtain ⟨QQ, hQQ⟩ : ∃ Q : State → Prop, Q = MQ below (qiW rr D (cMain Y nN uT uD uX uN (aA 0) uZ uW uP uK uL nS ++ cStand Y aA uT vA gA) A) ([.ref (nN 0), .int i1] : List Value).toArray s 0 0 A := ⟨_, rfl⟩
  rw [← hQQ]
  unfold MX4_explainsNight at hM
  suffices hI : ∀ (H : Heap) (locs : List Loc), va_P D vwCl (cMain Y nN uT uD uX uN (aA 0) uZ uW uP uK uL nS ++ cStand Y aA uT vA gA) H → va_S A s.heap H locs → W p l e (headSpec wsX4_explainsNight rmX4_explainsNight).room s m ([.ref (nN 0), .int i1] : List Value).toArray below meth c H locs 0 0 QQ (F0 m 0 ls []) from hI _ _ hP hS
  clear hP hS
  intro H locs hP hS
  refine lv_iconst (v := (0 : Int32)) hx hb dX4_explainsNight_0 (by decide) ?_
  refine lv_istore_n (lv' := [(2, .int (0 : Int32)), (0, .ref (nN 0)), (1, .int i1)]) hx hb dX4_explainsNight_1 rfl hl (by decide) rfl (fun ls hl => ?_)
  refine jn0_at (∀ (H : Heap) (locs : List Loc) (ls : Array Slot), va_P D vwCl (cMain Y nN uT uD uX uN (aA 0) uZ uW uP uK uL nS ++ cStand Y aA uT vA gA) H → va_S A s.heap H locs → lv_has ls 3 [] → W p l e (headSpec wsX4_explainsNight rmX4_explainsNight).room s m ([.ref (nN 0), .int i1] : List Value).toArray below meth c H locs 0 0 QQ (F0 m 51 ls [])) hM (fun  hM H locs ls hP hS hl => ?_) (fun k1 hJ1 hM => ?_)
  · refine lv_iconst (v := (1 : Int32)) hx hb dX4_explainsNight_51 (by decide) ?_
    cases hM
    rw [hQQ]
    exact W.zret (ty := .boolean) hx hb hr rfl (fun t ht hW => ⟨⟨_, (), rfl, rfl, by show va_P D vwCl _ t.heap; rw [ht]; exact hP⟩, hS.F ht⟩) hS.2.2 dX4_explainsNight_52
  · refine jn0_at (∀ (H : Heap) (locs : List Loc) (ls : Array Slot), va_P D vwCl (cMain Y nN uT uD uX uN (aA 0) uZ uW uP uK uL nS ++ cStand Y aA uT vA gA) H → va_S A s.heap H locs → lv_has ls 3 [] → W p l e (headSpec wsX4_explainsNight rmX4_explainsNight).room s m ([.ref (nN 0), .int i1] : List Value).toArray below meth c H locs 0 0 QQ (F0 m 43 ls [])) hM (fun  hM H locs ls hP hS hl => ?_) (fun k2 hJ2 hM => ?_)
    · refine lv_iconst (v := (0 : Int32)) hx hb dX4_explainsNight_43 (by decide) ?_
      cases hM
      rw [hQQ]
      exact W.zret (ty := .boolean) hx hb hr rfl (fun t ht hW => ⟨⟨_, (), rfl, rfl, by show va_P D vwCl _ t.heap; rw [ht]; exact hP⟩, hS.F ht⟩) hS.2.2 dX4_explainsNight_44
    · refine lq1_at (fun (x3 : Int32) => ∀ (H : Heap) (locs : List Loc) (ls : Array Slot), va_P D vwCl (cMain Y nN uT uD uX uN (aA 0) uZ uW uP uK uL nS ++ cStand Y aA uT vA gA) H → va_S A s.heap H locs → lv_has ls 3 [(0, .ref (nN 0)), (1, .int i1), (2, .int x3)] → W p l e (headSpec wsX4_explainsNight rmX4_explainsNight).room s m ([.ref (nN 0), .int i1] : List Value).toArray below meth c H locs 0 0 QQ (F0 m 2 ls [])) (fun rec4 x3 ih4 hM H locs ls hP hS hl => ?_) FU (0 : Int32) hM H locs ls hP hS (lv_sub hl [1, 2, 0] rfl)
      unfold BX4_explainsNight_2 at hM
      refine lv_iload_n hx hb dX4_explainsNight_2 rfl (lv_at hl 2 rfl) ?_
      refine lv_aload_n hx hb dX4_explainsNight_3 rfl (lv_at hl 0 rfl) ?_
      refine va_get hx hb hts hi4 hown hK hP 0 rfl rfl 13 (by decide) (hts (.fieldLink RX4 90 "NightPlots" "seenSoFar" "I") (List.mem_of_getElem? (i := 1) rfl)) (fun _ h9 => h9) rfl dX4_explainsNight_4 ?_
      refine lv_icmp_ge (tgt := 51) hx hb dX4_explainsNight_7 (by decide) (fun c5 => ?_) (fun c5 => ?_)
      · replace hM := if_at_pos hM c5
        exact hJ1 hM H locs ls hP hS (lv_sub hl [] rfl)
      · replace hM := if_at_neg hM c5
        refine lv_aload_n hx hb dX4_explainsNight_10 rfl (lv_at hl 0 rfl) ?_
        refine va_get hx hb hts hi4 hown hK hP 0 rfl rfl 12 (by decide) (hts (.fieldLink RX4 69 "NightPlots" "seenNight" "[I") (List.mem_of_getElem? (i := 2) rfl)) (fun _ h9 => h9) rfl dX4_explainsNight_11 ?_
        refine lv_iload_n hx hb dX4_explainsNight_14 rfl (lv_at hl 2 rfl) ?_
        obtain ⟨hi_6, hM⟩ := chkI_at hM
        refine va_iald hx hb hK hP 5 0 rfl rfl hi_6 dX4_explainsNight_15 ?_
        refine lv_iload_n hx hb dX4_explainsNight_16 rfl (lv_at hl 1 rfl) ?_
        refine jn0_at (∀ (H : Heap) (locs : List Loc) (ls : Array Slot), va_P D vwCl (cMain Y nN uT uD uX uN (aA 0) uZ uW uP uK uL nS ++ cStand Y aA uT vA gA) H → va_S A s.heap H locs → lv_has ls 3 [(0, .ref (nN 0)), (1, .int i1), (2, .int x3)] → W p l e (headSpec wsX4_explainsNight rmX4_explainsNight).room s m ([.ref (nN 0), .int i1] : List Value).toArray below meth c H locs 0 0 QQ (F0 m 45 ls [])) hM (fun  hM H locs ls hP hS hl => ?_) (fun k7 hJ7 hM => ?_)
        · obtain ⟨x8, ex8⟩ : ∃ z : Int32, z = (x3 + 1) := ⟨_, rfl⟩
          replace hM := nm_at hM ex8
          refine lv_iinc (v := x8) (lv' := [(2, .int x8), (0, .ref (nN 0)), (1, .int i1)]) hx hb dX4_explainsNight_45 hl (k := 2) rfl (by rw [ex8]; rfl) (by decide) rfl (fun ls hl => ?_)
          refine lv_goto (tgt := 2) hx hb dX4_explainsNight_48 (by decide) ?_
          exact ih4 x8 hM H locs ls hP hS (lv_sub hl [1, 2, 0] rfl)
        · refine lv_icmp_ne (tgt := 45) hx hb dX4_explainsNight_17 (by decide) (fun c9 => ?_) (fun c9 => ?_)
          · replace hM := if_at_neg hM c9
            exact hJ7 hM H locs ls hP hS (lv_sub hl [0, 1, 2] rfl)
          · replace hM := if_at_pos hM c9
            refine lv_aload_n hx hb dX4_explainsNight_20 rfl (lv_at hl 0 rfl) ?_
            refine va_get hx hb hts hi4 hown hK hP 0 rfl rfl 4 (by decide) (hts (.fieldLink RX4 35 "NightPlots" "ahead" "LNightPlots$Standing;") (List.mem_of_getElem? (i := 3) rfl)) (fun _ h9 => h9) rfl dX4_explainsNight_21 ?_
            refine va_get hx hb hts hi1 hown hK hP 6 rfl rfl 1 (by decide) (hts (.fieldLink RX4 113 "NightPlots$Standing" "place" "[I") (List.mem_of_getElem? (i := 4) rfl)) (fun _ h9 => h9) rfl dX4_explainsNight_24 ?_
            refine lv_aload_n hx hb dX4_explainsNight_27 rfl (lv_at hl 0 rfl) ?_
            refine va_get hx hb hts hi4 hown hK hP 0 rfl rfl 10 (by decide) (hts (.fieldLink RX4 63 "NightPlots" "seenHouse" "[I") (List.mem_of_getElem? (i := 5) rfl)) (fun _ h9 => h9) rfl dX4_explainsNight_28 ?_
            refine lv_iload_n hx hb dX4_explainsNight_31 rfl (lv_at hl 2 rfl) ?_
            obtain ⟨hi_10, hM⟩ := chkI_at hM
            refine va_iald hx hb hK hP 3 0 rfl rfl hi_10 dX4_explainsNight_32 ?_
            obtain ⟨hi_11, hM⟩ := chkI_at hM
            refine va_iald hx hb hK hP 7 0 rfl rfl hi_11 dX4_explainsNight_33 ?_
            refine lv_aload_n hx hb dX4_explainsNight_34 rfl (lv_at hl 0 rfl) ?_
            refine va_get hx hb hts hi4 hown hK hP 0 rfl rfl 11 (by decide) (hts (.fieldLink RX4 66 "NightPlots" "seenPlot" "[I") (List.mem_of_getElem? (i := 6) rfl)) (fun _ h9 => h9) rfl dX4_explainsNight_35 ?_
            refine lv_iload_n hx hb dX4_explainsNight_38 rfl (lv_at hl 2 rfl) ?_
            obtain ⟨hi_12, hM⟩ := chkI_at hM
            refine va_iald hx hb hK hP 4 0 rfl rfl hi_12 dX4_explainsNight_39 ?_
            refine lv_icmp_eq (tgt := 45) hx hb dX4_explainsNight_40 (by decide) (fun c13 => ?_) (fun c13 => ?_)
            · replace hM := if_at_pos hM c13
              exact hJ7 hM H locs ls hP hS (lv_sub hl [0, 1, 2] rfl)
            · replace hM := if_at_neg hM c13
              exact hJ2 hM H locs ls hP hS (lv_sub hl [] rfl)
