noncomputable def BX4_explainsAllSeen_9 (k5 : GS → (Nat → Int32) → Option (Int32 × GS × (Nat → Int32))) (nS : GS) (k8 : GS → (Nat → Int32) → Option (Int32 × GS × (Nat → Int32))) (tT : GS) (i1 : Int32) (rec12 : Int32 → GS → (Nat → Int32) → Option (Int32 × GS × (Nat → Int32))) (x9 : Int32) (gA_10 : GS) (fA_11 : Nat → Int32) : Option (Int32 × GS × (Nat → Int32)) := if (99 : Int32) < x9 then (k5 gA_10 fA_11) else (bnd1 (MX4_explainsNight nS gA_10 x9) fun (r14 : Int32) => if r14 = 0 then (k8 gA_10 fA_11) else (bnd2 (MX1_passNight gA_10 fA_11 tT i1) fun (gS_17 : GS) (fW_18 : Nat → Int32) => nm (x9 + 1) fun (x20 : Int32) => rec12 x20 gS_17 fW_18))
noncomputable def MX4_explainsAllSeen (nS : GS) (tT : GS) (gA : GS) (fA : Nat → Int32) (i1 : Int32) : Option (Int32 × GS × (Nat → Int32)) := bnd1 (MX1_startAsTold gA tT) fun (gS_1 : GS) => jn2 (fun (gA_3 : GS) (fA_4 : Nat → Int32) => some ((1 : Int32), gA_3, fA_4)) (fun k5 => jn2 (fun (gA_6 : GS) (fA_7 : Nat → Int32) => some ((0 : Int32), gA_6, fA_7)) (fun k8 => lq3 (BX4_explainsAllSeen_9 k5 nS k8 tT i1) FU (0 : Int32) gS_1 fA))
abbrev rmX4_explainsAllSeen : Room := { frames := 6, cells := 0, slots := 0, locals := 240 }
set_option maxHeartbeats 4000000 in
set_option maxRecDepth 100000 in
theorem ctX4_explainsAllSeen (l : Launch) (D : va_G) (Y : Nat → ClassId) (nN : Nat → Nat) (hT : Nat → Nat) (aA : Nat → Nat) (vA : Nat) (uD : Nat) (uX : Nat) (uN : Nat) (uZ : Nat) (uW : Nat) (uP : Nat) (uK : Nat) (uL : Nat) (sz : Nat) (nS : GS) (tT : GS) (gA : GS) (fA : Nat → Int32) (i1 : Int32) (rr : Int32) (gAz : GS) (fAz : Nat → Int32) (hM : MX4_explainsAllSeen nS tT gA fA i1 = some (rr, gAz, fAz)) : Met l yX4_explainsAllSeen wsX4_explainsAllSeen rmX4_explainsAllSeen (pcW [.ref (nN 0), .int i1] sz D Y (cMain Y nN (hT 0) uD uX uN (aA 0) uZ uW uP uK uL nS ++ cTold Y hT tT ++ cStand Y aA (hT 0) vA gA ++ cRow Y vA 8 fA)) (qiW rr D (cMain Y nN (hT 0) uD uX uN (aA 0) uZ uW uP uK uL nS ++ cTold Y hT tT ++ cStand Y aA (hT 0) vA gAz ++ cRow Y vA 8 fAz) (va_A (cMain Y nN (hT 0) uD uX uN (aA 0) uZ uW uP uK uL nS ++ cTold Y hT tT ++ cStand Y aA (hT 0) vA gA ++ cRow Y vA 8 fA) sz)) 0 0 (va_A (cMain Y nN (hT 0) uD uX uN (aA 0) uZ uW uP uK uL nS ++ cTold Y hT tT ++ cStand Y aA (hT 0) vA gA ++ cRow Y vA 8 fA) sz) := by
  refine Met.ofW (cc := cX4_explainsAllSeen) (maxL := 3) (ret := (some .boolean)) (by decide) rfl ?_
  intro p e s m args below meth c s₁ B hml hv
  obtain ⟨rfl, hsz, hP, hK, hD0⟩ := hv
  have hx := B.exec
  have hb := B.bytes
  have hr := B.returns
  have hts := atoms_spec (ws := wsX4_explainsAllSeen) B.pre
  have hown : s.vm.findClass RX4 = some m.cls := findClass_of_methodNamed B.named
  have hlocks := B.notSynchronized
  subst hsz
  have hD := hD0.self (sz := s.heap.size)
  generalize hAe : va_A (cMain Y nN (hT 0) uD uX uN (aA 0) uZ uW uP uK uL nS ++ cTold Y hT tT ++ cStand Y aA (hT 0) vA gA ++ cRow Y vA 8 fA) s.heap.size = A at hD ⊢
  have hA : ∀ q : Nat, s.heap.size ≤ q → A q := fun q h => by rw [← hAe]; exact Or.inr h
  have hS : va_S A s.heap s.heap [] := va_S.rf
  have hi4 : ∀ w ∈ wsX40, w ∈ wsX4_explainsAllSeen := fun w h => List.mem_cons_of_mem _ (List.mem_append_left _ (List.mem_append_left _ (List.mem_append_right _ h)))
  have hl := lv_entry ([.ref (nN 0), .int i1]) (n := 3) (Nat.le_of_ble_eq_true rfl)
  rw [lg_entry_eq]
  generalize (lg_sl ([.ref (nN 0), .int i1]) ++ List.replicate (3 - (lg_sl ([.ref (nN 0), .int i1])).length) Slot.unset).toArray = ls at hl ⊢
  have hl : lv_has ls 3 [(0, .ref (nN 0)), (1, .int i1)] := hl
  obtain ⟨QQ, hQQ⟩ : ∃ Q : State → Prop, Q = MQ below (qiW rr D (cMain Y nN (hT 0) uD uX uN (aA 0) uZ uW uP uK uL nS ++ cTold Y hT tT ++ cStand Y aA (hT 0) vA gAz ++ cRow Y vA 8 fAz) A) ([.ref (nN 0), .int i1] : List Value).toArray s 0 0 A := ⟨_, rfl⟩
  rw [← hQQ]
  unfold MX4_explainsAllSeen at hM
  suffices hI : ∀ (H : Heap) (locs : List Loc), va_P D vwCl (cMain Y nN (hT 0) uD uX uN (aA 0) uZ uW uP uK uL nS ++ cTold Y hT tT ++ cStand Y aA (hT 0) vA gA ++ cRow Y vA 8 fA) H → va_S A s.heap H locs → W p l e (headSpec wsX4_explainsAllSeen rmX4_explainsAllSeen).room s m ([.ref (nN 0), .int i1] : List Value).toArray below meth c H locs 0 0 QQ (F0 m 0 ls []) from hI _ _ hP hS
  clear hP hS
  intro H locs hP hS
  refine lv_aload_n hx hb dX4_explainsAllSeen_0 rfl (lv_at hl 0 rfl) ?_
  refine va_get hx hb hts hi4 hown hK hP 0 rfl rfl 4 (by decide) (hts (.fieldLink RX4 35 "NightPlots" "ahead" "LNightPlots$Standing;") (List.mem_of_getElem? (i := 1) rfl)) (fun _ h9 => h9) rfl dX4_explainsAllSeen_1 ?_
  obtain ⟨gS_1, hc2, hM⟩ := bnd1_at hM
  refine cm_v (w2 := (cMain Y nN (hT 0) uD uX uN (aA 0) uZ uW uP uK uL nS ++ cTold Y hT tT ++ cStand Y aA (hT 0) vA gS_1 ++ cRow Y vA 8 fA)) (va_runV (As := []) (rest := []) ⟨hx, hb, hml, hown, hts⟩ (ctX1_startAsTold l D Y aA hT vA H.size gA tT gS_1 hc2) (cwV 0 hts gX4_explainsAllSeen_X1_startAsTold rfl rfl rfl (by decide +kernel) ⟨Nat.le_of_ble_eq_true rfl, Nat.le_of_ble_eq_true rfl⟩) (pcW_V (ci := 1) (q0 := 14) hK hP (hD.same rfl) [14, 15, 16, 6, 7, 8, 9, 10, 11, 12, 13] rfl (pc_map (pc_cons rfl (pc_cons rfl (pc_cons rfl (pc_cons rfl (pc_cons rfl (pc_cons rfl (pc_cons rfl (pc_cons rfl (pc_cons rfl (pc_cons rfl (pc_cons rfl pc_nil)))))))))))) rfl rfl) rfl rfl hl.1 rfl (lv_room (Nat.le_of_ble_eq_true rfl)) dX4_explainsAllSeen_4 ⟨Nat.zero_le _, Nat.zero_le _⟩) hP (hD.same rfl) hS hA [14, 15, 16, 6, 7, 8, 9, 10, 11, 12, 13] (pc_map (pc_cons rfl (pc_cons rfl (pc_cons rfl (pc_cons rfl (pc_cons rfl (pc_cons rfl (pc_cons rfl (pc_cons rfl (pc_cons rfl (pc_cons rfl (pc_cons rfl pc_nil)))))))))))) (up_old rfl rfl (up_old rfl rfl (up_old rfl rfl (up_old rfl rfl (up_old rfl rfl (up_old rfl rfl (up_new 3 rfl (up_new 4 rfl (up_new 5 rfl (up_new 6 rfl (up_new 7 rfl (up_new 8 rfl (up_new 9 rfl (up_new 10 rfl (up_new 0 rfl (up_new 1 rfl (up_new 2 rfl (up_old rfl rfl up_nil)))))))))))))))))) (fun H locs hP hS => ?_)
  refine lv_iconst (v := (0 : Int32)) hx hb dX4_explainsAllSeen_7 (by decide) ?_
  refine lv_istore_n (lv' := [(2, .int (0 : Int32)), (0, .ref (nN 0)), (1, .int i1)]) hx hb dX4_explainsAllSeen_8 rfl hl (by decide) rfl (fun ls hl => ?_)
  refine jn2_at (fun (gA_3 : GS) (fA_4 : Nat → Int32) => ∀ (H : Heap) (locs : List Loc) (ls : Array Slot), va_P D vwCl (cMain Y nN (hT 0) uD uX uN (aA 0) uZ uW uP uK uL nS ++ cTold Y hT tT ++ cStand Y aA (hT 0) vA gA_3 ++ cRow Y vA 8 fA_4) H → va_S A s.heap H locs → lv_has ls 3 [] → W p l e (headSpec wsX4_explainsAllSeen rmX4_explainsAllSeen).room s m ([.ref (nN 0), .int i1] : List Value).toArray below meth c H locs 0 0 QQ (F0 m 39 ls [])) hM (fun gA_3 fA_4 hM H locs ls hP hS hl => ?_) (fun k5 hJ5 hM => ?_)
  · refine lv_iconst (v := (1 : Int32)) hx hb dX4_explainsAllSeen_39 (by decide) ?_
    cases hM
    rw [hQQ]
    exact W.zret (ty := .boolean) hx hb hr rfl (fun t ht hW => ⟨⟨_, (), rfl, rfl, by show va_P D vwCl _ t.heap; rw [ht]; exact hP⟩, hS.F ht⟩) hS.2.2 dX4_explainsAllSeen_40
  · refine jn2_at (fun (gA_6 : GS) (fA_7 : Nat → Int32) => ∀ (H : Heap) (locs : List Loc) (ls : Array Slot), va_P D vwCl (cMain Y nN (hT 0) uD uX uN (aA 0) uZ uW uP uK uL nS ++ cTold Y hT tT ++ cStand Y aA (hT 0) vA gA_6 ++ cRow Y vA 8 fA_7) H → va_S A s.heap H locs → lv_has ls 3 [] → W p l e (headSpec wsX4_explainsAllSeen rmX4_explainsAllSeen).room s m ([.ref (nN 0), .int i1] : List Value).toArray below meth c H locs 0 0 QQ (F0 m 23 ls [])) hM (fun gA_6 fA_7 hM H locs ls hP hS hl => ?_) (fun k8 hJ8 hM => ?_)
    · refine lv_iconst (v := (0 : Int32)) hx hb dX4_explainsAllSeen_23 (by decide) ?_
      cases hM
      rw [hQQ]
      exact W.zret (ty := .boolean) hx hb hr rfl (fun t ht hW => ⟨⟨_, (), rfl, rfl, by show va_P D vwCl _ t.heap; rw [ht]; exact hP⟩, hS.F ht⟩) hS.2.2 dX4_explainsAllSeen_24
    · refine lq3_at (fun (x9 : Int32) (gA_10 : GS) (fA_11 : Nat → Int32) => ∀ (H : Heap) (locs : List Loc) (ls : Array Slot), va_P D vwCl (cMain Y nN (hT 0) uD uX uN (aA 0) uZ uW uP uK uL nS ++ cTold Y hT tT ++ cStand Y aA (hT 0) vA gA_10 ++ cRow Y vA 8 fA_11) H → va_S A s.heap H locs → lv_has ls 3 [(0, .ref (nN 0)), (1, .int i1), (2, .int x9)] → W p l e (headSpec wsX4_explainsAllSeen rmX4_explainsAllSeen).room s m ([.ref (nN 0), .int i1] : List Value).toArray below meth c H locs 0 0 QQ (F0 m 9 ls [])) (fun rec12 x9 gA_10 fA_11 ih12 hM H locs ls hP hS hl => ?_) FU (0 : Int32) gS_1 fA hM H locs ls hP hS (lv_sub hl [1, 2, 0] rfl)
      unfold BX4_explainsAllSeen_9 at hM
      refine lv_iload_n hx hb dX4_explainsAllSeen_9 rfl (lv_at hl 2 rfl) ?_
      refine lv_bipush (v := (99 : Int32)) hx hb dX4_explainsAllSeen_10 (by decide) ?_
      refine lv_icmp_gt (tgt := 39) hx hb dX4_explainsAllSeen_12 (by decide) (fun c13 => ?_) (fun c13 => ?_)
      · replace hM := if_at_pos hM c13
        exact hJ5 gA_10 fA_11 hM H locs ls hP hS (lv_sub hl [] rfl)
      · replace hM := if_at_neg hM c13
        refine lv_aload_n hx hb dX4_explainsAllSeen_15 rfl (lv_at hl 0 rfl) ?_
        refine lv_iload_n hx hb dX4_explainsAllSeen_16 rfl (lv_at hl 2 rfl) ?_
        obtain ⟨r14, hc15, hM⟩ := bnd1_at hM
        refine cm_i (w2 := (cMain Y nN (hT 0) uD uX uN (aA 0) uZ uW uP uK uL nS ++ cTold Y hT tT ++ cStand Y aA (hT 0) vA gA_10 ++ cRow Y vA 8 fA_11)) (va_runV (As := [.int x9]) (rest := []) ⟨hx, hb, hml, hown, hts⟩ (ctX4_explainsNight l D Y nN aA (hT 0) uD uX uN uZ uW uP uK uL vA H.size nS gA_10 x9 r14 hc15) (cwV 1 hts gX4_explainsAllSeen_X4_explainsNight rfl rfl rfl (by decide +kernel) ⟨Nat.le_of_ble_eq_true rfl, Nat.le_of_ble_eq_true rfl⟩) (pcW_V (ci := 4) (q0 := 0) hK hP (hD.same rfl) [0, 1, 2, 3, 4, 5, 14, 15, 16] rfl (pc_map (pc_cons rfl (pc_cons rfl (pc_cons rfl (pc_cons rfl (pc_cons rfl (pc_cons rfl (pc_cons rfl (pc_cons rfl (pc_cons rfl pc_nil)))))))))) rfl rfl) rfl rfl hl.1 rfl (lv_room (Nat.le_of_ble_eq_true rfl)) dX4_explainsAllSeen_17 ⟨Nat.zero_le _, Nat.zero_le _⟩) hP (hD.same rfl) hS hA [0, 1, 2, 3, 4, 5, 14, 15, 16] (pc_map (pc_cons rfl (pc_cons rfl (pc_cons rfl (pc_cons rfl (pc_cons rfl (pc_cons rfl (pc_cons rfl (pc_cons rfl (pc_cons rfl pc_nil)))))))))) (up_new 0 rfl (up_new 1 rfl (up_new 2 rfl (up_new 3 rfl (up_new 4 rfl (up_new 5 rfl (up_old rfl rfl (up_old rfl rfl (up_old rfl rfl (up_old rfl rfl (up_old rfl rfl (up_old rfl rfl (up_old rfl rfl (up_old rfl rfl (up_new 6 rfl (up_new 7 rfl (up_new 8 rfl (up_old rfl rfl up_nil)))))))))))))))))) (fun H locs hP hS => ?_)
        refine lv_if_ne (tgt := 25) hx hb dX4_explainsAllSeen_20 (by decide) (fun c16 => ?_) (fun c16 => ?_)
        · replace hM := if_at_neg hM c16
          refine lv_aload_n hx hb dX4_explainsAllSeen_25 rfl (lv_at hl 0 rfl) ?_
          refine va_get hx hb hts hi4 hown hK hP 0 rfl rfl 4 (by decide) (hts (.fieldLink RX4 35 "NightPlots" "ahead" "LNightPlots$Standing;") (List.mem_of_getElem? (i := 1) rfl)) (fun _ h9 => h9) rfl dX4_explainsAllSeen_26 ?_
          refine lv_iload_n hx hb dX4_explainsAllSeen_29 rfl (lv_at hl 1 rfl) ?_
          obtain ⟨gS_17, fW_18, hc19, hM⟩ := bnd2_at hM
          refine cm_v (w2 := (cMain Y nN (hT 0) uD uX uN (aA 0) uZ uW uP uK uL nS ++ cTold Y hT tT ++ cStand Y aA (hT 0) vA gS_17 ++ cRow Y vA 8 fW_18)) (va_runV (As := [.int i1]) (rest := []) ⟨hx, hb, hml, hown, hts⟩ (ctX1_passNight l D Y aA vA hT H.size gA_10 fA_11 tT i1 gS_17 fW_18 hc19) (cwV 1 hts gX4_explainsAllSeen_X1_passNight rfl rfl rfl (by decide +kernel) ⟨Nat.le_of_ble_eq_true rfl, Nat.le_of_ble_eq_true rfl⟩) (pcW_V (ci := 1) (q0 := 14) hK hP (hD.same rfl) [14, 15, 16, 17, 6, 7, 8, 9, 10, 11, 12, 13] rfl (pc_map (pc_cons rfl (pc_cons rfl (pc_cons rfl (pc_cons rfl (pc_cons rfl (pc_cons rfl (pc_cons rfl (pc_cons rfl (pc_cons rfl (pc_cons rfl (pc_cons rfl (pc_cons rfl pc_nil))))))))))))) rfl rfl) rfl rfl hl.1 rfl (lv_room (Nat.le_of_ble_eq_true rfl)) dX4_explainsAllSeen_30 ⟨Nat.zero_le _, Nat.zero_le _⟩) hP (hD.same rfl) hS hA [14, 15, 16, 17, 6, 7, 8, 9, 10, 11, 12, 13] (pc_map (pc_cons rfl (pc_cons rfl (pc_cons rfl (pc_cons rfl (pc_cons rfl (pc_cons rfl (pc_cons rfl (pc_cons rfl (pc_cons rfl (pc_cons rfl (pc_cons rfl (pc_cons rfl pc_nil))))))))))))) (up_old rfl rfl (up_old rfl rfl (up_old rfl rfl (up_old rfl rfl (up_old rfl rfl (up_old rfl rfl (up_new 4 rfl (up_new 5 rfl (up_new 6 rfl (up_new 7 rfl (up_new 8 rfl (up_new 9 rfl (up_new 10 rfl (up_new 11 rfl (up_new 0 rfl (up_new 1 rfl (up_new 2 rfl (up_new 3 rfl up_nil)))))))))))))))))) (fun H locs hP hS => ?_)
          obtain ⟨x20, ex20⟩ : ∃ z : Int32, z = (x9 + 1) := ⟨_, rfl⟩
          replace hM := nm_at hM ex20
          refine lv_iinc (v := x20) (lv' := [(2, .int x20), (0, .ref (nN 0)), (1, .int i1)]) hx hb dX4_explainsAllSeen_33 hl (k := 2) rfl (by rw [ex20]; rfl) (by decide) rfl (fun ls hl => ?_)
          refine lv_goto (tgt := 9) hx hb dX4_explainsAllSeen_36 (by decide) ?_
          exact ih12 x20 gS_17 fW_18 hM H locs ls hP hS (lv_sub hl [1, 2, 0] rfl)
        · replace hM := if_at_pos hM c16
          exact hJ8 gA_10 fA_11 hM H locs ls hP hS (lv_sub hl [] rfl)
noncomputable def BX4_laws_4 (k4 : Int32 → GS → (Nat → Int32) → Option (Int32 × GS × (Nat → Int32))) (nS : GS) (tT : GS) (rec9 : Int32 → Int32 → GS → (Nat → Int32) → Option (Int32 × GS × (Nat → Int32))) (x5 : Int32) (x6 : Int32) (gA_7 : GS) (fA_8 : Nat → Int32) : Option (Int32 × GS × (Nat → Int32)) := if (2 : Int32) < x6 then (k4 x5 gA_7 fA_8) else (bnd3 (MX4_explainsAllSeen nS tT gA_7 fA_8 x6) fun (r11 : Int32) (gA_12 : GS) (fA_13 : Nat → Int32) => jn1 (fun (x15 : Int32) => nm (x6 + 1) fun (x17 : Int32) => rec9 x15 x17 gA_12 fA_13) (fun k16 => if r11 = 0 then (k16 x5) else (nm (x5 ||| ((1 : Int32) <<< (x6 &&& 31))) fun (x19 : Int32) => k16 x19)))
noncomputable def MX4_laws (nS : GS) (tT : GS) (gA : GS) (fA : Nat → Int32) : Option (Int32 × GS × (Nat → Int32)) := jn3 (fun (x1 : Int32) (gA_2 : GS) (fA_3 : Nat → Int32) => some (x1, gA_2, fA_3)) (fun k4 => lq4 (BX4_laws_4 k4 nS tT) FU (0 : Int32) (0 : Int32) gA fA)
abbrev rmX4_laws : Room := { frames := 7, cells := 0, slots := 0, locals := 280 }
set_option maxHeartbeats 4000000 in
set_option maxRecDepth 100000 in
theorem ctX4_laws (l : Launch) (D : va_G) (Y : Nat → ClassId) (nN : Nat → Nat) (hT : Nat → Nat) (aA : Nat → Nat) (vA : Nat) (uD : Nat) (uX : Nat) (uN : Nat) (uZ : Nat) (uW : Nat) (uP : Nat) (uK : Nat) (uL : Nat) (sz : Nat) (nS : GS) (tT : GS) (gA : GS) (fA : Nat → Int32) (rr : Int32) (gAz : GS) (fAz : Nat → Int32) (hM : MX4_laws nS tT gA fA = some (rr, gAz, fAz)) : Met l yX4_laws wsX4_laws rmX4_laws (pcW [.ref (nN 0)] sz D Y (cMain Y nN (hT 0) uD uX uN (aA 0) uZ uW uP uK uL nS ++ cTold Y hT tT ++ cStand Y aA (hT 0) vA gA ++ cRow Y vA 8 fA)) (qiW rr D (cMain Y nN (hT 0) uD uX uN (aA 0) uZ uW uP uK uL nS ++ cTold Y hT tT ++ cStand Y aA (hT 0) vA gAz ++ cRow Y vA 8 fAz) (va_A (cMain Y nN (hT 0) uD uX uN (aA 0) uZ uW uP uK uL nS ++ cTold Y hT tT ++ cStand Y aA (hT 0) vA gA ++ cRow Y vA 8 fA) sz)) 0 0 (va_A (cMain Y nN (hT 0) uD uX uN (aA 0) uZ uW uP uK uL nS ++ cTold Y hT tT ++ cStand Y aA (hT 0) vA gA ++ cRow Y vA 8 fA) sz) := by
  refine Met.ofW (cc := cX4_laws) (maxL := 3) (ret := (some .int)) (by decide) rfl ?_
  intro p e s m args below meth c s₁ B hml hv
  obtain ⟨rfl, hsz, hP, hK, hD0⟩ := hv
  have hx := B.exec
  have hb := B.bytes
  have hr := B.returns
  have hts := atoms_spec (ws := wsX4_laws) B.pre
  have hown : s.vm.findClass RX4 = some m.cls := findClass_of_methodNamed B.named
  have hlocks := B.notSynchronized
  subst hsz
  have hD := hD0.self (sz := s.heap.size)
  generalize hAe : va_A (cMain Y nN (hT 0) uD uX uN (aA 0) uZ uW uP uK uL nS ++ cTold Y hT tT ++ cStand Y aA (hT 0) vA gA ++ cRow Y vA 8 fA) s.heap.size = A at hD ⊢
  have hA : ∀ q : Nat, s.heap.size ≤ q → A q := fun q h => by rw [← hAe]; exact Or.inr h
  have hS : va_S A s.heap s.heap [] := va_S.rf
  have hl := lv_entry ([.ref (nN 0)]) (n := 3) (Nat.le_of_ble_eq_true rfl)
  rw [lg_entry_eq]
  generalize (lg_sl ([.ref (nN 0)]) ++ List.replicate (3 - (lg_sl ([.ref (nN 0)])).length) Slot.unset).toArray = ls at hl ⊢
  have hl : lv_has ls 3 [(0, .ref (nN 0))] := hl
  obtain ⟨QQ, hQQ⟩ : ∃ Q : State → Prop, Q = MQ below (qiW rr D (cMain Y nN (hT 0) uD uX uN (aA 0) uZ uW uP uK uL nS ++ cTold Y hT tT ++ cStand Y aA (hT 0) vA gAz ++ cRow Y vA 8 fAz) A) ([.ref (nN 0)] : List Value).toArray s 0 0 A := ⟨_, rfl⟩
  rw [← hQQ]
  unfold MX4_laws at hM
  suffices hI : ∀ (H : Heap) (locs : List Loc), va_P D vwCl (cMain Y nN (hT 0) uD uX uN (aA 0) uZ uW uP uK uL nS ++ cTold Y hT tT ++ cStand Y aA (hT 0) vA gA ++ cRow Y vA 8 fA) H → va_S A s.heap H locs → W p l e (headSpec wsX4_laws rmX4_laws).room s m ([.ref (nN 0)] : List Value).toArray below meth c H locs 0 0 QQ (F0 m 0 ls []) from hI _ _ hP hS
  clear hP hS
  intro H locs hP hS
  refine lv_iconst (v := (0 : Int32)) hx hb dX4_laws_0 (by decide) ?_
  refine lv_istore_n (lv' := [(1, .int (0 : Int32)), (0, .ref (nN 0))]) hx hb dX4_laws_1 rfl hl (by decide) rfl (fun ls hl => ?_)
  refine lv_iconst (v := (0 : Int32)) hx hb dX4_laws_2 (by decide) ?_
  refine lv_istore_n (lv' := [(2, .int (0 : Int32)), (1, .int (0 : Int32)), (0, .ref (nN 0))]) hx hb dX4_laws_3 rfl hl (by decide) rfl (fun ls hl => ?_)
  refine jn3_at (fun (x1 : Int32) (gA_2 : GS) (fA_3 : Nat → Int32) => ∀ (H : Heap) (locs : List Loc) (ls : Array Slot), va_P D vwCl (cMain Y nN (hT 0) uD uX uN (aA 0) uZ uW uP uK uL nS ++ cTold Y hT tT ++ cStand Y aA (hT 0) vA gA_2 ++ cRow Y vA 8 fA_3) H → va_S A s.heap H locs → lv_has ls 3 [(1, .int x1)] → W p l e (headSpec wsX4_laws rmX4_laws).room s m ([.ref (nN 0)] : List Value).toArray below meth c H locs 0 0 QQ (F0 m 29 ls [])) hM (fun x1 gA_2 fA_3 hM H locs ls hP hS hl => ?_) (fun k4 hJ4 hM => ?_)
  · refine lv_iload_n hx hb dX4_laws_29 rfl (lv_at hl 0 rfl) ?_
    cases hM
    rw [hQQ]
    exact W.iret hx hb hr (fun t ht hW => ⟨⟨_, (), rfl, rfl, by show va_P D vwCl _ t.heap; rw [ht]; exact hP⟩, hS.F ht⟩) hS.2.2 dX4_laws_30
  · refine lq4_at (fun (x5 : Int32) (x6 : Int32) (gA_7 : GS) (fA_8 : Nat → Int32) => ∀ (H : Heap) (locs : List Loc) (ls : Array Slot), va_P D vwCl (cMain Y nN (hT 0) uD uX uN (aA 0) uZ uW uP uK uL nS ++ cTold Y hT tT ++ cStand Y aA (hT 0) vA gA_7 ++ cRow Y vA 8 fA_8) H → va_S A s.heap H locs → lv_has ls 3 [(0, .ref (nN 0)), (1, .int x5), (2, .int x6)] → W p l e (headSpec wsX4_laws rmX4_laws).room s m ([.ref (nN 0)] : List Value).toArray below meth c H locs 0 0 QQ (F0 m 4 ls [])) (fun rec9 x5 x6 gA_7 fA_8 ih9 hM H locs ls hP hS hl => ?_) FU (0 : Int32) (0 : Int32) gA fA hM H locs ls hP hS (lv_sub hl [2, 1, 0] rfl)
    unfold BX4_laws_4 at hM
    refine lv_iload_n hx hb dX4_laws_4 rfl (lv_at hl 2 rfl) ?_
    refine lv_iconst (v := (2 : Int32)) hx hb dX4_laws_5 (by decide) ?_
    refine lv_icmp_gt (tgt := 29) hx hb dX4_laws_6 (by decide) (fun c10 => ?_) (fun c10 => ?_)
    · replace hM := if_at_pos hM c10
      exact hJ4 x5 gA_7 fA_8 hM H locs ls hP hS (lv_sub hl [1] rfl)
    · replace hM := if_at_neg hM c10
      refine lv_aload_n hx hb dX4_laws_9 rfl (lv_at hl 0 rfl) ?_
      refine lv_iload_n hx hb dX4_laws_10 rfl (lv_at hl 2 rfl) ?_
      obtain ⟨r11, gA_12, fA_13, hc14, hM⟩ := bnd3_at hM
      refine co_i (va_runV (As := [.int x6]) (rest := []) ⟨hx, hb, hml, hown, hts⟩ (ctX4_explainsAllSeen l D Y nN hT aA vA uD uX uN uZ uW uP uK uL H.size nS tT gA_7 fA_8 x6 r11 gA_12 fA_13 hc14) (cwV 1 hts gX4_laws_X4_explainsAllSeen rfl rfl rfl (by decide +kernel) ⟨Nat.le_of_ble_eq_true rfl, Nat.le_of_ble_eq_true rfl⟩) (pcW_V0 (ci := 4) (q0 := 0) hK hP (hD.same rfl) rfl rfl) rfl rfl hl.1 rfl (lv_room (Nat.le_of_ble_eq_true rfl)) dX4_laws_11 ⟨Nat.zero_le _, Nat.zero_le _⟩) (hD.same rfl) hS hA (fun H locs hP hS => ?_)
      refine jn1_at (fun (x15 : Int32) => ∀ (H : Heap) (locs : List Loc) (ls : Array Slot), va_P D vwCl (cMain Y nN (hT 0) uD uX uN (aA 0) uZ uW uP uK uL nS ++ cTold Y hT tT ++ cStand Y aA (hT 0) vA gA_12 ++ cRow Y vA 8 fA_13) H → va_S A s.heap H locs → lv_has ls 3 [(0, .ref (nN 0)), (1, .int x15), (2, .int x6)] → W p l e (headSpec wsX4_laws rmX4_laws).room s m ([.ref (nN 0)] : List Value).toArray below meth c H locs 0 0 QQ (F0 m 23 ls [])) hM (fun x15 hM H locs ls hP hS hl => ?_) (fun k16 hJ16 hM => ?_)
      · obtain ⟨x17, ex17⟩ : ∃ z : Int32, z = (x6 + 1) := ⟨_, rfl⟩
        replace hM := nm_at hM ex17
        refine lv_iinc (v := x17) (lv' := [(2, .int x17), (0, .ref (nN 0)), (1, .int x15)]) hx hb dX4_laws_23 hl (k := 2) rfl (by rw [ex17]; rfl) (by decide) rfl (fun ls hl => ?_)
        refine lv_goto (tgt := 4) hx hb dX4_laws_26 (by decide) ?_
        exact ih9 x15 x17 gA_12 fA_13 hM H locs ls hP hS (lv_sub hl [1, 2, 0] rfl)
      · refine lv_if_eq (tgt := 23) hx hb dX4_laws_14 (by decide) (fun c18 => ?_) (fun c18 => ?_)
        · replace hM := if_at_pos hM c18
          exact hJ16 x5 hM H locs ls hP hS (lv_sub hl [0, 1, 2] rfl)
        · replace hM := if_at_neg hM c18
          refine lv_iload_n hx hb dX4_laws_17 rfl (lv_at hl 1 rfl) ?_
          refine lv_iconst (v := (1 : Int32)) hx hb dX4_laws_18 (by decide) ?_
          refine lv_iload_n hx hb dX4_laws_19 rfl (lv_at hl 2 rfl) ?_
          refine lv_ishl hx hb dX4_laws_20 ?_
          refine lv_ior hx hb dX4_laws_21 ?_
          refine lv_topi (fun x19 ex19 => ?_)
          replace hM := nm_at hM ex19
          refine lv_istore_n (lv' := [(1, .int x19), (0, .ref (nN 0)), (2, .int x6)]) hx hb dX4_laws_22 rfl hl (by decide) rfl (fun ls hl => ?_)
          exact hJ16 x19 hM H locs ls hP hS (lv_sub hl [1, 0, 2] rfl)
noncomputable def MX4_count (nS : GS) (tT : GS) (xT : GS) (gN : GS) (i1 : Int32) : Option (Int32) := if i1 = (0 : Int32) then (some ((tT 0 0))) else (if i1 = (1 : Int32) then (some ((tT 0 1))) else (if i1 = (2 : Int32) then (some ((tT 0 2))) else (if i1 = (3 : Int32) then (some ((tT 0 3))) else (if i1 = (4 : Int32) then (some ((tT 0 4))) else (if i1 = (5 : Int32) then (some ((gN 0 5))) else (if i1 = (6 : Int32) then (jn1 (fun (x2 : Int32) => some (x2)) (fun k3 => if (tT 0 4) = (1 : Int32) then (k3 (gN 0 6)) else (k3 (-1 : Int32)))) else (if i1 = (7 : Int32) then (jn1 (fun (x5 : Int32) => some (x5)) (fun k6 => if (tT 0 4) = (3 : Int32) then (k6 (gN 0 7)) else (k6 (-1 : Int32)))) else (if i1 = (8 : Int32) then (some ((nS 0 13))) else (if i1 = (9 : Int32) then (bnd1 (MX3_allPlots tT) fun (r8 : Int32) => some ((r8 &&& ((gN 0 4) ^^^ (-1 : Int32))))) else (if i1 = (10 : Int32) then (some ((xT 0 1))) else (some ((-3 : Int32)))))))))))))
abbrev rmX4_count : Room := { frames := 2, cells := 0, slots := 0, locals := 80 }
set_option maxHeartbeats 4000000 in
set_option maxRecDepth 100000 in
theorem ctX4_count (l : Launch) (D : va_G) (Y : Nat → ClassId) (nN : Nat → Nat) (hT : Nat → Nat) (bT : Nat → Nat) (aN : Nat → Nat) (uD : Nat) (uA : Nat) (uZ : Nat) (uW : Nat) (uP : Nat) (uK : Nat) (uL : Nat) (vN : Nat) (sz : Nat) (nS : GS) (tT : GS) (xT : GS) (gN : GS) (i1 : Int32) (rr : Int32) (hM : MX4_count nS tT xT gN i1 = some (rr)) : Met l yX4_count wsX4_count rmX4_count (pcW [.ref (nN 0), .int i1] sz D Y (cMain Y nN (hT 0) uD (bT 0) (aN 0) uA uZ uW uP uK uL nS ++ cTold Y hT tT ++ cText Y bT xT ++ cStand Y aN (hT 0) vN gN)) (qiW rr D (cMain Y nN (hT 0) uD (bT 0) (aN 0) uA uZ uW uP uK uL nS ++ cTold Y hT tT ++ cText Y bT xT ++ cStand Y aN (hT 0) vN gN) (va_A (cMain Y nN (hT 0) uD (bT 0) (aN 0) uA uZ uW uP uK uL nS ++ cTold Y hT tT ++ cText Y bT xT ++ cStand Y aN (hT 0) vN gN) sz)) 0 0 (va_A (cMain Y nN (hT 0) uD (bT 0) (aN 0) uA uZ uW uP uK uL nS ++ cTold Y hT tT ++ cText Y bT xT ++ cStand Y aN (hT 0) vN gN) sz) := by
  refine Met.ofW (cc := cX4_count) (maxL := 2) (ret := (some .int)) (by decide) rfl ?_
  intro p e s m args below meth c s₁ B hml hv
  obtain ⟨rfl, hsz, hP, hK, hD0⟩ := hv
  have hx := B.exec
  have hb := B.bytes
  have hr := B.returns
  have hts := atoms_spec (ws := wsX4_count) B.pre
  have hown : s.vm.findClass RX4 = some m.cls := findClass_of_methodNamed B.named
  have hlocks := B.notSynchronized
  subst hsz
  have hD := hD0.self (sz := s.heap.size)
  generalize hAe : va_A (cMain Y nN (hT 0) uD (bT 0) (aN 0) uA uZ uW uP uK uL nS ++ cTold Y hT tT ++ cText Y bT xT ++ cStand Y aN (hT 0) vN gN) s.heap.size = A at hD ⊢
  have hA : ∀ q : Nat, s.heap.size ≤ q → A q := fun q h => by rw [← hAe]; exact Or.inr h
  have hS : va_S A s.heap s.heap [] := va_S.rf
  have hi1 : ∀ w ∈ wsX10, w ∈ wsX4_count := fun w h => List.mem_cons_of_mem _ (List.mem_append_left _ (List.mem_append_right _ h))
  have hi2 : ∀ w ∈ wsX20, w ∈ wsX4_count := fun w h => List.mem_cons_of_mem _ (List.mem_append_right _ h)
  have hi3 : ∀ w ∈ wsX30, w ∈ wsX4_count := fun w h => List.mem_cons_of_mem _ (List.mem_append_left _ (List.mem_append_left _ (List.mem_append_right _ h)))
  have hi4 : ∀ w ∈ wsX40, w ∈ wsX4_count := fun w h => List.mem_cons_of_mem _ (List.mem_append_left _ (List.mem_append_left _ (List.mem_append_left _ (List.mem_append_right _ h))))
  have hl := lv_entry ([.ref (nN 0), .int i1]) (n := 2) (Nat.le_of_ble_eq_true rfl)
  rw [lg_entry_eq]
  generalize (lg_sl ([.ref (nN 0), .int i1]) ++ List.replicate (2 - (lg_sl ([.ref (nN 0), .int i1])).length) Slot.unset).toArray = ls at hl ⊢
  have hl : lv_has ls 2 [(0, .ref (nN 0)), (1, .int i1)] := hl
  obtain ⟨QQ, hQQ⟩ : ∃ Q : State → Prop, Q = MQ below (qiW rr D (cMain Y nN (hT 0) uD (bT 0) (aN 0) uA uZ uW uP uK uL nS ++ cTold Y hT tT ++ cText Y bT xT ++ cStand Y aN (hT 0) vN gN) A) ([.ref (nN 0), .int i1] : List Value).toArray s 0 0 A := ⟨_, rfl⟩
  rw [← hQQ]
  unfold MX4_count at hM
  suffices hI : ∀ (H : Heap) (locs : List Loc), va_P D vwCl (cMain Y nN (hT 0) uD (bT 0) (aN 0) uA uZ uW uP uK uL nS ++ cTold Y hT tT ++ cText Y bT xT ++ cStand Y aN (hT 0) vN gN) H → va_S A s.heap H locs → W p l e (headSpec wsX4_count rmX4_count).room s m ([.ref (nN 0), .int i1] : List Value).toArray below meth c H locs 0 0 QQ (F0 m 0 ls []) from hI _ _ hP hS
  clear hP hS
  intro H locs hP hS
  refine lv_iload_n hx hb dX4_count_0 rfl (lv_at hl 1 rfl) ?_
  by_cases c1_0 : i1 = (0 : Int32)
  · replace hM := if_at_pos hM c1_0
    refine lv_tableIn (off := 59) (tgt := 60) hx hb dX4_count_1 (by rw [c1_0]; decide) (by rw [c1_0]; decide) (by rw [c1_0]; rfl) (by decide) ?_
    refine lv_aload_n hx hb dX4_count_60 rfl (lv_at hl 0 rfl) ?_
    refine va_get hx hb hts hi4 hown hK hP 0 rfl rfl 0 (by decide) (hts (.fieldLink RX4 12 "NightPlots" "told" "LNightPlots$Told;") (List.mem_of_getElem? (i := 1) rfl)) (fun _ h9 => h9) rfl dX4_count_61 ?_
    refine va_get hx hb hts hi3 hown hK hP 6 rfl rfl 0 (by decide) (hts (.fieldLink RX4 203 "NightPlots$Told" "plots" "I") (List.mem_of_getElem? (i := 2) rfl)) (fun _ h9 => h9) rfl dX4_count_64 ?_
    cases hM
    rw [hQQ]
    exact W.iret hx hb hr (fun t ht hW => ⟨⟨_, (), rfl, rfl, by show va_P D vwCl _ t.heap; rw [ht]; exact hP⟩, hS.F ht⟩) hS.2.2 dX4_count_67
  · replace hM := if_at_neg hM c1_0
    by_cases c1_1 : i1 = (1 : Int32)
    · replace hM := if_at_pos hM c1_1
      refine lv_tableIn (off := 67) (tgt := 68) hx hb dX4_count_1 (by rw [c1_1]; decide) (by rw [c1_1]; decide) (by rw [c1_1]; rfl) (by decide) ?_
      refine lv_aload_n hx hb dX4_count_68 rfl (lv_at hl 0 rfl) ?_
      refine va_get hx hb hts hi4 hown hK hP 0 rfl rfl 0 (by decide) (hts (.fieldLink RX4 12 "NightPlots" "told" "LNightPlots$Told;") (List.mem_of_getElem? (i := 1) rfl)) (fun _ h9 => h9) rfl dX4_count_69 ?_
      refine va_get hx hb hts hi3 hown hK hP 6 rfl rfl 1 (by decide) (hts (.fieldLink RX4 206 "NightPlots$Told" "houses" "I") (List.mem_of_getElem? (i := 3) rfl)) (fun _ h9 => h9) rfl dX4_count_72 ?_
      cases hM
      rw [hQQ]
      exact W.iret hx hb hr (fun t ht hW => ⟨⟨_, (), rfl, rfl, by show va_P D vwCl _ t.heap; rw [ht]; exact hP⟩, hS.F ht⟩) hS.2.2 dX4_count_75
    · replace hM := if_at_neg hM c1_1
      by_cases c1_2 : i1 = (2 : Int32)
      · replace hM := if_at_pos hM c1_2
        refine lv_tableIn (off := 75) (tgt := 76) hx hb dX4_count_1 (by rw [c1_2]; decide) (by rw [c1_2]; decide) (by rw [c1_2]; rfl) (by decide) ?_
        refine lv_aload_n hx hb dX4_count_76 rfl (lv_at hl 0 rfl) ?_
        refine va_get hx hb hts hi4 hown hK hP 0 rfl rfl 0 (by decide) (hts (.fieldLink RX4 12 "NightPlots" "told" "LNightPlots$Told;") (List.mem_of_getElem? (i := 1) rfl)) (fun _ h9 => h9) rfl dX4_count_77 ?_
        refine va_get hx hb hts hi3 hown hK hP 6 rfl rfl 2 (by decide) (hts (.fieldLink RX4 209 "NightPlots$Told" "paths" "I") (List.mem_of_getElem? (i := 4) rfl)) (fun _ h9 => h9) rfl dX4_count_80 ?_
        cases hM
        rw [hQQ]
        exact W.iret hx hb hr (fun t ht hW => ⟨⟨_, (), rfl, rfl, by show va_P D vwCl _ t.heap; rw [ht]; exact hP⟩, hS.F ht⟩) hS.2.2 dX4_count_83
      · replace hM := if_at_neg hM c1_2
        by_cases c1_3 : i1 = (3 : Int32)
        · replace hM := if_at_pos hM c1_3
          refine lv_tableIn (off := 83) (tgt := 84) hx hb dX4_count_1 (by rw [c1_3]; decide) (by rw [c1_3]; decide) (by rw [c1_3]; rfl) (by decide) ?_
          refine lv_aload_n hx hb dX4_count_84 rfl (lv_at hl 0 rfl) ?_
          refine va_get hx hb hts hi4 hown hK hP 0 rfl rfl 0 (by decide) (hts (.fieldLink RX4 12 "NightPlots" "told" "LNightPlots$Told;") (List.mem_of_getElem? (i := 1) rfl)) (fun _ h9 => h9) rfl dX4_count_85 ?_
          refine va_get hx hb hts hi3 hown hK hP 6 rfl rfl 3 (by decide) (hts (.fieldLink RX4 212 "NightPlots$Told" "feuds" "I") (List.mem_of_getElem? (i := 5) rfl)) (fun _ h9 => h9) rfl dX4_count_88 ?_
          cases hM
          rw [hQQ]
          exact W.iret hx hb hr (fun t ht hW => ⟨⟨_, (), rfl, rfl, by show va_P D vwCl _ t.heap; rw [ht]; exact hP⟩, hS.F ht⟩) hS.2.2 dX4_count_91
        · replace hM := if_at_neg hM c1_3
          by_cases c1_4 : i1 = (4 : Int32)
          · replace hM := if_at_pos hM c1_4
            refine lv_tableIn (off := 91) (tgt := 92) hx hb dX4_count_1 (by rw [c1_4]; decide) (by rw [c1_4]; decide) (by rw [c1_4]; rfl) (by decide) ?_
            refine lv_aload_n hx hb dX4_count_92 rfl (lv_at hl 0 rfl) ?_
            refine va_get hx hb hts hi4 hown hK hP 0 rfl rfl 0 (by decide) (hts (.fieldLink RX4 12 "NightPlots" "told" "LNightPlots$Told;") (List.mem_of_getElem? (i := 1) rfl)) (fun _ h9 => h9) rfl dX4_count_93 ?_
            refine va_get hx hb hts hi3 hown hK hP 6 rfl rfl 4 (by decide) (hts (.fieldLink RX4 130 "NightPlots$Told" "law" "I") (List.mem_of_getElem? (i := 6) rfl)) (fun _ h9 => h9) rfl dX4_count_96 ?_
            cases hM
            rw [hQQ]
            exact W.iret hx hb hr (fun t ht hW => ⟨⟨_, (), rfl, rfl, by show va_P D vwCl _ t.heap; rw [ht]; exact hP⟩, hS.F ht⟩) hS.2.2 dX4_count_99
          · replace hM := if_at_neg hM c1_4
            by_cases c1_5 : i1 = (5 : Int32)
            · replace hM := if_at_pos hM c1_5
              refine lv_tableIn (off := 99) (tgt := 100) hx hb dX4_count_1 (by rw [c1_5]; decide) (by rw [c1_5]; decide) (by rw [c1_5]; rfl) (by decide) ?_
              refine lv_aload_n hx hb dX4_count_100 rfl (lv_at hl 0 rfl) ?_
              refine va_get hx hb hts hi4 hown hK hP 0 rfl rfl 3 (by decide) (hts (.fieldLink RX4 31 "NightPlots" "now" "LNightPlots$Standing;") (List.mem_of_getElem? (i := 7) rfl)) (fun _ h9 => h9) rfl dX4_count_101 ?_
              refine va_get hx hb hts hi1 hown hK hP 16 rfl rfl 5 (by decide) (hts (.fieldLink RX4 119 "NightPlots$Standing" "nights" "I") (List.mem_of_getElem? (i := 8) rfl)) (fun _ h9 => h9) rfl dX4_count_104 ?_
              cases hM
              rw [hQQ]
              exact W.iret hx hb hr (fun t ht hW => ⟨⟨_, (), rfl, rfl, by show va_P D vwCl _ t.heap; rw [ht]; exact hP⟩, hS.F ht⟩) hS.2.2 dX4_count_107
            · replace hM := if_at_neg hM c1_5
              by_cases c1_6 : i1 = (6 : Int32)
              · replace hM := if_at_pos hM c1_6
                refine lv_tableIn (off := 107) (tgt := 108) hx hb dX4_count_1 (by rw [c1_6]; decide) (by rw [c1_6]; decide) (by rw [c1_6]; rfl) (by decide) ?_
                refine lv_aload_n hx hb dX4_count_108 rfl (lv_at hl 0 rfl) ?_
                refine va_get hx hb hts hi4 hown hK hP 0 rfl rfl 0 (by decide) (hts (.fieldLink RX4 12 "NightPlots" "told" "LNightPlots$Told;") (List.mem_of_getElem? (i := 1) rfl)) (fun _ h9 => h9) rfl dX4_count_109 ?_
                refine va_get hx hb hts hi3 hown hK hP 6 rfl rfl 4 (by decide) (hts (.fieldLink RX4 130 "NightPlots$Told" "law" "I") (List.mem_of_getElem? (i := 6) rfl)) (fun _ h9 => h9) rfl dX4_count_112 ?_
                refine lv_iconst (v := (1 : Int32)) hx hb dX4_count_115 (by decide) ?_
                refine jn1_at (fun (x2 : Int32) => ∀ (H : Heap) (locs : List Loc) (ls : Array Slot), va_P D vwCl (cMain Y nN (hT 0) uD (bT 0) (aN 0) uA uZ uW uP uK uL nS ++ cTold Y hT tT ++ cText Y bT xT ++ cStand Y aN (hT 0) vN gN) H → va_S A s.heap H locs → lv_has ls 2 [] → W p l e (headSpec wsX4_count rmX4_count).room s m ([.ref (nN 0), .int i1] : List Value).toArray below meth c H locs 0 0 QQ (F0 m 130 ls [.int x2])) hM (fun x2 hM H locs ls hP hS hl => ?_) (fun k3 hJ3 hM => ?_)
                · cases hM
                  rw [hQQ]
                  exact W.iret hx hb hr (fun t ht hW => ⟨⟨_, (), rfl, rfl, by show va_P D vwCl _ t.heap; rw [ht]; exact hP⟩, hS.F ht⟩) hS.2.2 dX4_count_130
                · refine lv_icmp_ne (tgt := 129) hx hb dX4_count_116 (by decide) (fun c4 => ?_) (fun c4 => ?_)
                  · replace hM := if_at_neg hM c4
                    refine lv_iconst (v := (-1 : Int32)) hx hb dX4_count_129 (by decide) ?_
                    exact hJ3 (-1 : Int32) hM H locs ls hP hS (lv_sub hl [] rfl)
                  · replace hM := if_at_pos hM c4
                    refine lv_aload_n hx hb dX4_count_119 rfl (lv_at hl 0 rfl) ?_
                    refine va_get hx hb hts hi4 hown hK hP 0 rfl rfl 3 (by decide) (hts (.fieldLink RX4 31 "NightPlots" "now" "LNightPlots$Standing;") (List.mem_of_getElem? (i := 7) rfl)) (fun _ h9 => h9) rfl dX4_count_120 ?_
                    refine va_get hx hb hts hi1 hown hK hP 16 rfl rfl 6 (by decide) (hts (.fieldLink RX4 215 "NightPlots$Standing" "turn" "I") (List.mem_of_getElem? (i := 9) rfl)) (fun _ h9 => h9) rfl dX4_count_123 ?_
                    refine lv_goto (tgt := 130) hx hb dX4_count_126 (by decide) ?_
                    exact hJ3 (gN 0 6) hM H locs ls hP hS (lv_sub hl [] rfl)
              · replace hM := if_at_neg hM c1_6
                by_cases c1_7 : i1 = (7 : Int32)
                · replace hM := if_at_pos hM c1_7
                  refine lv_tableIn (off := 130) (tgt := 131) hx hb dX4_count_1 (by rw [c1_7]; decide) (by rw [c1_7]; decide) (by rw [c1_7]; rfl) (by decide) ?_
                  refine lv_aload_n hx hb dX4_count_131 rfl (lv_at hl 0 rfl) ?_
                  refine va_get hx hb hts hi4 hown hK hP 0 rfl rfl 0 (by decide) (hts (.fieldLink RX4 12 "NightPlots" "told" "LNightPlots$Told;") (List.mem_of_getElem? (i := 1) rfl)) (fun _ h9 => h9) rfl dX4_count_132 ?_
                  refine va_get hx hb hts hi3 hown hK hP 6 rfl rfl 4 (by decide) (hts (.fieldLink RX4 130 "NightPlots$Told" "law" "I") (List.mem_of_getElem? (i := 6) rfl)) (fun _ h9 => h9) rfl dX4_count_135 ?_
                  refine lv_iconst (v := (3 : Int32)) hx hb dX4_count_138 (by decide) ?_
                  refine jn1_at (fun (x5 : Int32) => ∀ (H : Heap) (locs : List Loc) (ls : Array Slot), va_P D vwCl (cMain Y nN (hT 0) uD (bT 0) (aN 0) uA uZ uW uP uK uL nS ++ cTold Y hT tT ++ cText Y bT xT ++ cStand Y aN (hT 0) vN gN) H → va_S A s.heap H locs → lv_has ls 2 [] → W p l e (headSpec wsX4_count rmX4_count).room s m ([.ref (nN 0), .int i1] : List Value).toArray below meth c H locs 0 0 QQ (F0 m 153 ls [.int x5])) hM (fun x5 hM H locs ls hP hS hl => ?_) (fun k6 hJ6 hM => ?_)
                  · cases hM
                    rw [hQQ]
                    exact W.iret hx hb hr (fun t ht hW => ⟨⟨_, (), rfl, rfl, by show va_P D vwCl _ t.heap; rw [ht]; exact hP⟩, hS.F ht⟩) hS.2.2 dX4_count_153
                  · refine lv_icmp_ne (tgt := 152) hx hb dX4_count_139 (by decide) (fun c7 => ?_) (fun c7 => ?_)
                    · replace hM := if_at_neg hM c7
                      refine lv_iconst (v := (-1 : Int32)) hx hb dX4_count_152 (by decide) ?_
                      exact hJ6 (-1 : Int32) hM H locs ls hP hS (lv_sub hl [] rfl)
                    · replace hM := if_at_pos hM c7
                      refine lv_aload_n hx hb dX4_count_142 rfl (lv_at hl 0 rfl) ?_
                      refine va_get hx hb hts hi4 hown hK hP 0 rfl rfl 3 (by decide) (hts (.fieldLink RX4 31 "NightPlots" "now" "LNightPlots$Standing;") (List.mem_of_getElem? (i := 7) rfl)) (fun _ h9 => h9) rfl dX4_count_143 ?_
                      refine va_get hx hb hts hi1 hown hK hP 16 rfl rfl 7 (by decide) (hts (.fieldLink RX4 218 "NightPlots$Standing" "x" "I") (List.mem_of_getElem? (i := 10) rfl)) (fun _ h9 => h9) rfl dX4_count_146 ?_
                      refine lv_goto (tgt := 153) hx hb dX4_count_149 (by decide) ?_
                      exact hJ6 (gN 0 7) hM H locs ls hP hS (lv_sub hl [] rfl)
                · replace hM := if_at_neg hM c1_7
                  by_cases c1_8 : i1 = (8 : Int32)
                  · replace hM := if_at_pos hM c1_8
                    refine lv_tableIn (off := 153) (tgt := 154) hx hb dX4_count_1 (by rw [c1_8]; decide) (by rw [c1_8]; decide) (by rw [c1_8]; rfl) (by decide) ?_
                    refine lv_aload_n hx hb dX4_count_154 rfl (lv_at hl 0 rfl) ?_
                    refine va_get hx hb hts hi4 hown hK hP 0 rfl rfl 13 (by decide) (hts (.fieldLink RX4 90 "NightPlots" "seenSoFar" "I") (List.mem_of_getElem? (i := 11) rfl)) (fun _ h9 => h9) rfl dX4_count_155 ?_
                    cases hM
                    rw [hQQ]
                    exact W.iret hx hb hr (fun t ht hW => ⟨⟨_, (), rfl, rfl, by show va_P D vwCl _ t.heap; rw [ht]; exact hP⟩, hS.F ht⟩) hS.2.2 dX4_count_158
                  · replace hM := if_at_neg hM c1_8
                    by_cases c1_9 : i1 = (9 : Int32)
                    · replace hM := if_at_pos hM c1_9
                      refine lv_tableIn (off := 158) (tgt := 159) hx hb dX4_count_1 (by rw [c1_9]; decide) (by rw [c1_9]; decide) (by rw [c1_9]; rfl) (by decide) ?_
                      refine lv_aload_n hx hb dX4_count_159 rfl (lv_at hl 0 rfl) ?_
                      refine va_get hx hb hts hi4 hown hK hP 0 rfl rfl 0 (by decide) (hts (.fieldLink RX4 12 "NightPlots" "told" "LNightPlots$Told;") (List.mem_of_getElem? (i := 1) rfl)) (fun _ h9 => h9) rfl dX4_count_160 ?_
                      obtain ⟨r8, hc9, hM⟩ := bnd1_at hM
                      refine cm_i (w2 := (cMain Y nN (hT 0) uD (bT 0) (aN 0) uA uZ uW uP uK uL nS ++ cTold Y hT tT ++ cText Y bT xT ++ cStand Y aN (hT 0) vN gN)) (va_runV (As := []) (rest := []) ⟨hx, hb, hml, hown, hts⟩ (ctX3_allPlots l D Y hT H.size tT r8 hc9) (cwV 0 hts gX4_count_X3_allPlots rfl rfl rfl (by decide +kernel) ⟨Nat.le_of_ble_eq_true rfl, Nat.le_of_ble_eq_true rfl⟩) (pcW_V (ci := 3) (q0 := 6) hK hP (hD.same rfl) [6, 7, 8, 9, 10, 11, 12, 13] rfl (pc_map (pc_cons rfl (pc_cons rfl (pc_cons rfl (pc_cons rfl (pc_cons rfl (pc_cons rfl (pc_cons rfl (pc_cons rfl pc_nil))))))))) rfl rfl) rfl rfl hl.1 rfl (lv_room (Nat.le_of_ble_eq_true rfl)) dX4_count_163 ⟨Nat.zero_le _, Nat.zero_le _⟩) hP (hD.same rfl) hS hA [6, 7, 8, 9, 10, 11, 12, 13] (pc_map (pc_cons rfl (pc_cons rfl (pc_cons rfl (pc_cons rfl (pc_cons rfl (pc_cons rfl (pc_cons rfl (pc_cons rfl pc_nil))))))))) (up_old rfl rfl (up_old rfl rfl (up_old rfl rfl (up_old rfl rfl (up_old rfl rfl (up_old rfl rfl (up_new 0 rfl (up_new 1 rfl (up_new 2 rfl (up_new 3 rfl (up_new 4 rfl (up_new 5 rfl (up_new 6 rfl (up_new 7 rfl (up_old rfl rfl (up_old rfl rfl (up_old rfl rfl (up_old rfl rfl (up_old rfl rfl up_nil))))))))))))))))))) (fun H locs hP hS => ?_)
                      refine lv_aload_n hx hb dX4_count_166 rfl (lv_at hl 0 rfl) ?_
                      refine va_get hx hb hts hi4 hown hK hP 0 rfl rfl 3 (by decide) (hts (.fieldLink RX4 31 "NightPlots" "now" "LNightPlots$Standing;") (List.mem_of_getElem? (i := 7) rfl)) (fun _ h9 => h9) rfl dX4_count_167 ?_
                      refine va_get hx hb hts hi1 hown hK hP 16 rfl rfl 4 (by decide) (hts (.fieldLink RX4 224 "NightPlots$Standing" "taken" "I") (List.mem_of_getElem? (i := 12) rfl)) (fun _ h9 => h9) rfl dX4_count_170 ?_
                      refine lv_iconst (v := (-1 : Int32)) hx hb dX4_count_173 (by decide) ?_
                      refine lv_ixor hx hb dX4_count_174 ?_
                      refine lv_iand hx hb dX4_count_175 ?_
                      cases hM
                      rw [hQQ]
                      exact W.iret hx hb hr (fun t ht hW => ⟨⟨_, (), rfl, rfl, by show va_P D vwCl _ t.heap; rw [ht]; exact hP⟩, hS.F ht⟩) hS.2.2 dX4_count_176
                    · replace hM := if_at_neg hM c1_9
                      by_cases c1_10 : i1 = (10 : Int32)
                      · replace hM := if_at_pos hM c1_10
                        refine lv_tableIn (off := 176) (tgt := 177) hx hb dX4_count_1 (by rw [c1_10]; decide) (by rw [c1_10]; decide) (by rw [c1_10]; rfl) (by decide) ?_
                        refine lv_aload_n hx hb dX4_count_177 rfl (lv_at hl 0 rfl) ?_
                        refine va_get hx hb hts hi4 hown hK hP 0 rfl rfl 2 (by decide) (hts (.fieldLink RX4 22 "NightPlots" "text" "LNightPlots$Text;") (List.mem_of_getElem? (i := 13) rfl)) (fun _ h9 => h9) rfl dX4_count_178 ?_
                        refine va_get hx hb hts hi2 hown hK hP 14 rfl rfl 1 (by decide) (hts (.fieldLink RX4 76 "NightPlots$Text" "length" "I") (List.mem_of_getElem? (i := 14) rfl)) (fun _ h9 => h9) rfl dX4_count_181 ?_
                        cases hM
                        rw [hQQ]
                        exact W.iret hx hb hr (fun t ht hW => ⟨⟨_, (), rfl, rfl, by show va_P D vwCl _ t.heap; rw [ht]; exact hP⟩, hS.F ht⟩) hS.2.2 dX4_count_184
                      · replace hM := if_at_neg hM c1_10
                        refine lv_tableOut (tgt := 185) hx hb dX4_count_1 (by have n1_0 := lv_neT (a := 0) c1_0 rfl; have n1_1 := lv_neT (a := 1) c1_1 rfl; have n1_2 := lv_neT (a := 2) c1_2 rfl; have n1_3 := lv_neT (a := 3) c1_3 rfl; have n1_4 := lv_neT (a := 4) c1_4 rfl; have n1_5 := lv_neT (a := 5) c1_5 rfl; have n1_6 := lv_neT (a := 6) c1_6 rfl; have n1_7 := lv_neT (a := 7) c1_7 rfl; have n1_8 := lv_neT (a := 8) c1_8 rfl; have n1_9 := lv_neT (a := 9) c1_9 rfl; have n1_10 := lv_neT (a := 10) c1_10 rfl; omega) (by decide) ?_
                        refine lv_bipush (v := (-3 : Int32)) hx hb dX4_count_185 (by decide) ?_
                        cases hM
                        rw [hQQ]
                        exact W.iret hx hb hr (fun t ht hW => ⟨⟨_, (), rfl, rfl, by show va_P D vwCl _ t.heap; rw [ht]; exact hP⟩, hS.F ht⟩) hS.2.2 dX4_count_187
