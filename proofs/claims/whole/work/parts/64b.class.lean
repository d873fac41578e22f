noncomputable def MX4_isSuch (i1 : Int32) (i2 : Int32) : Option (Int32) := jn1 (fun (x1 : Int32) => chkB x1 (some (x1))) (fun k2 => jn0 (k2 (1 : Int32)) (fun k4 => if i2 = 0 then (k4) else (if i2 = (i1 + (1 : Int32)) then (k4) else (jn0 (k2 (0 : Int32)) (fun k7 => if i2 = (1 : Int32) then (if i1 = (3 : Int32) then (k7) else (k4)) else (k7))))))
abbrev rmX4_isSuch : Room := { frames := 1, cells := 0, slots := 0, locals := 40 }
set_option maxHeartbeats 4000000 in
set_option maxRecDepth 100000 in
theorem ctX4_isSuch (l : Launch) (D : va_G) (Y : Nat → ClassId) (sz : Nat) (i1 : Int32) (i2 : Int32) (rr : Int32) (hM : MX4_isSuch i1 i2 = some (rr)) : Met l yX4_isSuch wsX4_isSuch rmX4_isSuch (pcW [.int i1, .int i2] sz D Y (([] : va_W))) (qiW rr D (([] : va_W)) (va_A (([] : va_W)) sz)) 0 0 (va_A (([] : va_W)) sz) := by
  refine Met.ofW (cc := cX4_isSuch) (maxL := 2) (ret := (some .boolean)) (by decide) rfl ?_
  intro p e s m args below meth c s₁ B hml hv
  obtain ⟨rfl, hsz, hP, hK, hD0⟩ := hv
  have hx := B.exec
  have hb := B.bytes
  have hr := B.returns
  have hts := atoms_spec (ws := wsX4_isSuch) B.pre
  have hown : s.vm.findClass RX4 = some m.cls := findClass_of_methodNamed B.named
  have hlocks := B.notSynchronized
  subst hsz
  have hD := hD0.self (sz := s.heap.size)
  generalize hAe : va_A (([] : va_W)) s.heap.size = A at hD ⊢
  have hA : ∀ q : Nat, s.heap.size ≤ q → A q := fun q h => by rw [← hAe]; exact Or.inr h
  have hS : va_S A s.heap s.heap [] := va_S.rf
  have hl := lv_entry ([.int i1, .int i2]) (n := 2) (Nat.le_of_ble_eq_true rfl)
  rw [lg_entry_eq]
  generalize (lg_sl ([.int i1, .int i2]) ++ List.replicate (2 - (lg_sl ([.int i1, .int i2])).length) Slot.unset).toArray = ls at hl ⊢
  have hl : lv_has ls 2 [(0, .int i1), (1, .int i2)] := hl
  obtain ⟨QQ, hQQ⟩ : ∃ Q : State → Prop, Q = MQ below (qiW rr D (([] : va_W)) A) ([.int i1, .int i2] : List Value).toArray s 0 0 A := ⟨_, rfl⟩
  rw [← hQQ]
  unfold MX4_isSuch at hM
  suffices hI : ∀ (H : Heap) (locs : List Loc), va_P D vwCl (([] : va_W)) H → va_S A s.heap H locs → W p l e (headSpec wsX4_isSuch rmX4_isSuch).room s m ([.int i1, .int i2] : List Value).toArray below meth c H locs 0 0 QQ (F0 m 0 ls []) from hI _ _ hP hS
  clear hP hS
  intro H locs hP hS
  refine lv_iload_n hx hb dX4_isSuch_0 rfl (lv_at hl 1 rfl) ?_
  refine jn1_at (fun (x1 : Int32) => ∀ (H : Heap) (locs : List Loc) (ls : Array Slot), va_P D vwCl (([] : va_W)) H → va_S A s.heap H locs → lv_has ls 2 [] → W p l e (headSpec wsX4_isSuch rmX4_isSuch).room s m ([.int i1, .int i2] : List Value).toArray below meth c H locs 0 0 QQ (F0 m 26 ls [.int x1])) hM (fun x1 hM H locs ls hP hS hl => ?_) (fun k2 hJ2 hM => ?_)
  · obtain ⟨hz3, hM⟩ := chkB_at hM
    cases hM
    rw [hQQ]
    exact W.zret (ty := .boolean) hx hb hr hz3 (fun t ht hW => ⟨⟨_, (), rfl, rfl, by show va_P D vwCl _ t.heap; rw [ht]; exact hP⟩, hS.F ht⟩) hS.2.2 dX4_isSuch_26
  · refine jn0_at (∀ (H : Heap) (locs : List Loc) (ls : Array Slot), va_P D vwCl (([] : va_W)) H → va_S A s.heap H locs → lv_has ls 2 [] → W p l e (headSpec wsX4_isSuch rmX4_isSuch).room s m ([.int i1, .int i2] : List Value).toArray below meth c H locs 0 0 QQ (F0 m 21 ls [])) hM (fun  hM H locs ls hP hS hl => ?_) (fun k4 hJ4 hM => ?_)
    · refine lv_iconst (v := (1 : Int32)) hx hb dX4_isSuch_21 (by decide) ?_
      refine lv_goto (tgt := 26) hx hb dX4_isSuch_22 (by decide) ?_
      exact hJ2 (1 : Int32) hM H locs ls hP hS (lv_sub hl [] rfl)
    · refine lv_if_eq (tgt := 21) hx hb dX4_isSuch_1 (by decide) (fun c5 => ?_) (fun c5 => ?_)
      · replace hM := if_at_pos hM c5
        exact hJ4 hM H locs ls hP hS (lv_sub hl [] rfl)
      · replace hM := if_at_neg hM c5
        refine lv_iload_n hx hb dX4_isSuch_4 rfl (lv_at hl 1 rfl) ?_
        refine lv_iload_n hx hb dX4_isSuch_5 rfl (lv_at hl 0 rfl) ?_
        refine lv_iconst (v := (1 : Int32)) hx hb dX4_isSuch_6 (by decide) ?_
        refine lv_iadd hx hb dX4_isSuch_7 ?_
        refine lv_icmp_eq (tgt := 21) hx hb dX4_isSuch_8 (by decide) (fun c6 => ?_) (fun c6 => ?_)
        · replace hM := if_at_pos hM c6
          exact hJ4 hM H locs ls hP hS (lv_sub hl [] rfl)
        · replace hM := if_at_neg hM c6
          refine lv_iload_n hx hb dX4_isSuch_11 rfl (lv_at hl 1 rfl) ?_
          refine lv_iconst (v := (1 : Int32)) hx hb dX4_isSuch_12 (by decide) ?_
          refine jn0_at (∀ (H : Heap) (locs : List Loc) (ls : Array Slot), va_P D vwCl (([] : va_W)) H → va_S A s.heap H locs → lv_has ls 2 [] → W p l e (headSpec wsX4_isSuch rmX4_isSuch).room s m ([.int i1, .int i2] : List Value).toArray below meth c H locs 0 0 QQ (F0 m 25 ls [])) hM (fun  hM H locs ls hP hS hl => ?_) (fun k7 hJ7 hM => ?_)
          · refine lv_iconst (v := (0 : Int32)) hx hb dX4_isSuch_25 (by decide) ?_
            exact hJ2 (0 : Int32) hM H locs ls hP hS (lv_sub hl [] rfl)
          · refine lv_icmp_ne (tgt := 25) hx hb dX4_isSuch_13 (by decide) (fun c8 => ?_) (fun c8 => ?_)
            · replace hM := if_at_neg hM c8
              exact hJ7 hM H locs ls hP hS (lv_sub hl [] rfl)
            · replace hM := if_at_pos hM c8
              refine lv_iload_n hx hb dX4_isSuch_16 rfl (lv_at hl 0 rfl) ?_
              refine lv_iconst (v := (3 : Int32)) hx hb dX4_isSuch_17 (by decide) ?_
              refine lv_icmp_eq (tgt := 25) hx hb dX4_isSuch_18 (by decide) (fun c9 => ?_) (fun c9 => ?_)
              · replace hM := if_at_pos hM c9
                exact hJ7 hM H locs ls hP hS (lv_sub hl [] rfl)
              · replace hM := if_at_neg hM c9
                exact hJ4 hM H locs ls hP hS (lv_sub hl [] rfl)
noncomputable def MX4_plot (tT : GS) (gN : GS) (i1 : Int32) (i2 : Int32) : Option (Int32) := bnd1 (MX4_isPlot tT i1) fun (r1 : Int32) => if r1 = 0 then (some ((-2 : Int32))) else (jn0 (some ((-3 : Int32))) (fun k4 => if i2 < 0 then (k4) else (if i2 ≤ (1 : Int32) then (jn1 (fun (x7 : Int32) => some (x7)) (fun k8 => if i2 = 0 then (bnd1 (MX1_houseOn gN tT i1) fun (r11 : Int32) => k8 r11) else (chkI i1 12 (k8 (tT 1 i1.toNatClampNeg))))) else (k4))))
abbrev rmX4_plot : Room := { frames := 5, cells := 0, slots := 0, locals := 200 }
set_option maxHeartbeats 4000000 in
set_option maxRecDepth 100000 in
theorem ctX4_plot (l : Launch) (D : va_G) (Y : Nat → ClassId) (nN : Nat → Nat) (hT : Nat → Nat) (aN : Nat → Nat) (uD : Nat) (uX : Nat) (uA : Nat) (uZ : Nat) (uW : Nat) (uP : Nat) (uK : Nat) (uL : Nat) (vN : Nat) (sz : Nat) (nS : GS) (tT : GS) (gN : GS) (i1 : Int32) (i2 : Int32) (rr : Int32) (hM : MX4_plot tT gN i1 i2 = some (rr)) : Met l yX4_plot wsX4_plot rmX4_plot (pcW [.ref (nN 0), .int i1, .int i2] sz D Y (cMain Y nN (hT 0) uD uX (aN 0) uA uZ uW uP uK uL nS ++ cTold Y hT tT ++ cStand Y aN (hT 0) vN gN)) (qiW rr D (cMain Y nN (hT 0) uD uX (aN 0) uA uZ uW uP uK uL nS ++ cTold Y hT tT ++ cStand Y aN (hT 0) vN gN) (va_A (cMain Y nN (hT 0) uD uX (aN 0) uA uZ uW uP uK uL nS ++ cTold Y hT tT ++ cStand Y aN (hT 0) vN gN) sz)) 0 0 (va_A (cMain Y nN (hT 0) uD uX (aN 0) uA uZ uW uP uK uL nS ++ cTold Y hT tT ++ cStand Y aN (hT 0) vN gN) sz) := by
  refine Met.ofW (cc := cX4_plot) (maxL := 3) (ret := (some .int)) (by decide) rfl ?_
  intro p e s m args below meth c s₁ B hml hv
  obtain ⟨rfl, hsz, hP, hK, hD0⟩ := hv
  have hx := B.exec
  have hb := B.bytes
  have hr := B.returns
  have hts := atoms_spec (ws := wsX4_plot) B.pre
  have hown : s.vm.findClass RX4 = some m.cls := findClass_of_methodNamed B.named
  have hlocks := B.notSynchronized
  subst hsz
  have hD := hD0.self (sz := s.heap.size)
  generalize hAe : va_A (cMain Y nN (hT 0) uD uX (aN 0) uA uZ uW uP uK uL nS ++ cTold Y hT tT ++ cStand Y aN (hT 0) vN gN) s.heap.size = A at hD ⊢
  have hA : ∀ q : Nat, s.heap.size ≤ q → A q := fun q h => by rw [← hAe]; exact Or.inr h
  have hS : va_S A s.heap s.heap [] := va_S.rf
  have hi3 : ∀ w ∈ wsX30, w ∈ wsX4_plot := fun w h => List.mem_cons_of_mem _ (List.mem_append_left _ (List.mem_append_right _ h))
  have hi4 : ∀ w ∈ wsX40, w ∈ wsX4_plot := fun w h => List.mem_cons_of_mem _ (List.mem_append_left _ (List.mem_append_left _ (List.mem_append_right _ h)))
  have hl := lv_entry ([.ref (nN 0), .int i1, .int i2]) (n := 3) (Nat.le_of_ble_eq_true rfl)
  rw [lg_entry_eq]
  generalize (lg_sl ([.ref (nN 0), .int i1, .int i2]) ++ List.replicate (3 - (lg_sl ([.ref (nN 0), .int i1, .int i2])).length) Slot.unset).toArray = ls at hl ⊢
  have hl : lv_has ls 3 [(0, .ref (nN 0)), (1, .int i1), (2, .int i2)] := hl
  obtain ⟨QQ, hQQ⟩ : ∃ Q : State → Prop, Q = MQ below (qiW rr D (cMain Y nN (hT 0) uD uX (aN 0) uA uZ uW uP uK uL nS ++ cTold Y hT tT ++ cStand Y aN (hT 0) vN gN) A) ([.ref (nN 0), .int i1, .int i2] : List Value).toArray s 0 0 A := ⟨_, rfl⟩
  rw [← hQQ]
  unfold MX4_plot at hM
  suffices hI : ∀ (H : Heap) (locs : List Loc), va_P D vwCl (cMain Y nN (hT 0) uD uX (aN 0) uA uZ uW uP uK uL nS ++ cTold Y hT tT ++ cStand Y aN (hT 0) vN gN) H → va_S A s.heap H locs → W p l e (headSpec wsX4_plot rmX4_plot).room s m ([.ref (nN 0), .int i1, .int i2] : List Value).toArray below meth c H locs 0 0 QQ (F0 m 0 ls []) from hI _ _ hP hS
  clear hP hS
  intro H locs hP hS
  refine lv_aload_n hx hb dX4_plot_0 rfl (lv_at hl 0 rfl) ?_
  refine lv_iload_n hx hb dX4_plot_1 rfl (lv_at hl 1 rfl) ?_
  obtain ⟨r1, hc2, hM⟩ := bnd1_at hM
  refine cm_i (w2 := (cMain Y nN (hT 0) uD uX (aN 0) uA uZ uW uP uK uL nS ++ cTold Y hT tT ++ cStand Y aN (hT 0) vN gN)) (va_runV (As := [.int i1]) (rest := []) ⟨hx, hb, hml, hown, hts⟩ (ctX4_isPlot l D Y nN hT uD uX (aN 0) uA uZ uW uP uK uL H.size nS tT i1 r1 hc2) (cwV 1 hts gX4_plot_X4_isPlot rfl rfl rfl (by decide +kernel) ⟨Nat.le_of_ble_eq_true rfl, Nat.le_of_ble_eq_true rfl⟩) (pcW_V (ci := 4) (q0 := 0) hK hP (hD.same rfl) [0, 1, 2, 3, 4, 5, 6, 7, 8, 9, 10, 11, 12, 13] rfl (pc_map (pc_cons rfl (pc_cons rfl (pc_cons rfl (pc_cons rfl (pc_cons rfl (pc_cons rfl (pc_cons rfl (pc_cons rfl (pc_cons rfl (pc_cons rfl (pc_cons rfl (pc_cons rfl (pc_cons rfl (pc_cons rfl pc_nil))))))))))))))) rfl rfl) rfl rfl hl.1 rfl (lv_room (Nat.le_of_ble_eq_true rfl)) dX4_plot_2 ⟨Nat.zero_le _, Nat.zero_le _⟩) hP (hD.same rfl) hS hA [0, 1, 2, 3, 4, 5, 6, 7, 8, 9, 10, 11, 12, 13] (pc_map (pc_cons rfl (pc_cons rfl (pc_cons rfl (pc_cons rfl (pc_cons rfl (pc_cons rfl (pc_cons rfl (pc_cons rfl (pc_cons rfl (pc_cons rfl (pc_cons rfl (pc_cons rfl (pc_cons rfl (pc_cons rfl pc_nil))))))))))))))) (up_new 0 rfl (up_new 1 rfl (up_new 2 rfl (up_new 3 rfl (up_new 4 rfl (up_new 5 rfl (up_new 6 rfl (up_new 7 rfl (up_new 8 rfl (up_new 9 rfl (up_new 10 rfl (up_new 11 rfl (up_new 12 rfl (up_new 13 rfl (up_old rfl rfl (up_old rfl rfl (up_old rfl rfl up_nil))))))))))))))))) (fun H locs hP hS => ?_)
  refine lv_if_ne (tgt := 11) hx hb dX4_plot_5 (by decide) (fun c3 => ?_) (fun c3 => ?_)
  · replace hM := if_at_neg hM c3
    refine lv_iload_n hx hb dX4_plot_11 rfl (lv_at hl 2 rfl) ?_
    refine jn0_at (∀ (H : Heap) (locs : List Loc) (ls : Array Slot), va_P D vwCl (cMain Y nN (hT 0) uD uX (aN 0) uA uZ uW uP uK uL nS ++ cTold Y hT tT ++ cStand Y aN (hT 0) vN gN) H → va_S A s.heap H locs → lv_has ls 3 [] → W p l e (headSpec wsX4_plot rmX4_plot).room s m ([.ref (nN 0), .int i1, .int i2] : List Value).toArray below meth c H locs 0 0 QQ (F0 m 20 ls [])) hM (fun  hM H locs ls hP hS hl => ?_) (fun k4 hJ4 hM => ?_)
    · refine lv_bipush (v := (-3 : Int32)) hx hb dX4_plot_20 (by decide) ?_
      cases hM
      rw [hQQ]
      exact W.iret hx hb hr (fun t ht hW => ⟨⟨_, (), rfl, rfl, by show va_P D vwCl _ t.heap; rw [ht]; exact hP⟩, hS.F ht⟩) hS.2.2 dX4_plot_22
    · refine lv_if_lt (tgt := 20) hx hb dX4_plot_12 (by decide) (fun c5 => ?_) (fun c5 => ?_)
      · replace hM := if_at_pos hM c5
        exact hJ4 hM H locs ls hP hS (lv_sub hl [] rfl)
      · replace hM := if_at_neg hM c5
        refine lv_iload_n hx hb dX4_plot_15 rfl (lv_at hl 2 rfl) ?_
        refine lv_iconst (v := (1 : Int32)) hx hb dX4_plot_16 (by decide) ?_
        refine lv_icmp_le (tgt := 23) hx hb dX4_plot_17 (by decide) (fun c6 => ?_) (fun c6 => ?_)
        · replace hM := if_at_pos hM c6
          refine lv_iload_n hx hb dX4_plot_23 rfl (lv_at hl 2 rfl) ?_
          refine jn1_at (fun (x7 : Int32) => ∀ (H : Heap) (locs : List Loc) (ls : Array Slot), va_P D vwCl (cMain Y nN (hT 0) uD uX (aN 0) uA uZ uW uP uK uL nS ++ cTold Y hT tT ++ cStand Y aN (hT 0) vN gN) H → va_S A s.heap H locs → lv_has ls 3 [] → W p l e (headSpec wsX4_plot rmX4_plot).room s m ([.ref (nN 0), .int i1, .int i2] : List Value).toArray below meth c H locs 0 0 QQ (F0 m 47 ls [.int x7])) hM (fun x7 hM H locs ls hP hS hl => ?_) (fun k8 hJ8 hM => ?_)
          · cases hM
            rw [hQQ]
            exact W.iret hx hb hr (fun t ht hW => ⟨⟨_, (), rfl, rfl, by show va_P D vwCl _ t.heap; rw [ht]; exact hP⟩, hS.F ht⟩) hS.2.2 dX4_plot_47
          · refine lv_if_ne (tgt := 38) hx hb dX4_plot_24 (by decide) (fun c9 => ?_) (fun c9 => ?_)
            · replace hM := if_at_neg hM c9
              refine lv_aload_n hx hb dX4_plot_38 rfl (lv_at hl 0 rfl) ?_
              refine va_get hx hb hts hi4 hown hK hP 0 rfl rfl 0 (by decide) (hts (.fieldLink RX4 12 "NightPlots" "told" "LNightPlots$Told;") (List.mem_of_getElem? (i := 2) rfl)) (fun _ h9 => h9) rfl dX4_plot_39 ?_
              refine va_get hx hb hts hi3 hown hK hP 6 rfl rfl 7 (by decide) (hts (.fieldLink RX4 104 "NightPlots$Told" "crop" "[I") (List.mem_of_getElem? (i := 3) rfl)) (fun _ h9 => h9) rfl dX4_plot_42 ?_
              refine lv_iload_n hx hb dX4_plot_45 rfl (lv_at hl 1 rfl) ?_
              obtain ⟨hi_10, hM⟩ := chkI_at hM
              refine va_iald hx hb hK hP 7 0 rfl rfl hi_10 dX4_plot_46 ?_
              exact hJ8 (tT 1 i1.toNatClampNeg) hM H locs ls hP hS (lv_sub hl [] rfl)
            · replace hM := if_at_pos hM c9
              refine lv_aload_n hx hb dX4_plot_27 rfl (lv_at hl 0 rfl) ?_
              refine va_get hx hb hts hi4 hown hK hP 0 rfl rfl 3 (by decide) (hts (.fieldLink RX4 31 "NightPlots" "now" "LNightPlots$Standing;") (List.mem_of_getElem? (i := 1) rfl)) (fun _ h9 => h9) rfl dX4_plot_28 ?_
              refine lv_iload_n hx hb dX4_plot_31 rfl (lv_at hl 1 rfl) ?_
              obtain ⟨r11, hc12, hM⟩ := bnd1_at hM
              refine cm_i (w2 := (cMain Y nN (hT 0) uD uX (aN 0) uA uZ uW uP uK uL nS ++ cTold Y hT tT ++ cStand Y aN (hT 0) vN gN)) (va_runV (As := [.int i1]) (rest := []) ⟨hx, hb, hml, hown, hts⟩ (ctX1_houseOn l D Y aN hT vN H.size gN tT i1 r11 hc12) (cwV 1 hts gX4_plot_X1_houseOn rfl rfl rfl (by decide +kernel) ⟨Nat.le_of_ble_eq_true rfl, Nat.le_of_ble_eq_true rfl⟩) (pcW_V (ci := 1) (q0 := 14) hK hP (hD.same rfl) [14, 15, 16, 6, 7, 8, 9, 10, 11, 12, 13] rfl (pc_map (pc_cons rfl (pc_cons rfl (pc_cons rfl (pc_cons rfl (pc_cons rfl (pc_cons rfl (pc_cons rfl (pc_cons rfl (pc_cons rfl (pc_cons rfl (pc_cons rfl pc_nil)))))))))))) rfl rfl) rfl rfl hl.1 rfl (lv_room (Nat.le_of_ble_eq_true rfl)) dX4_plot_32 ⟨Nat.zero_le _, Nat.zero_le _⟩) hP (hD.same rfl) hS hA [14, 15, 16, 6, 7, 8, 9, 10, 11, 12, 13] (pc_map (pc_cons rfl (pc_cons rfl (pc_cons rfl (pc_cons rfl (pc_cons rfl (pc_cons rfl (pc_cons rfl (pc_cons rfl (pc_cons rfl (pc_cons rfl (pc_cons rfl pc_nil)))))))))))) (up_old rfl rfl (up_old rfl rfl (up_old rfl rfl (up_old rfl rfl (up_old rfl rfl (up_old rfl rfl (up_new 3 rfl (up_new 4 rfl (up_new 5 rfl (up_new 6 rfl (up_new 7 rfl (up_new 8 rfl (up_new 9 rfl (up_new 10 rfl (up_new 0 rfl (up_new 1 rfl (up_new 2 rfl up_nil))))))))))))))))) (fun H locs hP hS => ?_)
              refine lv_goto (tgt := 47) hx hb dX4_plot_35 (by decide) ?_
              exact hJ8 r11 hM H locs ls hP hS (lv_sub hl [] rfl)
        · replace hM := if_at_neg hM c6
          exact hJ4 hM H locs ls hP hS (lv_sub hl [] rfl)
  · replace hM := if_at_pos hM c3
    refine lv_bipush (v := (-2 : Int32)) hx hb dX4_plot_8 (by decide) ?_
    cases hM
    rw [hQQ]
    exact W.iret hx hb hr (fun t ht hW => ⟨⟨_, (), rfl, rfl, by show va_P D vwCl _ t.heap; rw [ht]; exact hP⟩, hS.F ht⟩) hS.2.2 dX4_plot_10
noncomputable def MX4_house (tT : GS) (gN : GS) (i1 : Int32) (i2 : Int32) : Option (Int32) := bnd1 (MX4_isHouse tT i1) fun (r1 : Int32) => if r1 = 0 then (some ((-2 : Int32))) else (if i2 = (0 : Int32) then (chkI i1 8 (some ((tT 2 i1.toNatClampNeg)))) else (if i2 = (1 : Int32) then (chkI i1 8 (some ((gN 1 i1.toNatClampNeg)))) else (if i2 = (2 : Int32) then (chkI i1 8 (jn1 (fun (x8 : Int32) => some (x8)) (fun k9 => if (gN 2 i1.toNatClampNeg) = 0 then (k9 (-1 : Int32)) else (chkI i1 8 (k9 ((gN 0 5) - (gN 2 i1.toNatClampNeg))))))) else (some ((-3 : Int32))))))
abbrev rmX4_house : Room := { frames := 2, cells := 0, slots := 0, locals := 80 }
set_option maxHeartbeats 4000000 in
set_option maxRecDepth 100000 in
theorem ctX4_house (l : Launch) (D : va_G) (Y : Nat → ClassId) (nN : Nat → Nat) (hT : Nat → Nat) (aN : Nat → Nat) (uD : Nat) (uX : Nat) (uA : Nat) (uZ : Nat) (uW : Nat) (uP : Nat) (uK : Nat) (uL : Nat) (vN : Nat) (sz : Nat) (nS : GS) (tT : GS) (gN : GS) (i1 : Int32) (i2 : Int32) (rr : Int32) (hM : MX4_house tT gN i1 i2 = some (rr)) : Met l yX4_house wsX4_house rmX4_house (pcW [.ref (nN 0), .int i1, .int i2] sz D Y (cMain Y nN (hT 0) uD uX (aN 0) uA uZ uW uP uK uL nS ++ cTold Y hT tT ++ cStand Y aN (hT 0) vN gN)) (qiW rr D (cMain Y nN (hT 0) uD uX (aN 0) uA uZ uW uP uK uL nS ++ cTold Y hT tT ++ cStand Y aN (hT 0) vN gN) (va_A (cMain Y nN (hT 0) uD uX (aN 0) uA uZ uW uP uK uL nS ++ cTold Y hT tT ++ cStand Y aN (hT 0) vN gN) sz)) 0 0 (va_A (cMain Y nN (hT 0) uD uX (aN 0) uA uZ uW uP uK uL nS ++ cTold Y hT tT ++ cStand Y aN (hT 0) vN gN) sz) := by
  refine Met.ofW (cc := cX4_house) (maxL := 3) (ret := (some .int)) (by decide) rfl ?_
  intro p e s m args below meth c s₁ B hml hv
  obtain ⟨rfl, hsz, hP, hK, hD0⟩ := hv
  have hx := B.exec
  have hb := B.bytes
  have hr := B.returns
  have hts := atoms_spec (ws := wsX4_house) B.pre
  have hown : s.vm.findClass RX4 = some m.cls := findClass_of_methodNamed B.named
  have hlocks := B.notSynchronized
  subst hsz
  have hD := hD0.self (sz := s.heap.size)
  generalize hAe : va_A (cMain Y nN (hT 0) uD uX (aN 0) uA uZ uW uP uK uL nS ++ cTold Y hT tT ++ cStand Y aN (hT 0) vN gN) s.heap.size = A at hD ⊢
  have hA : ∀ q : Nat, s.heap.size ≤ q → A q := fun q h => by rw [← hAe]; exact Or.inr h
  have hS : va_S A s.heap s.heap [] := va_S.rf
  have hi1 : ∀ w ∈ wsX10, w ∈ wsX4_house := fun w h => List.mem_cons_of_mem _ (List.mem_append_right _ h)
  have hi3 : ∀ w ∈ wsX30, w ∈ wsX4_house := fun w h => List.mem_cons_of_mem _ (List.mem_append_left _ (List.mem_append_right _ h))
  have hi4 : ∀ w ∈ wsX40, w ∈ wsX4_house := fun w h => List.mem_cons_of_mem _ (List.mem_append_left _ (List.mem_append_left _ (List.mem_append_right _ h)))
  have hl := lv_entry ([.ref (nN 0), .int i1, .int i2]) (n := 3) (Nat.le_of_ble_eq_true rfl)
  rw [lg_entry_eq]
  generalize (lg_sl ([.ref (nN 0), .int i1, .int i2]) ++ List.replicate (3 - (lg_sl ([.ref (nN 0), .int i1, .int i2])).length) Slot.unset).toArray = ls at hl ⊢
  have hl : lv_has ls 3 [(0, .ref (nN 0)), (1, .int i1), (2, .int i2)] := hl
  obtain ⟨QQ, hQQ⟩ : ∃ Q : State → Prop, Q = MQ below (qiW rr D (cMain Y nN (hT 0) uD uX (aN 0) uA uZ uW uP uK uL nS ++ cTold Y hT tT ++ cStand Y aN (hT 0) vN gN) A) ([.ref (nN 0), .int i1, .int i2] : List Value).toArray s 0 0 A := ⟨_, rfl⟩
  rw [← hQQ]
  unfold MX4_house at hM
  suffices hI : ∀ (H : Heap) (locs : List Loc), va_P D vwCl (cMain Y nN (hT 0) uD uX (aN 0) uA uZ uW uP uK uL nS ++ cTold Y hT tT ++ cStand Y aN (hT 0) vN gN) H → va_S A s.heap H locs → W p l e (headSpec wsX4_house rmX4_house).room s m ([.ref (nN 0), .int i1, .int i2] : List Value).toArray below meth c H locs 0 0 QQ (F0 m 0 ls []) from hI _ _ hP hS
  clear hP hS
  intro H locs hP hS
  refine lv_aload_n hx hb dX4_house_0 rfl (lv_at hl 0 rfl) ?_
  refine lv_iload_n hx hb dX4_house_1 rfl (lv_at hl 1 rfl) ?_
  obtain ⟨r1, hc2, hM⟩ := bnd1_at hM
  refine cm_i (w2 := (cMain Y nN (hT 0) uD uX (aN 0) uA uZ uW uP uK uL nS ++ cTold Y hT tT ++ cStand Y aN (hT 0) vN gN)) (va_runV (As := [.int i1]) (rest := []) ⟨hx, hb, hml, hown, hts⟩ (ctX4_isHouse l D Y nN hT uD uX (aN 0) uA uZ uW uP uK uL H.size nS tT i1 r1 hc2) (cwV 1 hts gX4_house_X4_isHouse rfl rfl rfl (by decide +kernel) ⟨Nat.le_of_ble_eq_true rfl, Nat.le_of_ble_eq_true rfl⟩) (pcW_V (ci := 4) (q0 := 0) hK hP (hD.same rfl) [0, 1, 2, 3, 4, 5, 6, 7, 8, 9, 10, 11, 12, 13] rfl (pc_map (pc_cons rfl (pc_cons rfl (pc_cons rfl (pc_cons rfl (pc_cons rfl (pc_cons rfl (pc_cons rfl (pc_cons rfl (pc_cons rfl (pc_cons rfl (pc_cons rfl (pc_cons rfl (pc_cons rfl (pc_cons rfl pc_nil))))))))))))))) rfl rfl) rfl rfl hl.1 rfl (lv_room (Nat.le_of_ble_eq_true rfl)) dX4_house_2 ⟨Nat.zero_le _, Nat.zero_le _⟩) hP (hD.same rfl) hS hA [0, 1, 2, 3, 4, 5, 6, 7, 8, 9, 10, 11, 12, 13] (pc_map (pc_cons rfl (pc_cons rfl (pc_cons rfl (pc_cons rfl (pc_cons rfl (pc_cons rfl (pc_cons rfl (pc_cons rfl (pc_cons rfl (pc_cons rfl (pc_cons rfl (pc_cons rfl (pc_cons rfl (pc_cons rfl pc_nil))))))))))))))) (up_new 0 rfl (up_new 1 rfl (up_new 2 rfl (up_new 3 rfl (up_new 4 rfl (up_new 5 rfl (up_new 6 rfl (up_new 7 rfl (up_new 8 rfl (up_new 9 rfl (up_new 10 rfl (up_new 11 rfl (up_new 12 rfl (up_new 13 rfl (up_old rfl rfl (up_old rfl rfl (up_old rfl rfl up_nil))))))))))))))))) (fun H locs hP hS => ?_)
  refine lv_if_ne (tgt := 11) hx hb dX4_house_5 (by decide) (fun c3 => ?_) (fun c3 => ?_)
  · replace hM := if_at_neg hM c3
    refine lv_iload_n hx hb dX4_house_11 rfl (lv_at hl 2 rfl) ?_
    by_cases c4_0 : i2 = (0 : Int32)
    · replace hM := if_at_pos hM c4_0
      refine lv_tableIn (off := 28) (tgt := 40) hx hb dX4_house_12 (by rw [c4_0]; decide) (by rw [c4_0]; decide) (by rw [c4_0]; rfl) (by decide) ?_
      refine lv_aload_n hx hb dX4_house_40 rfl (lv_at hl 0 rfl) ?_
      refine va_get hx hb hts hi4 hown hK hP 0 rfl rfl 0 (by decide) (hts (.fieldLink RX4 12 "NightPlots" "told" "LNightPlots$Told;") (List.mem_of_getElem? (i := 1) rfl)) (fun _ h9 => h9) rfl dX4_house_41 ?_
      refine va_get hx hb hts hi3 hown hK hP 6 rfl rfl 8 (by decide) (hts (.fieldLink RX4 110 "NightPlots$Told" "kind" "[I") (List.mem_of_getElem? (i := 2) rfl)) (fun _ h9 => h9) rfl dX4_house_44 ?_
      refine lv_iload_n hx hb dX4_house_47 rfl (lv_at hl 1 rfl) ?_
      obtain ⟨hi_5, hM⟩ := chkI_at hM
      refine va_iald hx hb hK hP 8 0 rfl rfl hi_5 dX4_house_48 ?_
      cases hM
      rw [hQQ]
      exact W.iret hx hb hr (fun t ht hW => ⟨⟨_, (), rfl, rfl, by show va_P D vwCl _ t.heap; rw [ht]; exact hP⟩, hS.F ht⟩) hS.2.2 dX4_house_49
    · replace hM := if_at_neg hM c4_0
      by_cases c4_1 : i2 = (1 : Int32)
      · replace hM := if_at_pos hM c4_1
        refine lv_tableIn (off := 38) (tgt := 50) hx hb dX4_house_12 (by rw [c4_1]; decide) (by rw [c4_1]; decide) (by rw [c4_1]; rfl) (by decide) ?_
        refine lv_aload_n hx hb dX4_house_50 rfl (lv_at hl 0 rfl) ?_
        refine va_get hx hb hts hi4 hown hK hP 0 rfl rfl 3 (by decide) (hts (.fieldLink RX4 31 "NightPlots" "now" "LNightPlots$Standing;") (List.mem_of_getElem? (i := 3) rfl)) (fun _ h9 => h9) rfl dX4_house_51 ?_
        refine va_get hx hb hts hi1 hown hK hP 14 rfl rfl 1 (by decide) (hts (.fieldLink RX4 113 "NightPlots$Standing" "place" "[I") (List.mem_of_getElem? (i := 4) rfl)) (fun _ h9 => h9) rfl dX4_house_54 ?_
        refine lv_iload_n hx hb dX4_house_57 rfl (lv_at hl 1 rfl) ?_
        obtain ⟨hi_6, hM⟩ := chkI_at hM
        refine va_iald hx hb hK hP 15 0 rfl rfl hi_6 dX4_house_58 ?_
        cases hM
        rw [hQQ]
        exact W.iret hx hb hr (fun t ht hW => ⟨⟨_, (), rfl, rfl, by show va_P D vwCl _ t.heap; rw [ht]; exact hP⟩, hS.F ht⟩) hS.2.2 dX4_house_59
      · replace hM := if_at_neg hM c4_1
        by_cases c4_2 : i2 = (2 : Int32)
        · replace hM := if_at_pos hM c4_2
          refine lv_tableIn (off := 48) (tgt := 60) hx hb dX4_house_12 (by rw [c4_2]; decide) (by rw [c4_2]; decide) (by rw [c4_2]; rfl) (by decide) ?_
          refine lv_aload_n hx hb dX4_house_60 rfl (lv_at hl 0 rfl) ?_
          refine va_get hx hb hts hi4 hown hK hP 0 rfl rfl 3 (by decide) (hts (.fieldLink RX4 31 "NightPlots" "now" "LNightPlots$Standing;") (List.mem_of_getElem? (i := 3) rfl)) (fun _ h9 => h9) rfl dX4_house_61 ?_
          refine va_get hx hb hts hi1 hown hK hP 14 rfl rfl 2 (by decide) (hts (.fieldLink RX4 116 "NightPlots$Standing" "rolled" "[I") (List.mem_of_getElem? (i := 5) rfl)) (fun _ h9 => h9) rfl dX4_house_64 ?_
          refine lv_iload_n hx hb dX4_house_67 rfl (lv_at hl 1 rfl) ?_
          obtain ⟨hi_7, hM⟩ := chkI_at hM
          refine va_iald hx hb hK hP 16 0 rfl rfl hi_7 dX4_house_68 ?_
          refine jn1_at (fun (x8 : Int32) => ∀ (H : Heap) (locs : List Loc) (ls : Array Slot), va_P D vwCl (cMain Y nN (hT 0) uD uX (aN 0) uA uZ uW uP uK uL nS ++ cTold Y hT tT ++ cStand Y aN (hT 0) vN gN) H → va_S A s.heap H locs → lv_has ls 3 [] → W p l e (headSpec wsX4_house rmX4_house).room s m ([.ref (nN 0), .int i1, .int i2] : List Value).toArray below meth c H locs 0 0 QQ (F0 m 93 ls [.int x8])) hM (fun x8 hM H locs ls hP hS hl => ?_) (fun k9 hJ9 hM => ?_)
          · cases hM
            rw [hQQ]
            exact W.iret hx hb hr (fun t ht hW => ⟨⟨_, (), rfl, rfl, by show va_P D vwCl _ t.heap; rw [ht]; exact hP⟩, hS.F ht⟩) hS.2.2 dX4_house_93
          · refine lv_if_ne (tgt := 76) hx hb dX4_house_69 (by decide) (fun c10 => ?_) (fun c10 => ?_)
            · replace hM := if_at_neg hM c10
              refine lv_aload_n hx hb dX4_house_76 rfl (lv_at hl 0 rfl) ?_
              refine va_get hx hb hts hi4 hown hK hP 0 rfl rfl 3 (by decide) (hts (.fieldLink RX4 31 "NightPlots" "now" "LNightPlots$Standing;") (List.mem_of_getElem? (i := 3) rfl)) (fun _ h9 => h9) rfl dX4_house_77 ?_
              refine va_get hx hb hts hi1 hown hK hP 14 rfl rfl 5 (by decide) (hts (.fieldLink RX4 119 "NightPlots$Standing" "nights" "I") (List.mem_of_getElem? (i := 6) rfl)) (fun _ h9 => h9) rfl dX4_house_80 ?_
              refine lv_aload_n hx hb dX4_house_83 rfl (lv_at hl 0 rfl) ?_
              refine va_get hx hb hts hi4 hown hK hP 0 rfl rfl 3 (by decide) (hts (.fieldLink RX4 31 "NightPlots" "now" "LNightPlots$Standing;") (List.mem_of_getElem? (i := 3) rfl)) (fun _ h9 => h9) rfl dX4_house_84 ?_
              refine va_get hx hb hts hi1 hown hK hP 14 rfl rfl 2 (by decide) (hts (.fieldLink RX4 116 "NightPlots$Standing" "rolled" "[I") (List.mem_of_getElem? (i := 5) rfl)) (fun _ h9 => h9) rfl dX4_house_87 ?_
              refine lv_iload_n hx hb dX4_house_90 rfl (lv_at hl 1 rfl) ?_
              obtain ⟨hi_11, hM⟩ := chkI_at hM
              refine va_iald hx hb hK hP 16 0 rfl rfl hi_11 dX4_house_91 ?_
              refine lv_isub hx hb dX4_house_92 ?_
              exact hJ9 ((gN 0 5) - (gN 2 i1.toNatClampNeg)) hM H locs ls hP hS (lv_sub hl [] rfl)
            · replace hM := if_at_pos hM c10
              refine lv_iconst (v := (-1 : Int32)) hx hb dX4_house_72 (by decide) ?_
              refine lv_goto (tgt := 93) hx hb dX4_house_73 (by decide) ?_
              exact hJ9 (-1 : Int32) hM H locs ls hP hS (lv_sub hl [] rfl)
        · replace hM := if_at_neg hM c4_2
          refine lv_tableOut (tgt := 94) hx hb dX4_house_12 (by have n4_0 := lv_neT (a := 0) c4_0 rfl; have n4_1 := lv_neT (a := 1) c4_1 rfl; have n4_2 := lv_neT (a := 2) c4_2 rfl; omega) (by decide) ?_
          refine lv_bipush (v := (-3 : Int32)) hx hb dX4_house_94 (by decide) ?_
          cases hM
          rw [hQQ]
          exact W.iret hx hb hr (fun t ht hW => ⟨⟨_, (), rfl, rfl, by show va_P D vwCl _ t.heap; rw [ht]; exact hP⟩, hS.F ht⟩) hS.2.2 dX4_house_96
  · replace hM := if_at_pos hM c3
    refine lv_bipush (v := (-2 : Int32)) hx hb dX4_house_8 (by decide) ?_
    cases hM
    rw [hQQ]
    exact W.iret hx hb hr (fun t ht hW => ⟨⟨_, (), rfl, rfl, by show va_P D vwCl _ t.heap; rw [ht]; exact hP⟩, hS.F ht⟩) hS.2.2 dX4_house_10
noncomputable def MX4_as (tT : GS) (gN : GS) (fW : Nat → Int32) (i1 : Int32) (i2 : Int32) : Option (Int32 × (Nat → Int32)) := bnd1 (MX4_isHouse tT i1) fun (r1 : Int32) => if r1 = 0 then (some ((-2 : Int32), fW)) else (jn0 (some ((-3 : Int32), fW)) (fun k4 => if i2 < 0 then (k4) else (if i2 ≤ (4 : Int32) then (chkI i1 8 (bnd1 (MX4_isSuch (tT 2 i1.toNatClampNeg) i2) fun (r8 : Int32) => jn2 (fun (fW_10 : Nat → Int32) (x11 : Int32) => some (x11, fW_10)) (fun k12 => if r8 = 0 then (k12 fW (-4 : Int32)) else (bnd2 (MX1_findWays gN fW tT i1) fun (r14 : Int32) (fR_15 : Nat → Int32) => k12 fR_15 r14)))) else (k4))))
abbrev rmX4_as : Room := { frames := 4, cells := 0, slots := 0, locals := 160 }
set_option maxHeartbeats 4000000 in
set_option maxRecDepth 100000 in
theorem ctX4_as (l : Launch) (D : va_G) (Y : Nat → ClassId) (nN : Nat → Nat) (hT : Nat → Nat) (aN : Nat → Nat) (uW : Nat) (uD : Nat) (uX : Nat) (uA : Nat) (uZ : Nat) (uP : Nat) (uK : Nat) (uL : Nat) (vN : Nat) (sz : Nat) (nS : GS) (tT : GS) (gN : GS) (fW : Nat → Int32) (i1 : Int32) (i2 : Int32) (rr : Int32) (fWz : Nat → Int32) (hM : MX4_as tT gN fW i1 i2 = some (rr, fWz)) : Met l yX4_as wsX4_as rmX4_as (pcW [.ref (nN 0), .int i1, .int i2] sz D Y (cMain Y nN (hT 0) uD uX (aN 0) uA uZ uW uP uK uL nS ++ cTold Y hT tT ++ cStand Y aN (hT 0) vN gN ++ cRow Y uW 8 fW)) (qiW rr D (cMain Y nN (hT 0) uD uX (aN 0) uA uZ uW uP uK uL nS ++ cTold Y hT tT ++ cStand Y aN (hT 0) vN gN ++ cRow Y uW 8 fWz) (va_A (cMain Y nN (hT 0) uD uX (aN 0) uA uZ uW uP uK uL nS ++ cTold Y hT tT ++ cStand Y aN (hT 0) vN gN ++ cRow Y uW 8 fW) sz)) 0 0 (va_A (cMain Y nN (hT 0) uD uX (aN 0) uA uZ uW uP uK uL nS ++ cTold Y hT tT ++ cStand Y aN (hT 0) vN gN ++ cRow Y uW 8 fW) sz) := by
  refine Met.ofW (cc := cX4_as) (maxL := 3) (ret := (some .int)) (by decide) rfl ?_
  intro p e s m args below meth c s₁ B hml hv
  obtain ⟨rfl, hsz, hP, hK, hD0⟩ := hv
  have hx := B.exec
  have hb := B.bytes
  have hr := B.returns
  have hts := atoms_spec (ws := wsX4_as) B.pre
  have hown : s.vm.findClass RX4 = some m.cls := findClass_of_methodNamed B.named
  have hlocks := B.notSynchronized
  subst hsz
  have hD := hD0.self (sz := s.heap.size)
  generalize hAe : va_A (cMain Y nN (hT 0) uD uX (aN 0) uA uZ uW uP uK uL nS ++ cTold Y hT tT ++ cStand Y aN (hT 0) vN gN ++ cRow Y uW 8 fW) s.heap.size = A at hD ⊢
  have hA : ∀ q : Nat, s.heap.size ≤ q → A q := fun q h => by rw [← hAe]; exact Or.inr h
  have hS : va_S A s.heap s.heap [] := va_S.rf
  have hi3 : ∀ w ∈ wsX30, w ∈ wsX4_as := fun w h => List.mem_cons_of_mem _ (List.mem_append_left _ (List.mem_append_right _ h))
  have hi4 : ∀ w ∈ wsX40, w ∈ wsX4_as := fun w h => List.mem_cons_of_mem _ (List.mem_append_left _ (List.mem_append_left _ (List.mem_append_right _ h)))
  have hl := lv_entry ([.ref (nN 0), .int i1, .int i2]) (n := 3) (Nat.le_of_ble_eq_true rfl)
  rw [lg_entry_eq]
  generalize (lg_sl ([.ref (nN 0), .int i1, .int i2]) ++ List.replicate (3 - (lg_sl ([.ref (nN 0), .int i1, .int i2])).length) Slot.unset).toArray = ls at hl ⊢
  have hl : lv_has ls 3 [(0, .ref (nN 0)), (1, .int i1), (2, .int i2)] := hl
  obtain ⟨QQ, hQQ⟩ : ∃ Q : State → Prop, Q = MQ below (qiW rr D (cMain Y nN (hT 0) uD uX (aN 0) uA uZ uW uP uK uL nS ++ cTold Y hT tT ++ cStand Y aN (hT 0) vN gN ++ cRow Y uW 8 fWz) A) ([.ref (nN 0), .int i1, .int i2] : List Value).toArray s 0 0 A := ⟨_, rfl⟩
  rw [← hQQ]
  unfold MX4_as at hM
  suffices hI : ∀ (H : Heap) (locs : List Loc), va_P D vwCl (cMain Y nN (hT 0) uD uX (aN 0) uA uZ uW uP uK uL nS ++ cTold Y hT tT ++ cStand Y aN (hT 0) vN gN ++ cRow Y uW 8 fW) H → va_S A s.heap H locs → W p l e (headSpec wsX4_as rmX4_as).room s m ([.ref (nN 0), .int i1, .int i2] : List Value).toArray below meth c H locs 0 0 QQ (F0 m 0 ls []) from hI _ _ hP hS
  clear hP hS
  intro H locs hP hS
  refine lv_aload_n hx hb dX4_as_0 rfl (lv_at hl 0 rfl) ?_
  refine lv_iload_n hx hb dX4_as_1 rfl (lv_at hl 1 rfl) ?_
  obtain ⟨r1, hc2, hM⟩ := bnd1_at hM
  refine cm_i (w2 := (cMain Y nN (hT 0) uD uX (aN 0) uA uZ uW uP uK uL nS ++ cTold Y hT tT ++ cStand Y aN (hT 0) vN gN ++ cRow Y uW 8 fW)) (va_runV (As := [.int i1]) (rest := []) ⟨hx, hb, hml, hown, hts⟩ (ctX4_isHouse l D Y nN hT uD uX (aN 0) uA uZ uW uP uK uL H.size nS tT i1 r1 hc2) (cwV 1 hts gX4_as_X4_isHouse rfl rfl rfl (by decide +kernel) ⟨Nat.le_of_ble_eq_true rfl, Nat.le_of_ble_eq_true rfl⟩) (pcW_V (ci := 4) (q0 := 0) hK hP (hD.same rfl) [0, 1, 2, 3, 4, 5, 6, 7, 8, 9, 10, 11, 12, 13] rfl (pc_map (pc_cons rfl (pc_cons rfl (pc_cons rfl (pc_cons rfl (pc_cons rfl (pc_cons rfl (pc_cons rfl (pc_cons rfl (pc_cons rfl (pc_cons rfl (pc_cons rfl (pc_cons rfl (pc_cons rfl (pc_cons rfl pc_nil))))))))))))))) rfl rfl) rfl rfl hl.1 rfl (lv_room (Nat.le_of_ble_eq_true rfl)) dX4_as_2 ⟨Nat.zero_le _, Nat.zero_le _⟩) hP (hD.same rfl) hS hA [0, 1, 2, 3, 4, 5, 6, 7, 8, 9, 10, 11, 12, 13] (pc_map (pc_cons rfl (pc_cons rfl (pc_cons rfl (pc_cons rfl (pc_cons rfl (pc_cons rfl (pc_cons rfl (pc_cons rfl (pc_cons rfl (pc_cons rfl (pc_cons rfl (pc_cons rfl (pc_cons rfl (pc_cons rfl pc_nil))))))))))))))) (up_new 0 rfl (up_new 1 rfl (up_new 2 rfl (up_new 3 rfl (up_new 4 rfl (up_new 5 rfl (up_new 6 rfl (up_new 7 rfl (up_new 8 rfl (up_new 9 rfl (up_new 10 rfl (up_new 11 rfl (up_new 12 rfl (up_new 13 rfl (up_old rfl rfl (up_old rfl rfl (up_old rfl rfl (up_old rfl rfl up_nil)))))))))))))))))) (fun H locs hP hS => ?_)
  refine lv_if_ne (tgt := 11) hx hb dX4_as_5 (by decide) (fun c3 => ?_) (fun c3 => ?_)
  · replace hM := if_at_neg hM c3
    refine lv_iload_n hx hb dX4_as_11 rfl (lv_at hl 2 rfl) ?_
    refine jn0_at (∀ (H : Heap) (locs : List Loc) (ls : Array Slot), va_P D vwCl (cMain Y nN (hT 0) uD uX (aN 0) uA uZ uW uP uK uL nS ++ cTold Y hT tT ++ cStand Y aN (hT 0) vN gN ++ cRow Y uW 8 fW) H → va_S A s.heap H locs → lv_has ls 3 [] → W p l e (headSpec wsX4_as rmX4_as).room s m ([.ref (nN 0), .int i1, .int i2] : List Value).toArray below meth c H locs 0 0 QQ (F0 m 20 ls [])) hM (fun  hM H locs ls hP hS hl => ?_) (fun k4 hJ4 hM => ?_)
    · refine lv_bipush (v := (-3 : Int32)) hx hb dX4_as_20 (by decide) ?_
      cases hM
      rw [hQQ]
      exact W.iret hx hb hr (fun t ht hW => ⟨⟨_, (), rfl, rfl, by show va_P D vwCl _ t.heap; rw [ht]; exact hP⟩, hS.F ht⟩) hS.2.2 dX4_as_22
    · refine lv_if_lt (tgt := 20) hx hb dX4_as_12 (by decide) (fun c5 => ?_) (fun c5 => ?_)
      · replace hM := if_at_pos hM c5
        exact hJ4 hM H locs ls hP hS (lv_sub hl [] rfl)
      · replace hM := if_at_neg hM c5
        refine lv_iload_n hx hb dX4_as_15 rfl (lv_at hl 2 rfl) ?_
        refine lv_iconst (v := (4 : Int32)) hx hb dX4_as_16 (by decide) ?_
        refine lv_icmp_le (tgt := 23) hx hb dX4_as_17 (by decide) (fun c6 => ?_) (fun c6 => ?_)
        · replace hM := if_at_pos hM c6
          refine lv_aload_n hx hb dX4_as_23 rfl (lv_at hl 0 rfl) ?_
          refine va_get hx hb hts hi4 hown hK hP 0 rfl rfl 0 (by decide) (hts (.fieldLink RX4 12 "NightPlots" "told" "LNightPlots$Told;") (List.mem_of_getElem? (i := 1) rfl)) (fun _ h9 => h9) rfl dX4_as_24 ?_
          refine va_get hx hb hts hi3 hown hK hP 6 rfl rfl 8 (by decide) (hts (.fieldLink RX4 110 "NightPlots$Told" "kind" "[I") (List.mem_of_getElem? (i := 2) rfl)) (fun _ h9 => h9) rfl dX4_as_27 ?_
          refine lv_iload_n hx hb dX4_as_30 rfl (lv_at hl 1 rfl) ?_
          obtain ⟨hi_7, hM⟩ := chkI_at hM
          refine va_iald hx hb hK hP 8 0 rfl rfl hi_7 dX4_as_31 ?_
          refine lv_iload_n hx hb dX4_as_32 rfl (lv_at hl 2 rfl) ?_
          obtain ⟨r8, hc9, hM⟩ := bnd1_at hM
          refine cm_i (w2 := (cMain Y nN (hT 0) uD uX (aN 0) uA uZ uW uP uK uL nS ++ cTold Y hT tT ++ cStand Y aN (hT 0) vN gN ++ cRow Y uW 8 fW)) (va_runS (As := [.int (tT 2 i1.toNatClampNeg), .int i2]) (rest := []) ⟨hx, hb, hml, hown, hts⟩ (ctX4_isSuch l D Y H.size (tT 2 i1.toNatClampNeg) i2 r8 hc9) (cwS 2 hts gX4_as_X4_isSuch rfl rfl rfl (by decide +kernel) ⟨Nat.le_of_ble_eq_true rfl, Nat.le_of_ble_eq_true rfl⟩) (pcW_S hK hP (hD.same rfl) [] rfl (pc_map pc_nil)) rfl rfl hl.1 rfl (lv_room (Nat.le_of_ble_eq_true rfl)) dX4_as_33 ⟨Nat.zero_le _, Nat.zero_le _⟩) hP (hD.same rfl) hS hA [] (pc_map pc_nil) (up_old rfl rfl (up_old rfl rfl (up_old rfl rfl (up_old rfl rfl (up_old rfl rfl (up_old rfl rfl (up_old rfl rfl (up_old rfl rfl (up_old rfl rfl (up_old rfl rfl (up_old rfl rfl (up_old rfl rfl (up_old rfl rfl (up_old rfl rfl (up_old rfl rfl (up_old rfl rfl (up_old rfl rfl (up_old rfl rfl up_nil)))))))))))))))))) (fun H locs hP hS => ?_)
          refine jn2_at (fun (fW_10 : Nat → Int32) (x11 : Int32) => ∀ (H : Heap) (locs : List Loc) (ls : Array Slot), va_P D vwCl (cMain Y nN (hT 0) uD uX (aN 0) uA uZ uW uP uK uL nS ++ cTold Y hT tT ++ cStand Y aN (hT 0) vN gN ++ cRow Y uW 8 fW_10) H → va_S A s.heap H locs → lv_has ls 3 [] → W p l e (headSpec wsX4_as rmX4_as).room s m ([.ref (nN 0), .int i1, .int i2] : List Value).toArray below meth c H locs 0 0 QQ (F0 m 56 ls [.int x11])) hM (fun fW_10 x11 hM H locs ls hP hS hl => ?_) (fun k12 hJ12 hM => ?_)
          · cases hM
            rw [hQQ]
            exact W.iret hx hb hr (fun t ht hW => ⟨⟨_, (), rfl, rfl, by show va_P D vwCl _ t.heap; rw [ht]; exact hP⟩, hS.F ht⟩) hS.2.2 dX4_as_56
          · refine lv_if_eq (tgt := 54) hx hb dX4_as_36 (by decide) (fun c13 => ?_) (fun c13 => ?_)
            · replace hM := if_at_pos hM c13
              refine lv_bipush (v := (-4 : Int32)) hx hb dX4_as_54 (by decide) ?_
              exact hJ12 fW (-4 : Int32) hM H locs ls hP hS (lv_sub hl [] rfl)
            · replace hM := if_at_neg hM c13
              refine lv_aload_n hx hb dX4_as_39 rfl (lv_at hl 0 rfl) ?_
              refine va_get hx hb hts hi4 hown hK hP 0 rfl rfl 3 (by decide) (hts (.fieldLink RX4 31 "NightPlots" "now" "LNightPlots$Standing;") (List.mem_of_getElem? (i := 3) rfl)) (fun _ h9 => h9) rfl dX4_as_40 ?_
              refine lv_iload_n hx hb dX4_as_43 rfl (lv_at hl 1 rfl) ?_
              refine lv_aload_n hx hb dX4_as_44 rfl (lv_at hl 0 rfl) ?_
              refine va_get hx hb hts hi4 hown hK hP 0 rfl rfl 8 (by decide) (hts (.fieldLink RX4 55 "NightPlots" "ways" "[I") (List.mem_of_getElem? (i := 4) rfl)) (fun _ h9 => h9) rfl dX4_as_45 ?_
              obtain ⟨r14, fR_15, hc16, hM⟩ := bnd2_at hM
              refine cm_i (w2 := (cMain Y nN (hT 0) uD uX (aN 0) uA uZ uW uP uK uL nS ++ cTold Y hT tT ++ cStand Y aN (hT 0) vN gN ++ cRow Y uW 8 fR_15)) (va_runV (As := [.int i1, .ref uW]) (rest := []) ⟨hx, hb, hml, hown, hts⟩ (ctX1_findWays l D Y aN uW hT vN H.size gN fW tT i1 r14 fR_15 hc16) (cwV 2 hts gX4_as_X1_findWays rfl rfl rfl (by decide +kernel) ⟨Nat.le_of_ble_eq_true rfl, Nat.le_of_ble_eq_true rfl⟩) (pcW_V (ci := 1) (q0 := 14) hK hP (hD.same rfl) [14, 15, 16, 17, 6, 7, 8, 9, 10, 11, 12, 13] rfl (pc_map (pc_cons rfl (pc_cons rfl (pc_cons rfl (pc_cons rfl (pc_cons rfl (pc_cons rfl (pc_cons rfl (pc_cons rfl (pc_cons rfl (pc_cons rfl (pc_cons rfl (pc_cons rfl pc_nil))))))))))))) rfl rfl) rfl rfl hl.1 rfl (lv_room (Nat.le_of_ble_eq_true rfl)) dX4_as_48 ⟨Nat.zero_le _, Nat.zero_le _⟩) hP (hD.same rfl) hS hA [14, 15, 16, 17, 6, 7, 8, 9, 10, 11, 12, 13] (pc_map (pc_cons rfl (pc_cons rfl (pc_cons rfl (pc_cons rfl (pc_cons rfl (pc_cons rfl (pc_cons rfl (pc_cons rfl (pc_cons rfl (pc_cons rfl (pc_cons rfl (pc_cons rfl pc_nil))))))))))))) (up_old rfl rfl (up_old rfl rfl (up_old rfl rfl (up_old rfl rfl (up_old rfl rfl (up_old rfl rfl (up_new 4 rfl (up_new 5 rfl (up_new 6 rfl (up_new 7 rfl (up_new 8 rfl (up_new 9 rfl (up_new 10 rfl (up_new 11 rfl (up_new 0 rfl (up_new 1 rfl (up_new 2 rfl (up_new 3 rfl up_nil)))))))))))))))))) (fun H locs hP hS => ?_)
              refine lv_goto (tgt := 56) hx hb dX4_as_51 (by decide) ?_
              exact hJ12 fR_15 r14 hM H locs ls hP hS (lv_sub hl [] rfl)
        · replace hM := if_at_neg hM c6
          exact hJ4 hM H locs ls hP hS (lv_sub hl [] rfl)
  · replace hM := if_at_pos hM c3
    refine lv_bipush (v := (-2 : Int32)) hx hb dX4_as_8 (by decide) ?_
    cases hM
    rw [hQQ]
    exact W.iret hx hb hr (fun t ht hW => ⟨⟨_, (), rfl, rfl, by show va_P D vwCl _ t.heap; rw [ht]; exact hP⟩, hS.F ht⟩) hS.2.2 dX4_as_10
noncomputable def MX4_can (tT : GS) (gN : GS) (fW : Nat → Int32) (i1 : Int32) (i2 : Int32) : Option (Int32 × (Nat → Int32)) := bnd1 (MX4_isHouse tT i1) fun (r1 : Int32) => if r1 = 0 then (some ((-2 : Int32), fW)) else (if 0 ≤ i2 then (bnd2 (MX1_findWays gN fW tT i1) fun (r5 : Int32) (fR_6 : Nat → Int32) => jn1 (fun (x8 : Int32) => some (x8, fR_6)) (fun k9 => jn0 (k9 (-1 : Int32)) (fun k10 => if r5 ≤ i2 then (k10) else (if (8 : Int32) ≤ i2 then (k10) else (chkI i2 8 (k9 (fR_6 i2.toNatClampNeg))))))) else (some ((-3 : Int32), fW)))
abbrev rmX4_can : Room := { frames := 4, cells := 0, slots := 0, locals := 160 }
set_option maxHeartbeats 4000000 in
set_option maxRecDepth 100000 in
theorem ctX4_can (l : Launch) (D : va_G) (Y : Nat → ClassId) (nN : Nat → Nat) (hT : Nat → Nat) (aN : Nat → Nat) (uW : Nat) (uD : Nat) (uX : Nat) (uA : Nat) (uZ : Nat) (uP : Nat) (uK : Nat) (uL : Nat) (vN : Nat) (sz : Nat) (nS : GS) (tT : GS) (gN : GS) (fW : Nat → Int32) (i1 : Int32) (i2 : Int32) (rr : Int32) (fWz : Nat → Int32) (hM : MX4_can tT gN fW i1 i2 = some (rr, fWz)) : Met l yX4_can wsX4_can rmX4_can (pcW [.ref (nN 0), .int i1, .int i2] sz D Y (cMain Y nN (hT 0) uD uX (aN 0) uA uZ uW uP uK uL nS ++ cTold Y hT tT ++ cStand Y aN (hT 0) vN gN ++ cRow Y uW 8 fW)) (qiW rr D (cMain Y nN (hT 0) uD uX (aN 0) uA uZ uW uP uK uL nS ++ cTold Y hT tT ++ cStand Y aN (hT 0) vN gN ++ cRow Y uW 8 fWz) (va_A (cMain Y nN (hT 0) uD uX (aN 0) uA uZ uW uP uK uL nS ++ cTold Y hT tT ++ cStand Y aN (hT 0) vN gN ++ cRow Y uW 8 fW) sz)) 0 0 (va_A (cMain Y nN (hT 0) uD uX (aN 0) uA uZ uW uP uK uL nS ++ cTold Y hT tT ++ cStand Y aN (hT 0) vN gN ++ cRow Y uW 8 fW) sz) := by
  refine Met.ofW (cc := cX4_can) (maxL := 4) (ret := (some .int)) (by decide) rfl ?_
  intro p e s m args below meth c s₁ B hml hv
  obtain ⟨rfl, hsz, hP, hK, hD0⟩ := hv
  have hx := B.exec
  have hb := B.bytes
  have hr := B.returns
  have hts := atoms_spec (ws := wsX4_can) B.pre
  have hown : s.vm.findClass RX4 = some m.cls := findClass_of_methodNamed B.named
  have hlocks := B.notSynchronized
  subst hsz
  have hD := hD0.self (sz := s.heap.size)
  generalize hAe : va_A (cMain Y nN (hT 0) uD uX (aN 0) uA uZ uW uP uK uL nS ++ cTold Y hT tT ++ cStand Y aN (hT 0) vN gN ++ cRow Y uW 8 fW) s.heap.size = A at hD ⊢
  have hA : ∀ q : Nat, s.heap.size ≤ q → A q := fun q h => by rw [← hAe]; exact Or.inr h
  have hS : va_S A s.heap s.heap [] := va_S.rf
  have hi4 : ∀ w ∈ wsX40, w ∈ wsX4_can := fun w h => List.mem_cons_of_mem _ (List.mem_append_left _ (List.mem_append_left _ (List.mem_append_right _ h)))
  have hl := lv_entry ([.ref (nN 0), .int i1, .int i2]) (n := 4) (Nat.le_of_ble_eq_true rfl)
  rw [lg_entry_eq]
  generalize (lg_sl ([.ref (nN 0), .int i1, .int i2]) ++ List.replicate (4 - (lg_sl ([.ref (nN 0), .int i1, .int i2])).length) Slot.unset).toArray = ls at hl ⊢
  have hl : lv_has ls 4 [(0, .ref (nN 0)), (1, .int i1), (2, .int i2)] := hl
  obtain ⟨QQ, hQQ⟩ : ∃ Q : State → Prop, Q = MQ below (qiW rr D (cMain Y nN (hT 0) uD uX (aN 0) uA uZ uW uP uK uL nS ++ cTold Y hT tT ++ cStand Y aN (hT 0) vN gN ++ cRow Y uW 8 fWz) A) ([.ref (nN 0), .int i1, .int i2] : List Value).toArray s 0 0 A := ⟨_, rfl⟩
  rw [← hQQ]
  unfold MX4_can at hM
  suffices hI : ∀ (H : Heap) (locs : List Loc), va_P D vwCl (cMain Y nN (hT 0) uD uX (aN 0) uA uZ uW uP uK uL nS ++ cTold Y hT tT ++ cStand Y aN (hT 0) vN gN ++ cRow Y uW 8 fW) H → va_S A s.heap H locs → W p l e (headSpec wsX4_can rmX4_can).room s m ([.ref (nN 0), .int i1, .int i2] : List Value).toArray below meth c H locs 0 0 QQ (F0 m 0 ls []) from hI _ _ hP hS
  clear hP hS
  intro H locs hP hS
  refine lv_aload_n hx hb dX4_can_0 rfl (lv_at hl 0 rfl) ?_
  refine lv_iload_n hx hb dX4_can_1 rfl (lv_at hl 1 rfl) ?_
  obtain ⟨r1, hc2, hM⟩ := bnd1_at hM
  refine cm_i (w2 := (cMain Y nN (hT 0) uD uX (aN 0) uA uZ uW uP uK uL nS ++ cTold Y hT tT ++ cStand Y aN (hT 0) vN gN ++ cRow Y uW 8 fW)) (va_runV (As := [.int i1]) (rest := []) ⟨hx, hb, hml, hown, hts⟩ (ctX4_isHouse l D Y nN hT uD uX (aN 0) uA uZ uW uP uK uL H.size nS tT i1 r1 hc2) (cwV 1 hts gX4_can_X4_isHouse rfl rfl rfl (by decide +kernel) ⟨Nat.le_of_ble_eq_true rfl, Nat.le_of_ble_eq_true rfl⟩) (pcW_V (ci := 4) (q0 := 0) hK hP (hD.same rfl) [0, 1, 2, 3, 4, 5, 6, 7, 8, 9, 10, 11, 12, 13] rfl (pc_map (pc_cons rfl (pc_cons rfl (pc_cons rfl (pc_cons rfl (pc_cons rfl (pc_cons rfl (pc_cons rfl (pc_cons rfl (pc_cons rfl (pc_cons rfl (pc_cons rfl (pc_cons rfl (pc_cons rfl (pc_cons rfl pc_nil))))))))))))))) rfl rfl) rfl rfl hl.1 rfl (lv_room (Nat.le_of_ble_eq_true rfl)) dX4_can_2 ⟨Nat.zero_le _, Nat.zero_le _⟩) hP (hD.same rfl) hS hA [0, 1, 2, 3, 4, 5, 6, 7, 8, 9, 10, 11, 12, 13] (pc_map (pc_cons rfl (pc_cons rfl (pc_cons rfl (pc_cons rfl (pc_cons rfl (pc_cons rfl (pc_cons rfl (pc_cons rfl (pc_cons rfl (pc_cons rfl (pc_cons rfl (pc_cons rfl (pc_cons rfl (pc_cons rfl pc_nil))))))))))))))) (up_new 0 rfl (up_new 1 rfl (up_new 2 rfl (up_new 3 rfl (up_new 4 rfl (up_new 5 rfl (up_new 6 rfl (up_new 7 rfl (up_new 8 rfl (up_new 9 rfl (up_new 10 rfl (up_new 11 rfl (up_new 12 rfl (up_new 13 rfl (up_old rfl rfl (up_old rfl rfl (up_old rfl rfl (up_old rfl rfl up_nil)))))))))))))))))) (fun H locs hP hS => ?_)
  refine lv_if_ne (tgt := 11) hx hb dX4_can_5 (by decide) (fun c3 => ?_) (fun c3 => ?_)
  · replace hM := if_at_neg hM c3
    refine lv_iload_n hx hb dX4_can_11 rfl (lv_at hl 2 rfl) ?_
    refine lv_if_ge (tgt := 18) hx hb dX4_can_12 (by decide) (fun c4 => ?_) (fun c4 => ?_)
    · replace hM := if_at_pos hM c4
      refine lv_aload_n hx hb dX4_can_18 rfl (lv_at hl 0 rfl) ?_
      refine va_get hx hb hts hi4 hown hK hP 0 rfl rfl 3 (by decide) (hts (.fieldLink RX4 31 "NightPlots" "now" "LNightPlots$Standing;") (List.mem_of_getElem? (i := 1) rfl)) (fun _ h9 => h9) rfl dX4_can_19 ?_
      refine lv_iload_n hx hb dX4_can_22 rfl (lv_at hl 1 rfl) ?_
      refine lv_aload_n hx hb dX4_can_23 rfl (lv_at hl 0 rfl) ?_
      refine va_get hx hb hts hi4 hown hK hP 0 rfl rfl 8 (by decide) (hts (.fieldLink RX4 55 "NightPlots" "ways" "[I") (List.mem_of_getElem? (i := 2) rfl)) (fun _ h9 => h9) rfl dX4_can_24 ?_
      obtain ⟨r5, fR_6, hc7, hM⟩ := bnd2_at hM
      refine cm_i (w2 := (cMain Y nN (hT 0) uD uX (aN 0) uA uZ uW uP uK uL nS ++ cTold Y hT tT ++ cStand Y aN (hT 0) vN gN ++ cRow Y uW 8 fR_6)) (va_runV (As := [.int i1, .ref uW]) (rest := []) ⟨hx, hb, hml, hown, hts⟩ (ctX1_findWays l D Y aN uW hT vN H.size gN fW tT i1 r5 fR_6 hc7) (cwV 2 hts gX4_can_X1_findWays rfl rfl rfl (by decide +kernel) ⟨Nat.le_of_ble_eq_true rfl, Nat.le_of_ble_eq_true rfl⟩) (pcW_V (ci := 1) (q0 := 14) hK hP (hD.same rfl) [14, 15, 16, 17, 6, 7, 8, 9, 10, 11, 12, 13] rfl (pc_map (pc_cons rfl (pc_cons rfl (pc_cons rfl (pc_cons rfl (pc_cons rfl (pc_cons rfl (pc_cons rfl (pc_cons rfl (pc_cons rfl (pc_cons rfl (pc_cons rfl (pc_cons rfl pc_nil))))))))))))) rfl rfl) rfl rfl hl.1 rfl (lv_room (Nat.le_of_ble_eq_true rfl)) dX4_can_27 ⟨Nat.zero_le _, Nat.zero_le _⟩) hP (hD.same rfl) hS hA [14, 15, 16, 17, 6, 7, 8, 9, 10, 11, 12, 13] (pc_map (pc_cons rfl (pc_cons rfl (pc_cons rfl (pc_cons rfl (pc_cons rfl (pc_cons rfl (pc_cons rfl (pc_cons rfl (pc_cons rfl (pc_cons rfl (pc_cons rfl (pc_cons rfl pc_nil))))))))))))) (up_old rfl rfl (up_old rfl rfl (up_old rfl rfl (up_old rfl rfl (up_old rfl rfl (up_old rfl rfl (up_new 4 rfl (up_new 5 rfl (up_new 6 rfl (up_new 7 rfl (up_new 8 rfl (up_new 9 rfl (up_new 10 rfl (up_new 11 rfl (up_new 0 rfl (up_new 1 rfl (up_new 2 rfl (up_new 3 rfl up_nil)))))))))))))))))) (fun H locs hP hS => ?_)
      refine lv_istore_n (lv' := [(3, .int r5), (0, .ref (nN 0)), (1, .int i1), (2, .int i2)]) hx hb dX4_can_30 rfl hl (by decide) rfl (fun ls hl => ?_)
      refine lv_iload_n hx hb dX4_can_31 rfl (lv_at hl 3 rfl) ?_
      refine lv_iload_n hx hb dX4_can_32 rfl (lv_at hl 0 rfl) ?_
      refine jn1_at (fun (x8 : Int32) => ∀ (H : Heap) (locs : List Loc) (ls : Array Slot), va_P D vwCl (cMain Y nN (hT 0) uD uX (aN 0) uA uZ uW uP uK uL nS ++ cTold Y hT tT ++ cStand Y aN (hT 0) vN gN ++ cRow Y uW 8 fR_6) H → va_S A s.heap H locs → lv_has ls 4 [] → W p l e (headSpec wsX4_can rmX4_can).room s m ([.ref (nN 0), .int i1, .int i2] : List Value).toArray below meth c H locs 0 0 QQ (F0 m 55 ls [.int x8])) hM (fun x8 hM H locs ls hP hS hl => ?_) (fun k9 hJ9 hM => ?_)
      · cases hM
        rw [hQQ]
        exact W.iret hx hb hr (fun t ht hW => ⟨⟨_, (), rfl, rfl, by show va_P D vwCl _ t.heap; rw [ht]; exact hP⟩, hS.F ht⟩) hS.2.2 dX4_can_55
      · refine jn0_at (∀ (H : Heap) (locs : List Loc) (ls : Array Slot), va_P D vwCl (cMain Y nN (hT 0) uD uX (aN 0) uA uZ uW uP uK uL nS ++ cTold Y hT tT ++ cStand Y aN (hT 0) vN gN ++ cRow Y uW 8 fR_6) H → va_S A s.heap H locs → lv_has ls 4 [] → W p l e (headSpec wsX4_can rmX4_can).room s m ([.ref (nN 0), .int i1, .int i2] : List Value).toArray below meth c H locs 0 0 QQ (F0 m 54 ls [])) hM (fun  hM H locs ls hP hS hl => ?_) (fun k10 hJ10 hM => ?_)
        · refine lv_iconst (v := (-1 : Int32)) hx hb dX4_can_54 (by decide) ?_
          exact hJ9 (-1 : Int32) hM H locs ls hP hS (lv_sub hl [] rfl)
        · refine lv_icmp_ge (tgt := 54) hx hb dX4_can_33 (by decide) (fun c11 => ?_) (fun c11 => ?_)
          · replace hM := if_at_pos hM c11
            exact hJ10 hM H locs ls hP hS (lv_sub hl [] rfl)
          · replace hM := if_at_neg hM c11
            refine lv_iload_n hx hb dX4_can_36 rfl (lv_at hl 3 rfl) ?_
            refine lv_aload_n hx hb dX4_can_37 rfl (lv_at hl 1 rfl) ?_
            refine va_get hx hb hts hi4 hown hK hP 0 rfl rfl 8 (by decide) (hts (.fieldLink RX4 55 "NightPlots" "ways" "[I") (List.mem_of_getElem? (i := 2) rfl)) (fun _ h9 => h9) rfl dX4_can_38 ?_
            refine va_alen (v := (8 : Int32)) hx hb hK hP 17 0 rfl rfl rfl dX4_can_41 ?_
            refine lv_icmp_ge (tgt := 54) hx hb dX4_can_42 (by decide) (fun c12 => ?_) (fun c12 => ?_)
            · replace hM := if_at_pos hM c12
              exact hJ10 hM H locs ls hP hS (lv_sub hl [] rfl)
            · replace hM := if_at_neg hM c12
              refine lv_aload_n hx hb dX4_can_45 rfl (lv_at hl 1 rfl) ?_
              refine va_get hx hb hts hi4 hown hK hP 0 rfl rfl 8 (by decide) (hts (.fieldLink RX4 55 "NightPlots" "ways" "[I") (List.mem_of_getElem? (i := 2) rfl)) (fun _ h9 => h9) rfl dX4_can_46 ?_
              refine lv_iload_n hx hb dX4_can_49 rfl (lv_at hl 3 rfl) ?_
              obtain ⟨hi_13, hM⟩ := chkI_at hM
              refine va_iald hx hb hK hP 17 0 rfl rfl hi_13 dX4_can_50 ?_
              refine lv_goto (tgt := 55) hx hb dX4_can_51 (by decide) ?_
              exact hJ9 (fR_6 i2.toNatClampNeg) hM H locs ls hP hS (lv_sub hl [] rfl)
    · replace hM := if_at_neg hM c4
      refine lv_bipush (v := (-3 : Int32)) hx hb dX4_can_15 (by decide) ?_
      cases hM
      rw [hQQ]
      exact W.iret hx hb hr (fun t ht hW => ⟨⟨_, (), rfl, rfl, by show va_P D vwCl _ t.heap; rw [ht]; exact hP⟩, hS.F ht⟩) hS.2.2 dX4_can_17
  · replace hM := if_at_pos hM c3
    refine lv_bipush (v := (-2 : Int32)) hx hb dX4_can_8 (by decide) ?_
    cases hM
    rw [hQQ]
    exact W.iret hx hb hr (fun t ht hW => ⟨⟨_, (), rfl, rfl, by show va_P D vwCl _ t.heap; rw [ht]; exact hP⟩, hS.F ht⟩) hS.2.2 dX4_can_10
noncomputable def BX4_go_34 (i1 : Int32) (k7 : GS → (Nat → Int32) → Option (Int32 × GS × (Nat → Int32))) (tT : GS) (rec11 : Int32 → GS → (Nat → Int32) → Option (Int32 × GS × (Nat → Int32))) (x8 : Int32) (gN_9 : GS) (fN_10 : Nat → Int32) : Option (Int32 × GS × (Nat → Int32)) := if i1 ≤ x8 then (k7 gN_9 fN_10) else (bnd2 (MX1_passNight gN_9 fN_10 tT (tT 0 4)) fun (gS_13 : GS) (fW_14 : Nat → Int32) => nm (x8 + 1) fun (x16 : Int32) => rec11 x16 gS_13 fW_14)
noncomputable def MX4_go (tT : GS) (gN : GS) (fN : Nat → Int32) (i1 : Int32) : Option (Int32 × GS × (Nat → Int32)) := jn0 (some ((-3 : Int32), gN, fN)) (fun k1 => if i1 < (1 : Int32) then (k1) else (if i1 ≤ (99 : Int32) then (if ((gN 0 5) + i1) ≤ (9999 : Int32) then (jn2 (fun (gN_5 : GS) (fN_6 : Nat → Int32) => some ((gN_5 0 5), gN_5, fN_6)) (fun k7 => lq3 (BX4_go_34 i1 k7 tT) FU (0 : Int32) gN fN)) else (some ((-5 : Int32), gN, fN))) else (k1)))
abbrev rmX4_go : Room := { frames := 6, cells := 0, slots := 0, locals := 240 }
set_option maxHeartbeats 4000000 in
set_option maxRecDepth 100000 in
theorem ctX4_go (l : Launch) (D : va_G) (Y : Nat → ClassId) (nN : Nat → Nat) (hT : Nat → Nat) (aN : Nat → Nat) (vN : Nat) (uD : Nat) (uX : Nat) (uA : Nat) (uZ : Nat) (uW : Nat) (uP : Nat) (uK : Nat) (uL : Nat) (sz : Nat) (nS : GS) (tT : GS) (gN : GS) (fN : Nat → Int32) (i1 : Int32) (rr : Int32) (gNz : GS) (fNz : Nat → Int32) (hM : MX4_go tT gN fN i1 = some (rr, gNz, fNz)) : Met l yX4_go wsX4_go rmX4_go (pcW [.ref (nN 0), .int i1] sz D Y (cMain Y nN (hT 0) uD uX (aN 0) uA uZ uW uP uK uL nS ++ cTold Y hT tT ++ cStand Y aN (hT 0) vN gN ++ cRow Y vN 8 fN)) (qiW rr D (cMain Y nN (hT 0) uD uX (aN 0) uA uZ uW uP uK uL nS ++ cTold Y hT tT ++ cStand Y aN (hT 0) vN gNz ++ cRow Y vN 8 fNz) (va_A (cMain Y nN (hT 0) uD uX (aN 0) uA uZ uW uP uK uL nS ++ cTold Y hT tT ++ cStand Y aN (hT 0) vN gN ++ cRow Y vN 8 fN) sz)) 0 0 (va_A (cMain Y nN (hT 0) uD uX (aN 0) uA uZ uW uP uK uL nS ++ cTold Y hT tT ++ cStand Y aN (hT 0) vN gN ++ cRow Y vN 8 fN) sz) := by
  refine Met.ofW (cc := cX4_go) (maxL := 3) (ret := (some .int)) (by decide) rfl ?_
  intro p e s m args below meth c s₁ B hml hv
  obtain ⟨rfl, hsz, hP, hK, hD0⟩ := hv
  have hx := B.exec
  have hb := B.bytes
  have hr := B.returns
  have hts := atoms_spec (ws := wsX4_go) B.pre
  have hown : s.vm.findClass RX4 = some m.cls := findClass_of_methodNamed B.named
  have hlocks := B.notSynchronized
  subst hsz
  have hD := hD0.self (sz := s.heap.size)
  generalize hAe : va_A (cMain Y nN (hT 0) uD uX (aN 0) uA uZ uW uP uK uL nS ++ cTold Y hT tT ++ cStand Y aN (hT 0) vN gN ++ cRow Y vN 8 fN) s.heap.size = A at hD ⊢
  have hA : ∀ q : Nat, s.heap.size ≤ q → A q := fun q h => by rw [← hAe]; exact Or.inr h
  have hS : va_S A s.heap s.heap [] := va_S.rf
  have hi1 : ∀ w ∈ wsX10, w ∈ wsX4_go := fun w h => List.mem_cons_of_mem _ (List.mem_append_left _ (List.mem_append_right _ h))
  have hi3 : ∀ w ∈ wsX30, w ∈ wsX4_go := fun w h => List.mem_cons_of_mem _ (List.mem_append_right _ h)
  have hi4 : ∀ w ∈ wsX40, w ∈ wsX4_go := fun w h => List.mem_cons_of_mem _ (List.mem_append_left _ (List.mem_append_left _ (List.mem_append_right _ h)))
  have hl := lv_entry ([.ref (nN 0), .int i1]) (n := 3) (Nat.le_of_ble_eq_true rfl)
  rw [lg_entry_eq]
  generalize (lg_sl ([.ref (nN 0), .int i1]) ++ List.replicate (3 - (lg_sl ([.ref (nN 0), .int i1])).length) Slot.unset).toArray = ls at hl ⊢
  have hl : lv_has ls 3 [(0, .ref (nN 0)), (1, .int i1)] := hl
  obtain ⟨QQ, hQQ⟩ : ∃ Q : State → Prop, Q = MQ below (qiW rr D (cMain Y nN (hT 0) uD uX (aN 0) uA uZ uW uP uK uL nS ++ cTold Y hT tT ++ cStand Y aN (hT 0) vN gNz ++ cRow Y vN 8 fNz) A) ([.ref (nN 0), .int i1] : List Value).toArray s 0 0 A := ⟨_, rfl⟩
  rw [← hQQ]
  unfold MX4_go at hM
  suffices hI : ∀ (H : Heap) (locs : List Loc), va_P D vwCl (cMain Y nN (hT 0) uD uX (aN 0) uA uZ uW uP uK uL nS ++ cTold Y hT tT ++ cStand Y aN (hT 0) vN gN ++ cRow Y vN 8 fN) H → va_S A s.heap H locs → W p l e (headSpec wsX4_go rmX4_go).room s m ([.ref (nN 0), .int i1] : List Value).toArray below meth c H locs 0 0 QQ (F0 m 0 ls []) from hI _ _ hP hS
  clear hP hS
  intro H locs hP hS
  refine lv_iload_n hx hb dX4_go_0 rfl (lv_at hl 1 rfl) ?_
  refine lv_iconst (v := (1 : Int32)) hx hb dX4_go_1 (by decide) ?_
  refine jn0_at (∀ (H : Heap) (locs : List Loc) (ls : Array Slot), va_P D vwCl (cMain Y nN (hT 0) uD uX (aN 0) uA uZ uW uP uK uL nS ++ cTold Y hT tT ++ cStand Y aN (hT 0) vN gN ++ cRow Y vN 8 fN) H → va_S A s.heap H locs → lv_has ls 3 [] → W p l e (headSpec wsX4_go rmX4_go).room s m ([.ref (nN 0), .int i1] : List Value).toArray below meth c H locs 0 0 QQ (F0 m 11 ls [])) hM (fun  hM H locs ls hP hS hl => ?_) (fun k1 hJ1 hM => ?_)
  · refine lv_bipush (v := (-3 : Int32)) hx hb dX4_go_11 (by decide) ?_
    cases hM
    rw [hQQ]
    exact W.iret hx hb hr (fun t ht hW => ⟨⟨_, (), rfl, rfl, by show va_P D vwCl _ t.heap; rw [ht]; exact hP⟩, hS.F ht⟩) hS.2.2 dX4_go_13
  · refine lv_icmp_lt (tgt := 11) hx hb dX4_go_2 (by decide) (fun c2 => ?_) (fun c2 => ?_)
    · replace hM := if_at_pos hM c2
      exact hJ1 hM H locs ls hP hS (lv_sub hl [] rfl)
    · replace hM := if_at_neg hM c2
      refine lv_iload_n hx hb dX4_go_5 rfl (lv_at hl 1 rfl) ?_
      refine lv_bipush (v := (99 : Int32)) hx hb dX4_go_6 (by decide) ?_
      refine lv_icmp_le (tgt := 14) hx hb dX4_go_8 (by decide) (fun c3 => ?_) (fun c3 => ?_)
      · replace hM := if_at_pos hM c3
        refine lv_aload_n hx hb dX4_go_14 rfl (lv_at hl 0 rfl) ?_
        refine va_get hx hb hts hi4 hown hK hP 0 rfl rfl 3 (by decide) (hts (.fieldLink RX4 31 "NightPlots" "now" "LNightPlots$Standing;") (List.mem_of_getElem? (i := 1) rfl)) (fun _ h9 => h9) rfl dX4_go_15 ?_
        refine va_get hx hb hts hi1 hown hK hP 14 rfl rfl 5 (by decide) (hts (.fieldLink RX4 119 "NightPlots$Standing" "nights" "I") (List.mem_of_getElem? (i := 2) rfl)) (fun _ h9 => h9) rfl dX4_go_18 ?_
        refine lv_iload_n hx hb dX4_go_21 rfl (lv_at hl 1 rfl) ?_
        refine lv_iadd hx hb dX4_go_22 ?_
        refine lv_sipush (v := (9999 : Int32)) hx hb dX4_go_23 (by decide) ?_
        refine lv_icmp_le (tgt := 32) hx hb dX4_go_26 (by decide) (fun c4 => ?_) (fun c4 => ?_)
        · replace hM := if_at_pos hM c4
          refine lv_iconst (v := (0 : Int32)) hx hb dX4_go_32 (by decide) ?_
          refine lv_istore_n (lv' := [(2, .int (0 : Int32)), (0, .ref (nN 0)), (1, .int i1)]) hx hb dX4_go_33 rfl hl (by decide) rfl (fun ls hl => ?_)
          refine jn2_at (fun (gN_5 : GS) (fN_6 : Nat → Int32) => ∀ (H : Heap) (locs : List Loc) (ls : Array Slot), va_P D vwCl (cMain Y nN (hT 0) uD uX (aN 0) uA uZ uW uP uK uL nS ++ cTold Y hT tT ++ cStand Y aN (hT 0) vN gN_5 ++ cRow Y vN 8 fN_6) H → va_S A s.heap H locs → lv_has ls 3 [(0, .ref (nN 0))] → W p l e (headSpec wsX4_go rmX4_go).room s m ([.ref (nN 0), .int i1] : List Value).toArray below meth c H locs 0 0 QQ (F0 m 59 ls [])) hM (fun gN_5 fN_6 hM H locs ls hP hS hl => ?_) (fun k7 hJ7 hM => ?_)
          · refine lv_aload_n hx hb dX4_go_59 rfl (lv_at hl 0 rfl) ?_
            refine va_get hx hb hts hi4 hown hK hP 0 rfl rfl 3 (by decide) (hts (.fieldLink RX4 31 "NightPlots" "now" "LNightPlots$Standing;") (List.mem_of_getElem? (i := 1) rfl)) (fun _ h9 => h9) rfl dX4_go_60 ?_
            refine va_get hx hb hts hi1 hown hK hP 14 rfl rfl 5 (by decide) (hts (.fieldLink RX4 119 "NightPlots$Standing" "nights" "I") (List.mem_of_getElem? (i := 2) rfl)) (fun _ h9 => h9) rfl dX4_go_63 ?_
            cases hM
            rw [hQQ]
            exact W.iret hx hb hr (fun t ht hW => ⟨⟨_, (), rfl, rfl, by show va_P D vwCl _ t.heap; rw [ht]; exact hP⟩, hS.F ht⟩) hS.2.2 dX4_go_66
          · refine lq3_at (fun (x8 : Int32) (gN_9 : GS) (fN_10 : Nat → Int32) => ∀ (H : Heap) (locs : List Loc) (ls : Array Slot), va_P D vwCl (cMain Y nN (hT 0) uD uX (aN 0) uA uZ uW uP uK uL nS ++ cTold Y hT tT ++ cStand Y aN (hT 0) vN gN_9 ++ cRow Y vN 8 fN_10) H → va_S A s.heap H locs → lv_has ls 3 [(0, .ref (nN 0)), (1, .int i1), (2, .int x8)] → W p l e (headSpec wsX4_go rmX4_go).room s m ([.ref (nN 0), .int i1] : List Value).toArray below meth c H locs 0 0 QQ (F0 m 34 ls [])) (fun rec11 x8 gN_9 fN_10 ih11 hM H locs ls hP hS hl => ?_) FU (0 : Int32) gN fN hM H locs ls hP hS (lv_sub hl [1, 2, 0] rfl)
            unfold BX4_go_34 at hM
            refine lv_iload_n hx hb dX4_go_34 rfl (lv_at hl 2 rfl) ?_
            refine lv_iload_n hx hb dX4_go_35 rfl (lv_at hl 1 rfl) ?_
            refine lv_icmp_ge (tgt := 59) hx hb dX4_go_36 (by decide) (fun c12 => ?_) (fun c12 => ?_)
            · replace hM := if_at_pos hM c12
              exact hJ7 gN_9 fN_10 hM H locs ls hP hS (lv_sub hl [0] rfl)
            · replace hM := if_at_neg hM c12
              refine lv_aload_n hx hb dX4_go_39 rfl (lv_at hl 0 rfl) ?_
              refine va_get hx hb hts hi4 hown hK hP 0 rfl rfl 3 (by decide) (hts (.fieldLink RX4 31 "NightPlots" "now" "LNightPlots$Standing;") (List.mem_of_getElem? (i := 1) rfl)) (fun _ h9 => h9) rfl dX4_go_40 ?_
              refine lv_aload_n hx hb dX4_go_43 rfl (lv_at hl 0 rfl) ?_
              refine va_get hx hb hts hi4 hown hK hP 0 rfl rfl 0 (by decide) (hts (.fieldLink RX4 12 "NightPlots" "told" "LNightPlots$Told;") (List.mem_of_getElem? (i := 3) rfl)) (fun _ h9 => h9) rfl dX4_go_44 ?_
              refine va_get hx hb hts hi3 hown hK hP 6 rfl rfl 4 (by decide) (hts (.fieldLink RX4 130 "NightPlots$Told" "law" "I") (List.mem_of_getElem? (i := 4) rfl)) (fun _ h9 => h9) rfl dX4_go_47 ?_
              obtain ⟨gS_13, fW_14, hc15, hM⟩ := bnd2_at hM
              refine cm_v (w2 := (cMain Y nN (hT 0) uD uX (aN 0) uA uZ uW uP uK uL nS ++ cTold Y hT tT ++ cStand Y aN (hT 0) vN gS_13 ++ cRow Y vN 8 fW_14)) (va_runV (As := [.int (tT 0 4)]) (rest := []) ⟨hx, hb, hml, hown, hts⟩ (ctX1_passNight l D Y aN vN hT H.size gN_9 fN_10 tT (tT 0 4) gS_13 fW_14 hc15) (cwV 1 hts gX4_go_X1_passNight rfl rfl rfl (by decide +kernel) ⟨Nat.le_of_ble_eq_true rfl, Nat.le_of_ble_eq_true rfl⟩) (pcW_V (ci := 1) (q0 := 14) hK hP (hD.same rfl) [14, 15, 16, 17, 6, 7, 8, 9, 10, 11, 12, 13] rfl (pc_map (pc_cons rfl (pc_cons rfl (pc_cons rfl (pc_cons rfl (pc_cons rfl (pc_cons rfl (pc_cons rfl (pc_cons rfl (pc_cons rfl (pc_cons rfl (pc_cons rfl (pc_cons rfl pc_nil))))))))))))) rfl rfl) rfl rfl hl.1 rfl (lv_room (Nat.le_of_ble_eq_true rfl)) dX4_go_50 ⟨Nat.zero_le _, Nat.zero_le _⟩) hP (hD.same rfl) hS hA [14, 15, 16, 17, 6, 7, 8, 9, 10, 11, 12, 13] (pc_map (pc_cons rfl (pc_cons rfl (pc_cons rfl (pc_cons rfl (pc_cons rfl (pc_cons rfl (pc_cons rfl (pc_cons rfl (pc_cons rfl (pc_cons rfl (pc_cons rfl (pc_cons rfl pc_nil))))))))))))) (up_old rfl rfl (up_old rfl rfl (up_old rfl rfl (up_old rfl rfl (up_old rfl rfl (up_old rfl rfl (up_new 4 rfl (up_new 5 rfl (up_new 6 rfl (up_new 7 rfl (up_new 8 rfl (up_new 9 rfl (up_new 10 rfl (up_new 11 rfl (up_new 0 rfl (up_new 1 rfl (up_new 2 rfl (up_new 3 rfl up_nil)))))))))))))))))) (fun H locs hP hS => ?_)
              obtain ⟨x16, ex16⟩ : ∃ z : Int32, z = (x8 + 1) := ⟨_, rfl⟩
              replace hM := nm_at hM ex16
              refine lv_iinc (v := x16) (lv' := [(2, .int x16), (0, .ref (nN 0)), (1, .int i1)]) hx hb dX4_go_53 hl (k := 2) rfl (by rw [ex16]; rfl) (by decide) rfl (fun ls hl => ?_)
              refine lv_goto (tgt := 34) hx hb dX4_go_56 (by decide) ?_
              exact ih11 x16 gS_13 fW_14 hM H locs ls hP hS (lv_sub hl [1, 2, 0] rfl)
        · replace hM := if_at_neg hM c4
          refine lv_bipush (v := (-5 : Int32)) hx hb dX4_go_29 (by decide) ?_
          cases hM
          rw [hQQ]
          exact W.iret hx hb hr (fun t ht hW => ⟨⟨_, (), rfl, rfl, by show va_P D vwCl _ t.heap; rw [ht]; exact hP⟩, hS.F ht⟩) hS.2.2 dX4_go_31
      · replace hM := if_at_neg hM c3
        exact hJ1 hM H locs ls hP hS (lv_sub hl [] rfl)
noncomputable def MX4_roll (tT : GS) (gN : GS) (fN : Nat → Int32) (i1 : Int32) (i2 : Int32) : Option (Int32 × GS × (Nat → Int32)) := bnd1 (MX4_isHouse tT i1) fun (r1 : Int32) => jn0 (some ((-2 : Int32), gN, fN)) (fun k3 => if r1 = 0 then (k3) else (bnd1 (MX4_isPlot tT i2) fun (r5 : Int32) => if r5 = 0 then (k3) else (bnd2 (MX1_hasWayTo gN fN tT i1 i2) fun (r8 : Int32) (fW_9 : Nat → Int32) => if r8 = 0 then (some ((-4 : Int32), gN, fW_9)) else (if (gN 0 5) < (9999 : Int32) then (bnd1 (MX1_passNightOf gN tT i1 i2 (tT 0 4)) fun (gS_13 : GS) => some ((gS_13 0 5), gS_13, fW_9)) else (some ((-5 : Int32), gN, fW_9))))))
abbrev rmX4_roll : Room := { frames := 5, cells := 0, slots := 0, locals := 200 }
set_option maxHeartbeats 4000000 in
set_option maxRecDepth 100000 in
theorem ctX4_roll (l : Launch) (D : va_G) (Y : Nat → ClassId) (nN : Nat → Nat) (hT : Nat → Nat) (aN : Nat → Nat) (vN : Nat) (uD : Nat) (uX : Nat) (uA : Nat) (uZ : Nat) (uW : Nat) (uP : Nat) (uK : Nat) (uL : Nat) (sz : Nat) (nS : GS) (tT : GS) (gN : GS) (fN : Nat → Int32) (i1 : Int32) (i2 : Int32) (rr : Int32) (gNz : GS) (fNz : Nat → Int32) (hM : MX4_roll tT gN fN i1 i2 = some (rr, gNz, fNz)) : Met l yX4_roll wsX4_roll rmX4_roll (pcW [.ref (nN 0), .int i1, .int i2] sz D Y (cMain Y nN (hT 0) uD uX (aN 0) uA uZ uW uP uK uL nS ++ cTold Y hT tT ++ cStand Y aN (hT 0) vN gN ++ cRow Y vN 8 fN)) (qiW rr D (cMain Y nN (hT 0) uD uX (aN 0) uA uZ uW uP uK uL nS ++ cTold Y hT tT ++ cStand Y aN (hT 0) vN gNz ++ cRow Y vN 8 fNz) (va_A (cMain Y nN (hT 0) uD uX (aN 0) uA uZ uW uP uK uL nS ++ cTold Y hT tT ++ cStand Y aN (hT 0) vN gN ++ cRow Y vN 8 fN) sz)) 0 0 (va_A (cMain Y nN (hT 0) uD uX (aN 0) uA uZ uW uP uK uL nS ++ cTold Y hT tT ++ cStand Y aN (hT 0) vN gN ++ cRow Y vN 8 fN) sz) := by
  refine Met.ofW (cc := cX4_roll) (maxL := 3) (ret := (some .int)) (by decide) rfl ?_
  intro p e s m args below meth c s₁ B hml hv
  obtain ⟨rfl, hsz, hP, hK, hD0⟩ := hv
  have hx := B.exec
  have hb := B.bytes
  have hr := B.returns
  have hts := atoms_spec (ws := wsX4_roll) B.pre
  have hown : s.vm.findClass RX4 = some m.cls := findClass_of_methodNamed B.named
  have hlocks := B.notSynchronized
  subst hsz
  have hD := hD0.self (sz := s.heap.size)
  generalize hAe : va_A (cMain Y nN (hT 0) uD uX (aN 0) uA uZ uW uP uK uL nS ++ cTold Y hT tT ++ cStand Y aN (hT 0) vN gN ++ cRow Y vN 8 fN) s.heap.size = A at hD ⊢
  have hA : ∀ q : Nat, s.heap.size ≤ q → A q := fun q h => by rw [← hAe]; exact Or.inr h
  have hS : va_S A s.heap s.heap [] := va_S.rf
  have hi1 : ∀ w ∈ wsX10, w ∈ wsX4_roll := fun w h => List.mem_cons_of_mem _ (List.mem_append_left _ (List.mem_append_right _ h))
  have hi3 : ∀ w ∈ wsX30, w ∈ wsX4_roll := fun w h => List.mem_cons_of_mem _ (List.mem_append_right _ h)
  have hi4 : ∀ w ∈ wsX40, w ∈ wsX4_roll := fun w h => List.mem_cons_of_mem _ (List.mem_append_left _ (List.mem_append_left _ (List.mem_append_right _ h)))
  have hl := lv_entry ([.ref (nN 0), .int i1, .int i2]) (n := 3) (Nat.le_of_ble_eq_true rfl)
  rw [lg_entry_eq]
  generalize (lg_sl ([.ref (nN 0), .int i1, .int i2]) ++ List.replicate (3 - (lg_sl ([.ref (nN 0), .int i1, .int i2])).length) Slot.unset).toArray = ls at hl ⊢
  have hl : lv_has ls 3 [(0, .ref (nN 0)), (1, .int i1), (2, .int i2)] := hl
  obtain ⟨QQ, hQQ⟩ : ∃ Q : State → Prop, Q = MQ below (qiW rr D (cMain Y nN (hT 0) uD uX (aN 0) uA uZ uW uP uK uL nS ++ cTold Y hT tT ++ cStand Y aN (hT 0) vN gNz ++ cRow Y vN 8 fNz) A) ([.ref (nN 0), .int i1, .int i2] : List Value).toArray s 0 0 A := ⟨_, rfl⟩
  rw [← hQQ]
  unfold MX4_roll at hM
  suffices hI : ∀ (H : Heap) (locs : List Loc), va_P D vwCl (cMain Y nN (hT 0) uD uX (aN 0) uA uZ uW uP uK uL nS ++ cTold Y hT tT ++ cStand Y aN (hT 0) vN gN ++ cRow Y vN 8 fN) H → va_S A s.heap H locs → W p l e (headSpec wsX4_roll rmX4_roll).room s m ([.ref (nN 0), .int i1, .int i2] : List Value).toArray below meth c H locs 0 0 QQ (F0 m 0 ls []) from hI _ _ hP hS
  clear hP hS
  intro H locs hP hS
  refine lv_aload_n hx hb dX4_roll_0 rfl (lv_at hl 0 rfl) ?_
  refine lv_iload_n hx hb dX4_roll_1 rfl (lv_at hl 1 rfl) ?_
  obtain ⟨r1, hc2, hM⟩ := bnd1_at hM
  refine cm_i (w2 := (cMain Y nN (hT 0) uD uX (aN 0) uA uZ uW uP uK uL nS ++ cTold Y hT tT ++ cStand Y aN (hT 0) vN gN ++ cRow Y vN 8 fN)) (va_runV (As := [.int i1]) (rest := []) ⟨hx, hb, hml, hown, hts⟩ (ctX4_isHouse l D Y nN hT uD uX (aN 0) uA uZ uW uP uK uL H.size nS tT i1 r1 hc2) (cwV 1 hts gX4_roll_X4_isHouse rfl rfl rfl (by decide +kernel) ⟨Nat.le_of_ble_eq_true rfl, Nat.le_of_ble_eq_true rfl⟩) (pcW_V (ci := 4) (q0 := 0) hK hP (hD.same rfl) [0, 1, 2, 3, 4, 5, 6, 7, 8, 9, 10, 11, 12, 13] rfl (pc_map (pc_cons rfl (pc_cons rfl (pc_cons rfl (pc_cons rfl (pc_cons rfl (pc_cons rfl (pc_cons rfl (pc_cons rfl (pc_cons rfl (pc_cons rfl (pc_cons rfl (pc_cons rfl (pc_cons rfl (pc_cons rfl pc_nil))))))))))))))) rfl rfl) rfl rfl hl.1 rfl (lv_room (Nat.le_of_ble_eq_true rfl)) dX4_roll_2 ⟨Nat.zero_le _, Nat.zero_le _⟩) hP (hD.same rfl) hS hA [0, 1, 2, 3, 4, 5, 6, 7, 8, 9, 10, 11, 12, 13] (pc_map (pc_cons rfl (pc_cons rfl (pc_cons rfl (pc_cons rfl (pc_cons rfl (pc_cons rfl (pc_cons rfl (pc_cons rfl (pc_cons rfl (pc_cons rfl (pc_cons rfl (pc_cons rfl (pc_cons rfl (pc_cons rfl pc_nil))))))))))))))) (up_new 0 rfl (up_new 1 rfl (up_new 2 rfl (up_new 3 rfl (up_new 4 rfl (up_new 5 rfl (up_new 6 rfl (up_new 7 rfl (up_new 8 rfl (up_new 9 rfl (up_new 10 rfl (up_new 11 rfl (up_new 12 rfl (up_new 13 rfl (up_old rfl rfl (up_old rfl rfl (up_old rfl rfl (up_old rfl rfl up_nil)))))))))))))))))) (fun H locs hP hS => ?_)
  refine jn0_at (∀ (H : Heap) (locs : List Loc) (ls : Array Slot), va_P D vwCl (cMain Y nN (hT 0) uD uX (aN 0) uA uZ uW uP uK uL nS ++ cTold Y hT tT ++ cStand Y aN (hT 0) vN gN ++ cRow Y vN 8 fN) H → va_S A s.heap H locs → lv_has ls 3 [] → W p l e (headSpec wsX4_roll rmX4_roll).room s m ([.ref (nN 0), .int i1, .int i2] : List Value).toArray below meth c H locs 0 0 QQ (F0 m 16 ls [])) hM (fun  hM H locs ls hP hS hl => ?_) (fun k3 hJ3 hM => ?_)
  · refine lv_bipush (v := (-2 : Int32)) hx hb dX4_roll_16 (by decide) ?_
    cases hM
    rw [hQQ]
    exact W.iret hx hb hr (fun t ht hW => ⟨⟨_, (), rfl, rfl, by show va_P D vwCl _ t.heap; rw [ht]; exact hP⟩, hS.F ht⟩) hS.2.2 dX4_roll_18
  · refine lv_if_eq (tgt := 16) hx hb dX4_roll_5 (by decide) (fun c4 => ?_) (fun c4 => ?_)
    · replace hM := if_at_pos hM c4
      exact hJ3 hM H locs ls hP hS (lv_sub hl [] rfl)
    · replace hM := if_at_neg hM c4
      refine lv_aload_n hx hb dX4_roll_8 rfl (lv_at hl 0 rfl) ?_
      refine lv_iload_n hx hb dX4_roll_9 rfl (lv_at hl 2 rfl) ?_
      obtain ⟨r5, hc6, hM⟩ := bnd1_at hM
      refine cm_i (w2 := (cMain Y nN (hT 0) uD uX (aN 0) uA uZ uW uP uK uL nS ++ cTold Y hT tT ++ cStand Y aN (hT 0) vN gN ++ cRow Y vN 8 fN)) (va_runV (As := [.int i2]) (rest := []) ⟨hx, hb, hml, hown, hts⟩ (ctX4_isPlot l D Y nN hT uD uX (aN 0) uA uZ uW uP uK uL H.size nS tT i2 r5 hc6) (cwV 1 hts gX4_roll_X4_isPlot rfl rfl rfl (by decide +kernel) ⟨Nat.le_of_ble_eq_true rfl, Nat.le_of_ble_eq_true rfl⟩) (pcW_V (ci := 4) (q0 := 0) hK hP (hD.same rfl) [0, 1, 2, 3, 4, 5, 6, 7, 8, 9, 10, 11, 12, 13] rfl (pc_map (pc_cons rfl (pc_cons rfl (pc_cons rfl (pc_cons rfl (pc_cons rfl (pc_cons rfl (pc_cons rfl (pc_cons rfl (pc_cons rfl (pc_cons rfl (pc_cons rfl (pc_cons rfl (pc_cons rfl (pc_cons rfl pc_nil))))))))))))))) rfl rfl) rfl rfl hl.1 rfl (lv_room (Nat.le_of_ble_eq_true rfl)) dX4_roll_10 ⟨Nat.zero_le _, Nat.zero_le _⟩) hP (hD.same rfl) hS hA [0, 1, 2, 3, 4, 5, 6, 7, 8, 9, 10, 11, 12, 13] (pc_map (pc_cons rfl (pc_cons rfl (pc_cons rfl (pc_cons rfl (pc_cons rfl (pc_cons rfl (pc_cons rfl (pc_cons rfl (pc_cons rfl (pc_cons rfl (pc_cons rfl (pc_cons rfl (pc_cons rfl (pc_cons rfl pc_nil))))))))))))))) (up_new 0 rfl (up_new 1 rfl (up_new 2 rfl (up_new 3 rfl (up_new 4 rfl (up_new 5 rfl (up_new 6 rfl (up_new 7 rfl (up_new 8 rfl (up_new 9 rfl (up_new 10 rfl (up_new 11 rfl (up_new 12 rfl (up_new 13 rfl (up_old rfl rfl (up_old rfl rfl (up_old rfl rfl (up_old rfl rfl up_nil)))))))))))))))))) (fun H locs hP hS => ?_)
      refine lv_if_ne (tgt := 19) hx hb dX4_roll_13 (by decide) (fun c7 => ?_) (fun c7 => ?_)
      · replace hM := if_at_neg hM c7
        refine lv_aload_n hx hb dX4_roll_19 rfl (lv_at hl 0 rfl) ?_
        refine va_get hx hb hts hi4 hown hK hP 0 rfl rfl 3 (by decide) (hts (.fieldLink RX4 31 "NightPlots" "now" "LNightPlots$Standing;") (List.mem_of_getElem? (i := 1) rfl)) (fun _ h9 => h9) rfl dX4_roll_20 ?_
        refine lv_iload_n hx hb dX4_roll_23 rfl (lv_at hl 1 rfl) ?_
        refine lv_iload_n hx hb dX4_roll_24 rfl (lv_at hl 2 rfl) ?_
        obtain ⟨r8, fW_9, hc10, hM⟩ := bnd2_at hM
        refine cm_i (w2 := (cMain Y nN (hT 0) uD uX (aN 0) uA uZ uW uP uK uL nS ++ cTold Y hT tT ++ cStand Y aN (hT 0) vN gN ++ cRow Y vN 8 fW_9)) (va_runV (As := [.int i1, .int i2]) (rest := []) ⟨hx, hb, hml, hown, hts⟩ (ctX1_hasWayTo l D Y aN vN hT H.size gN fN tT i1 i2 r8 fW_9 hc10) (cwV 2 hts gX4_roll_X1_hasWayTo rfl rfl rfl (by decide +kernel) ⟨Nat.le_of_ble_eq_true rfl, Nat.le_of_ble_eq_true rfl⟩) (pcW_V (ci := 1) (q0 := 14) hK hP (hD.same rfl) [14, 15, 16, 17, 6, 7, 8, 9, 10, 11, 12, 13] rfl (pc_map (pc_cons rfl (pc_cons rfl (pc_cons rfl (pc_cons rfl (pc_cons rfl (pc_cons rfl (pc_cons rfl (pc_cons rfl (pc_cons rfl (pc_cons rfl (pc_cons rfl (pc_cons rfl pc_nil))))))))))))) rfl rfl) rfl rfl hl.1 rfl (lv_room (Nat.le_of_ble_eq_true rfl)) dX4_roll_25 ⟨Nat.zero_le _, Nat.zero_le _⟩) hP (hD.same rfl) hS hA [14, 15, 16, 17, 6, 7, 8, 9, 10, 11, 12, 13] (pc_map (pc_cons rfl (pc_cons rfl (pc_cons rfl (pc_cons rfl (pc_cons rfl (pc_cons rfl (pc_cons rfl (pc_cons rfl (pc_cons rfl (pc_cons rfl (pc_cons rfl (pc_cons rfl pc_nil))))))))))))) (up_old rfl rfl (up_old rfl rfl (up_old rfl rfl (up_old rfl rfl (up_old rfl rfl (up_old rfl rfl (up_new 4 rfl (up_new 5 rfl (up_new 6 rfl (up_new 7 rfl (up_new 8 rfl (up_new 9 rfl (up_new 10 rfl (up_new 11 rfl (up_new 0 rfl (up_new 1 rfl (up_new 2 rfl (up_new 3 rfl up_nil)))))))))))))))))) (fun H locs hP hS => ?_)
        refine lv_if_ne (tgt := 34) hx hb dX4_roll_28 (by decide) (fun c11 => ?_) (fun c11 => ?_)
        · replace hM := if_at_neg hM c11
          refine lv_aload_n hx hb dX4_roll_34 rfl (lv_at hl 0 rfl) ?_
          refine va_get hx hb hts hi4 hown hK hP 0 rfl rfl 3 (by decide) (hts (.fieldLink RX4 31 "NightPlots" "now" "LNightPlots$Standing;") (List.mem_of_getElem? (i := 1) rfl)) (fun _ h9 => h9) rfl dX4_roll_35 ?_
          refine va_get hx hb hts hi1 hown hK hP 14 rfl rfl 5 (by decide) (hts (.fieldLink RX4 119 "NightPlots$Standing" "nights" "I") (List.mem_of_getElem? (i := 2) rfl)) (fun _ h9 => h9) rfl dX4_roll_38 ?_
          refine lv_sipush (v := (9999 : Int32)) hx hb dX4_roll_41 (by decide) ?_
          refine lv_icmp_lt (tgt := 50) hx hb dX4_roll_44 (by decide) (fun c12 => ?_) (fun c12 => ?_)
          · replace hM := if_at_pos hM c12
            refine lv_aload_n hx hb dX4_roll_50 rfl (lv_at hl 0 rfl) ?_
            refine va_get hx hb hts hi4 hown hK hP 0 rfl rfl 3 (by decide) (hts (.fieldLink RX4 31 "NightPlots" "now" "LNightPlots$Standing;") (List.mem_of_getElem? (i := 1) rfl)) (fun _ h9 => h9) rfl dX4_roll_51 ?_
            refine lv_iload_n hx hb dX4_roll_54 rfl (lv_at hl 1 rfl) ?_
            refine lv_iload_n hx hb dX4_roll_55 rfl (lv_at hl 2 rfl) ?_
            refine lv_aload_n hx hb dX4_roll_56 rfl (lv_at hl 0 rfl) ?_
            refine va_get hx hb hts hi4 hown hK hP 0 rfl rfl 0 (by decide) (hts (.fieldLink RX4 12 "NightPlots" "told" "LNightPlots$Told;") (List.mem_of_getElem? (i := 3) rfl)) (fun _ h9 => h9) rfl dX4_roll_57 ?_
            refine va_get hx hb hts hi3 hown hK hP 6 rfl rfl 4 (by decide) (hts (.fieldLink RX4 130 "NightPlots$Told" "law" "I") (List.mem_of_getElem? (i := 4) rfl)) (fun _ h9 => h9) rfl dX4_roll_60 ?_
            obtain ⟨gS_13, hc14, hM⟩ := bnd1_at hM
            refine cm_v (w2 := (cMain Y nN (hT 0) uD uX (aN 0) uA uZ uW uP uK uL nS ++ cTold Y hT tT ++ cStand Y aN (hT 0) vN gS_13 ++ cRow Y vN 8 fW_9)) (va_runV (As := [.int i1, .int i2, .int (tT 0 4)]) (rest := []) ⟨hx, hb, hml, hown, hts⟩ (ctX1_passNightOf l D Y aN hT vN H.size gN tT i1 i2 (tT 0 4) gS_13 hc14) (cwV 3 hts gX4_roll_X1_passNightOf rfl rfl rfl (by decide +kernel) ⟨Nat.le_of_ble_eq_true rfl, Nat.le_of_ble_eq_true rfl⟩) (pcW_V (ci := 1) (q0 := 14) hK hP (hD.same rfl) [14, 15, 16, 6, 7, 8, 9, 10, 11, 12, 13] rfl (pc_map (pc_cons rfl (pc_cons rfl (pc_cons rfl (pc_cons rfl (pc_cons rfl (pc_cons rfl (pc_cons rfl (pc_cons rfl (pc_cons rfl (pc_cons rfl (pc_cons rfl pc_nil)))))))))))) rfl rfl) rfl rfl hl.1 rfl (lv_room (Nat.le_of_ble_eq_true rfl)) dX4_roll_63 ⟨Nat.zero_le _, Nat.zero_le _⟩) hP (hD.same rfl) hS hA [14, 15, 16, 6, 7, 8, 9, 10, 11, 12, 13] (pc_map (pc_cons rfl (pc_cons rfl (pc_cons rfl (pc_cons rfl (pc_cons rfl (pc_cons rfl (pc_cons rfl (pc_cons rfl (pc_cons rfl (pc_cons rfl (pc_cons rfl pc_nil)))))))))))) (up_old rfl rfl (up_old rfl rfl (up_old rfl rfl (up_old rfl rfl (up_old rfl rfl (up_old rfl rfl (up_new 3 rfl (up_new 4 rfl (up_new 5 rfl (up_new 6 rfl (up_new 7 rfl (up_new 8 rfl (up_new 9 rfl (up_new 10 rfl (up_new 0 rfl (up_new 1 rfl (up_new 2 rfl (up_old rfl rfl up_nil)))))))))))))))))) (fun H locs hP hS => ?_)
            refine lv_aload_n hx hb dX4_roll_66 rfl (lv_at hl 0 rfl) ?_
            refine va_get hx hb hts hi4 hown hK hP 0 rfl rfl 3 (by decide) (hts (.fieldLink RX4 31 "NightPlots" "now" "LNightPlots$Standing;") (List.mem_of_getElem? (i := 1) rfl)) (fun _ h9 => h9) rfl dX4_roll_67 ?_
            refine va_get hx hb hts hi1 hown hK hP 14 rfl rfl 5 (by decide) (hts (.fieldLink RX4 119 "NightPlots$Standing" "nights" "I") (List.mem_of_getElem? (i := 2) rfl)) (fun _ h9 => h9) rfl dX4_roll_70 ?_
            cases hM
            rw [hQQ]
            exact W.iret hx hb hr (fun t ht hW => ⟨⟨_, (), rfl, rfl, by show va_P D vwCl _ t.heap; rw [ht]; exact hP⟩, hS.F ht⟩) hS.2.2 dX4_roll_73
          · replace hM := if_at_neg hM c12
            refine lv_bipush (v := (-5 : Int32)) hx hb dX4_roll_47 (by decide) ?_
            cases hM
            rw [hQQ]
            exact W.iret hx hb hr (fun t ht hW => ⟨⟨_, (), rfl, rfl, by show va_P D vwCl _ t.heap; rw [ht]; exact hP⟩, hS.F ht⟩) hS.2.2 dX4_roll_49
        · replace hM := if_at_pos hM c11
          refine lv_bipush (v := (-4 : Int32)) hx hb dX4_roll_31 (by decide) ?_
          cases hM
          rw [hQQ]
          exact W.iret hx hb hr (fun t ht hW => ⟨⟨_, (), rfl, rfl, by show va_P D vwCl _ t.heap; rw [ht]; exact hP⟩, hS.F ht⟩) hS.2.2 dX4_roll_33
      · replace hM := if_at_pos hM c7
        exact hJ3 hM H locs ls hP hS (lv_sub hl [] rfl)
noncomputable def MX4_keep (nS : GS) (gN : GS) (gK : GS) (gL : GS) (i1 : Int32) : Option (Int32 × GS × GS × GS) := jn0 (some ((-2 : Int32), nS, gK, gL)) (fun k1 => if i1 < 0 then (k1) else (if i1 < (2 : Int32) then (chkI i1 2 (if i1 = 0 then (bnd1 (MX1_copyFrom gK gN) fun (gS_6 : GS) => chkI i1 2 (nm (upA nS 2 (upd (nS 2) i1.toNatClampNeg (vp_nar .boolean (1 : Int32)))) fun (nS_9 : GS) => some ((gN 0 5), nS_9, gS_6, gL))) else (bnd1 (MX1_copyFrom gL gN) fun (gS_10 : GS) => chkI i1 2 (nm (upA nS 2 (upd (nS 2) i1.toNatClampNeg (vp_nar .boolean (1 : Int32)))) fun (nS_13 : GS) => some ((gN 0 5), nS_13, gK, gS_10))))) else (k1)))
abbrev rmX4_keep : Room := { frames := 3, cells := 0, slots := 0, locals := 120 }
set_option maxHeartbeats 4000000 in
set_option maxRecDepth 100000 in
theorem ctX4_keep (l : Launch) (D : va_G) (Y : Nat → ClassId) (nN : Nat → Nat) (aN : Nat → Nat) (aK : Nat → Nat) (aL : Nat → Nat) (uT : Nat) (uD : Nat) (uX : Nat) (uA : Nat) (uZ : Nat) (uW : Nat) (uP : Nat) (vN : Nat) (vK : Nat) (vL : Nat) (sz : Nat) (nS : GS) (gN : GS) (gK : GS) (gL : GS) (i1 : Int32) (rr : Int32) (nSz : GS) (gKz : GS) (gLz : GS) (hM : MX4_keep nS gN gK gL i1 = some (rr, nSz, gKz, gLz)) : Met l yX4_keep wsX4_keep rmX4_keep (pcW [.ref (nN 0), .int i1] sz D Y (cMain Y nN uT uD uX (aN 0) uA uZ uW uP (aK 0) (aL 0) nS ++ cStand Y aN uT vN gN ++ cStand Y aK uT vK gK ++ cStand Y aL uT vL gL)) (qiW rr D (cMain Y nN uT uD uX (aN 0) uA uZ uW uP (aK 0) (aL 0) nSz ++ cStand Y aN uT vN gN ++ cStand Y aK uT vK gKz ++ cStand Y aL uT vL gLz) (va_A (cMain Y nN uT uD uX (aN 0) uA uZ uW uP (aK 0) (aL 0) nS ++ cStand Y aN uT vN gN ++ cStand Y aK uT vK gK ++ cStand Y aL uT vL gL) sz)) 0 0 (va_A (cMain Y nN uT uD uX (aN 0) uA uZ uW uP (aK 0) (aL 0) nS ++ cStand Y aN uT vN gN ++ cStand Y aK uT vK gK ++ cStand Y aL uT vL gL) sz) := by
  refine Met.ofW (cc := cX4_keep) (maxL := 2) (ret := (some .int)) (by decide) rfl ?_
  intro p e s m args below meth c s₁ B hml hv
  obtain ⟨rfl, hsz, hP, hK, hD0⟩ := hv
  have hx := B.exec
  have hb := B.bytes
  have hr := B.returns
  have hts := atoms_spec (ws := wsX4_keep) B.pre
  have hown : s.vm.findClass RX4 = some m.cls := findClass_of_methodNamed B.named
  have hlocks := B.notSynchronized
  subst hsz
  have hD := hD0.self (sz := s.heap.size)
  generalize hAe : va_A (cMain Y nN uT uD uX (aN 0) uA uZ uW uP (aK 0) (aL 0) nS ++ cStand Y aN uT vN gN ++ cStand Y aK uT vK gK ++ cStand Y aL uT vL gL) s.heap.size = A at hD ⊢
  have hA : ∀ q : Nat, s.heap.size ≤ q → A q := fun q h => by rw [← hAe]; exact Or.inr h
  have hS : va_S A s.heap s.heap [] := va_S.rf
  have hi1 : ∀ w ∈ wsX10, w ∈ wsX4_keep := fun w h => List.mem_cons_of_mem _ (List.mem_append_right _ h)
  have hi4 : ∀ w ∈ wsX40, w ∈ wsX4_keep := fun w h => List.mem_cons_of_mem _ (List.mem_append_left _ (List.mem_append_right _ h))
  have hl := lv_entry ([.ref (nN 0), .int i1]) (n := 2) (Nat.le_of_ble_eq_true rfl)
  rw [lg_entry_eq]
  generalize (lg_sl ([.ref (nN 0), .int i1]) ++ List.replicate (2 - (lg_sl ([.ref (nN 0), .int i1])).length) Slot.unset).toArray = ls at hl ⊢
  have hl : lv_has ls 2 [(0, .ref (nN 0)), (1, .int i1)] := hl
  obtain ⟨QQ, hQQ⟩ : ∃ Q : State → Prop, Q = MQ below (qiW rr D (cMain Y nN uT uD uX (aN 0) uA uZ uW uP (aK 0) (aL 0) nSz ++ cStand Y aN uT vN gN ++ cStand Y aK uT vK gKz ++ cStand Y aL uT vL gLz) A) ([.ref (nN 0), .int i1] : List Value).toArray s 0 0 A := ⟨_, rfl⟩
  rw [← hQQ]
  unfold MX4_keep at hM
  suffices hI : ∀ (H : Heap) (locs : List Loc), va_P D vwCl (cMain Y nN uT uD uX (aN 0) uA uZ uW uP (aK 0) (aL 0) nS ++ cStand Y aN uT vN gN ++ cStand Y aK uT vK gK ++ cStand Y aL uT vL gL) H → va_S A s.heap H locs → W p l e (headSpec wsX4_keep rmX4_keep).room s m ([.ref (nN 0), .int i1] : List Value).toArray below meth c H locs 0 0 QQ (F0 m 0 ls []) from hI _ _ hP hS
  clear hP hS
  intro H locs hP hS
  refine lv_iload_n hx hb dX4_keep_0 rfl (lv_at hl 1 rfl) ?_
  refine jn0_at (∀ (H : Heap) (locs : List Loc) (ls : Array Slot), va_P D vwCl (cMain Y nN uT uD uX (aN 0) uA uZ uW uP (aK 0) (aL 0) nS ++ cStand Y aN uT vN gN ++ cStand Y aK uT vK gK ++ cStand Y aL uT vL gL) H → va_S A s.heap H locs → lv_has ls 2 [] → W p l e (headSpec wsX4_keep rmX4_keep).room s m ([.ref (nN 0), .int i1] : List Value).toArray below meth c H locs 0 0 QQ (F0 m 9 ls [])) hM (fun  hM H locs ls hP hS hl => ?_) (fun k1 hJ1 hM => ?_)
  · refine lv_bipush (v := (-2 : Int32)) hx hb dX4_keep_9 (by decide) ?_
    cases hM
    rw [hQQ]
    exact W.iret hx hb hr (fun t ht hW => ⟨⟨_, (), rfl, rfl, by show va_P D vwCl _ t.heap; rw [ht]; exact hP⟩, hS.F ht⟩) hS.2.2 dX4_keep_11
  · refine lv_if_lt (tgt := 9) hx hb dX4_keep_1 (by decide) (fun c2 => ?_) (fun c2 => ?_)
    · replace hM := if_at_pos hM c2
      exact hJ1 hM H locs ls hP hS (lv_sub hl [] rfl)
    · replace hM := if_at_neg hM c2
      refine lv_iload_n hx hb dX4_keep_4 rfl (lv_at hl 1 rfl) ?_
      refine lv_iconst (v := (2 : Int32)) hx hb dX4_keep_5 (by decide) ?_
      refine lv_icmp_lt (tgt := 12) hx hb dX4_keep_6 (by decide) (fun c3 => ?_) (fun c3 => ?_)
      · replace hM := if_at_pos hM c3
        refine lv_aload_n hx hb dX4_keep_12 rfl (lv_at hl 0 rfl) ?_
        refine va_get hx hb hts hi4 hown hK hP 0 rfl rfl 5 (by decide) (hts (.fieldLink RX4 38 "NightPlots" "kept" "[LNightPlots$Standing;") (List.mem_of_getElem? (i := 1) rfl)) (fun _ h9 => h9) rfl dX4_keep_13 ?_
        refine lv_iload_n hx hb dX4_keep_16 rfl (lv_at hl 1 rfl) ?_
        obtain ⟨hi_4, hM⟩ := chkI_at hM
        by_cases c5 : i1 = 0
        · replace hM := if_at_pos hM c5
          refine va_ald1 (v := .ref (aK 0)) hx hb hK hP 1 3 rfl rfl hi_4 (by rw [c5]; rfl) dX4_keep_17 ?_
          refine lv_aload_n hx hb dX4_keep_18 rfl (lv_at hl 0 rfl) ?_
          refine va_get hx hb hts hi4 hown hK hP 0 rfl rfl 3 (by decide) (hts (.fieldLink RX4 31 "NightPlots" "now" "LNightPlots$Standing;") (List.mem_of_getElem? (i := 2) rfl)) (fun _ h9 => h9) rfl dX4_keep_19 ?_
          obtain ⟨gS_6, hc7, hM⟩ := bnd1_at hM
          refine cm_v (w2 := (cMain Y nN uT uD uX (aN 0) uA uZ uW uP (aK 0) (aL 0) nS ++ cStand Y aN uT vN gN ++ cStand Y aK uT vK gS_6 ++ cStand Y aL uT vL gL)) (va_runV (As := [.ref (aN 0)]) (rest := []) ⟨hx, hb, hml, hown, hts⟩ (ctX1_copyFrom l D Y aK aN uT vK uT vN H.size gK gN gS_6 hc7) (cwV 1 hts gX4_keep_X1_copyFrom rfl rfl rfl (by decide +kernel) ⟨Nat.le_of_ble_eq_true rfl, Nat.le_of_ble_eq_true rfl⟩) (pcW_V (ci := 1) (q0 := 9) hK hP (hD.same rfl) [9, 10, 11, 6, 7, 8] rfl (pc_map (pc_cons rfl (pc_cons rfl (pc_cons rfl (pc_cons rfl (pc_cons rfl (pc_cons rfl pc_nil))))))) rfl rfl) rfl rfl hl.1 rfl (lv_room (Nat.le_of_ble_eq_true rfl)) dX4_keep_22 ⟨Nat.zero_le _, Nat.zero_le _⟩) hP (hD.same rfl) hS hA [9, 10, 11, 6, 7, 8] (pc_map (pc_cons rfl (pc_cons rfl (pc_cons rfl (pc_cons rfl (pc_cons rfl (pc_cons rfl pc_nil))))))) (up_old rfl rfl (up_old rfl rfl (up_old rfl rfl (up_old rfl rfl (up_old rfl rfl (up_old rfl rfl (up_new 3 rfl (up_new 4 rfl (up_new 5 rfl (up_new 0 rfl (up_new 1 rfl (up_new 2 rfl (up_old rfl rfl (up_old rfl rfl (up_old rfl rfl up_nil))))))))))))))) (fun H locs hP hS => ?_)
          refine lv_aload_n hx hb dX4_keep_25 rfl (lv_at hl 0 rfl) ?_
          refine va_get hx hb hts hi4 hown hK hP 0 rfl rfl 6 (by decide) (hts (.fieldLink RX4 42 "NightPlots" "isKept" "[Z") (List.mem_of_getElem? (i := 3) rfl)) (fun _ h9 => h9) rfl dX4_keep_26 ?_
          refine lv_iload_n hx hb dX4_keep_29 rfl (lv_at hl 1 rfl) ?_
          refine lv_iconst (v := (1 : Int32)) hx hb dX4_keep_30 (by decide) ?_
          obtain ⟨hi_8, hM⟩ := chkI_at hM
          refine va_zast hx hb hK hP (hD.same rfl) hS 2 2 rfl rfl hi_8 dX4_keep_31 (fun H locs hP _ hS => ?_)
          obtain ⟨nS_9, enS_9⟩ : ∃ z : GS, z = (upA nS 2 (upd (nS 2) i1.toNatClampNeg (vp_nar .boolean (1 : Int32)))) := ⟨_, rfl⟩
          have hP : va_P D vwCl (cMain Y nN uT uD uX (aN 0) uA uZ uW uP (aK 0) (aL 0) nS_9 ++ cStand Y aN uT vN gN ++ cStand Y aK uT vK gS_6 ++ cStand Y aL uT vL gL) H := by rw [enS_9]; exact hP
          replace hM := nm_at hM enS_9
          refine lv_aload_n hx hb dX4_keep_32 rfl (lv_at hl 0 rfl) ?_
          refine va_get hx hb hts hi4 hown hK hP 0 rfl rfl 3 (by decide) (hts (.fieldLink RX4 31 "NightPlots" "now" "LNightPlots$Standing;") (List.mem_of_getElem? (i := 2) rfl)) (fun _ h9 => h9) rfl dX4_keep_33 ?_
          refine va_get hx hb hts hi1 hown hK hP 6 rfl rfl 5 (by decide) (hts (.fieldLink RX4 119 "NightPlots$Standing" "nights" "I") (List.mem_of_getElem? (i := 4) rfl)) (fun _ h9 => h9) rfl dX4_keep_36 ?_
          cases hM
          rw [hQQ]
          exact W.iret hx hb hr (fun t ht hW => ⟨⟨_, (), rfl, rfl, by show va_P D vwCl _ t.heap; rw [ht]; exact hP⟩, hS.F ht⟩) hS.2.2 dX4_keep_39
        · replace hM := if_at_neg hM c5
          refine va_ald1 (v := .ref (aL 0)) hx hb hK hP 1 3 rfl rfl hi_4 (by rw [in2 hi_4 c5]; rfl) dX4_keep_17 ?_
          refine lv_aload_n hx hb dX4_keep_18 rfl (lv_at hl 0 rfl) ?_
          refine va_get hx hb hts hi4 hown hK hP 0 rfl rfl 3 (by decide) (hts (.fieldLink RX4 31 "NightPlots" "now" "LNightPlots$Standing;") (List.mem_of_getElem? (i := 2) rfl)) (fun _ h9 => h9) rfl dX4_keep_19 ?_
          obtain ⟨gS_10, hc11, hM⟩ := bnd1_at hM
          refine cm_v (w2 := (cMain Y nN uT uD uX (aN 0) uA uZ uW uP (aK 0) (aL 0) nS ++ cStand Y aN uT vN gN ++ cStand Y aK uT vK gK ++ cStand Y aL uT vL gS_10)) (va_runV (As := [.ref (aN 0)]) (rest := []) ⟨hx, hb, hml, hown, hts⟩ (ctX1_copyFrom l D Y aL aN uT vL uT vN H.size gL gN gS_10 hc11) (cwV 1 hts gX4_keep_X1_copyFrom rfl rfl rfl (by decide +kernel) ⟨Nat.le_of_ble_eq_true rfl, Nat.le_of_ble_eq_true rfl⟩) (pcW_V (ci := 1) (q0 := 12) hK hP (hD.same rfl) [12, 13, 14, 6, 7, 8] rfl (pc_map (pc_cons rfl (pc_cons rfl (pc_cons rfl (pc_cons rfl (pc_cons rfl (pc_cons rfl pc_nil))))))) rfl rfl) rfl rfl hl.1 rfl (lv_room (Nat.le_of_ble_eq_true rfl)) dX4_keep_22 ⟨Nat.zero_le _, Nat.zero_le _⟩) hP (hD.same rfl) hS hA [12, 13, 14, 6, 7, 8] (pc_map (pc_cons rfl (pc_cons rfl (pc_cons rfl (pc_cons rfl (pc_cons rfl (pc_cons rfl pc_nil))))))) (up_old rfl rfl (up_old rfl rfl (up_old rfl rfl (up_old rfl rfl (up_old rfl rfl (up_old rfl rfl (up_new 3 rfl (up_new 4 rfl (up_new 5 rfl (up_old rfl rfl (up_old rfl rfl (up_old rfl rfl (up_new 0 rfl (up_new 1 rfl (up_new 2 rfl up_nil))))))))))))))) (fun H locs hP hS => ?_)
          refine lv_aload_n hx hb dX4_keep_25 rfl (lv_at hl 0 rfl) ?_
          refine va_get hx hb hts hi4 hown hK hP 0 rfl rfl 6 (by decide) (hts (.fieldLink RX4 42 "NightPlots" "isKept" "[Z") (List.mem_of_getElem? (i := 3) rfl)) (fun _ h9 => h9) rfl dX4_keep_26 ?_
          refine lv_iload_n hx hb dX4_keep_29 rfl (lv_at hl 1 rfl) ?_
          refine lv_iconst (v := (1 : Int32)) hx hb dX4_keep_30 (by decide) ?_
          obtain ⟨hi_12, hM⟩ := chkI_at hM
          refine va_zast hx hb hK hP (hD.same rfl) hS 2 2 rfl rfl hi_12 dX4_keep_31 (fun H locs hP _ hS => ?_)
          obtain ⟨nS_13, enS_13⟩ : ∃ z : GS, z = (upA nS 2 (upd (nS 2) i1.toNatClampNeg (vp_nar .boolean (1 : Int32)))) := ⟨_, rfl⟩
          have hP : va_P D vwCl (cMain Y nN uT uD uX (aN 0) uA uZ uW uP (aK 0) (aL 0) nS_13 ++ cStand Y aN uT vN gN ++ cStand Y aK uT vK gK ++ cStand Y aL uT vL gS_10) H := by rw [enS_13]; exact hP
          replace hM := nm_at hM enS_13
          refine lv_aload_n hx hb dX4_keep_32 rfl (lv_at hl 0 rfl) ?_
          refine va_get hx hb hts hi4 hown hK hP 0 rfl rfl 3 (by decide) (hts (.fieldLink RX4 31 "NightPlots" "now" "LNightPlots$Standing;") (List.mem_of_getElem? (i := 2) rfl)) (fun _ h9 => h9) rfl dX4_keep_33 ?_
          refine va_get hx hb hts hi1 hown hK hP 6 rfl rfl 5 (by decide) (hts (.fieldLink RX4 119 "NightPlots$Standing" "nights" "I") (List.mem_of_getElem? (i := 4) rfl)) (fun _ h9 => h9) rfl dX4_keep_36 ?_
          cases hM
          rw [hQQ]
          exact W.iret hx hb hr (fun t ht hW => ⟨⟨_, (), rfl, rfl, by show va_P D vwCl _ t.heap; rw [ht]; exact hP⟩, hS.F ht⟩) hS.2.2 dX4_keep_39
      · replace hM := if_at_neg hM c3
        exact hJ1 hM H locs ls hP hS (lv_sub hl [] rfl)
